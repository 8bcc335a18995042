theorem rc_ok {v row : Int32} (h : fM_rowCode v row ≤ 0) : ¬ v = 0 ∧ ¬ row < 0 ∧ row < v := by
  unfold fM_rowCode at h
  split at h
  · exact absurd h (by decide)
  · rename_i h0
    split at h
    · exact absurd h (by decide)
    · rename_i h1
      split at h
      · rename_i h2
        exact ⟨h0, h1, h2⟩
      · exact absurd h (by decide)
theorem n8_0 {i : Nat} (h : i < 16) : vp_in (8 * nI i) 128 := by
  have e : (8 : Int32) * nI i = nI (8 * i) := pk_mul 8 i
  rw [e]; exact vp_in_nI (by omega) (by omega)
theorem n8_1 {i : Nat} {x : Int32} (k : Nat) (h : i < 16) (hk : k < 7) (e : x = nI k) : vp_in (8 * nI i + 1 + x) 128 := by
  have e1 : (8 : Int32) * nI i + 1 + x = nI (8 * i + 1 + k) := by
    rw [e, show (8 : Int32) * nI i = nI (8 * i) from pk_mul 8 i, nI_1, nI_add]
  rw [e1]; exact vp_in_nI (by omega) (by omega)
theorem n8_2 {i : Nat} {x : Int32} (k : Nat) (h : i < 16) (hk : k < 6) (e : x = nI k) : vp_in (8 * nI i + 2 + x) 128 := by
  have e1 : (8 : Int32) * nI i + 2 + x = nI (8 * i + 2 + k) := by
    rw [e, show (8 : Int32) * nI i = nI (8 * i) from pk_mul 8 i, show nI (8 * i) + (2 : Int32) = nI (8 * i + 2) from nI_add _ 2, nI_add]
  rw [e1]; exact vp_in_nI (by omega) (by omega)
theorem n8_3 {i : Nat} (h : i < 16) : vp_in (8 * nI i + 1) 128 := by
  have e1 : (8 : Int32) * nI i + 1 = nI (8 * i + 1) := by
    rw [show (8 : Int32) * nI i = nI (8 * i) from pk_mul 8 i, nI_1]
  rw [e1]; exact vp_in_nI (by omega) (by omega)
theorem nx_9 {row : Int32} {tz : Nat} (hz : tz ≤ 16) (h1 : ¬ row < 0) (h2 : row < nI tz) : ∃ r : Nat, r < tz ∧ row = nI r := by
  obtain ⟨j, hj, rfl⟩ := nI_of h1
  exact ⟨j, (nI_ltI hj (by omega)).mp h2, rfl⟩
abbrev m8 (row : Int32) : Prop := vp_in row 16 ∧ vp_in (8 * row) 128 ∧ vp_in (8 * row + 1) 128 ∧ (∀ (x : Int32) (k : Nat), k < 6 → x = nI k → vp_in (8 * row + 2 + x) 128) ∧ (∀ (x : Int32) (k : Nat), k < 7 → x = nI k → vp_in (8 * row + 1 + x) 128)
theorem m8_n {r : Nat} (h : r < 16) : m8 (nI r) := ⟨nx_16 h, n8_0 h, n8_3 h, fun x k hk e => n8_2 k h hk e, fun x k hk e => n8_1 k h hk e⟩
theorem m8_r {row : Int32} {tz : Nat} (hz : tz ≤ 16) (h1 : ¬ row < 0) (h2 : row < nI tz) : m8 row := by
  obtain ⟨r, hr, rfl⟩ := nx_9 hz h1 h2
  exact m8_n (by omega)
theorem nx_mh {k : Int32} (h1 : ¬ k < 0) (h2 : ¬ 16 ≤ k) : vp_in k 16 := by
  obtain ⟨j, hj, rfl⟩ := nI_of h1
  exact nx_16 (nx_lt (a := j) (b := 16) hj (by omega) h2)
theorem nx_mh2 {k : Int32} (h1 : ¬ k < 0) (h2 : k < 16) : vp_in k 16 := by
  obtain ⟨j, hj, rfl⟩ := nI_of h1
  exact nx_16 ((nI_ltI hj (by omega)).mp (show nI j < nI 16 from h2))
theorem nx_mt {k : Int32} (h1 : ¬ k < 0) (h2 : ¬ 8 < k) : vp_in k 9 := by
  obtain ⟨j, hj, rfl⟩ := nI_of h1
  exact vp_in_nI (by rcases Nat.lt_or_ge j 9 with h | h; exact h; exact absurd ((nI_ltI (a := 8) (b := j) (by omega) hj).mpr (by omega)) h2) (by omega)

def fM_turn (gC : Nat → Int32) (gS : Nat → Int32) (k : Int32) (co : Int32) (si : Int32) : (Nat → Int32) × (Nat → Int32) := (upd gC (Int32.toNatClampNeg k) co, upd gS (Int32.toNatClampNeg k) si)
set_option maxHeartbeats 1000000 in
set_option maxRecDepth 100000 in
theorem ct_M_turn (l : Launch) (dC : Nat → ClassId) (dI : Nat → Nat → Nat) (cC cI cJ : ClassId) (nA : Nat) (nT : Nat) (nO : Nat) (nU : Nat) (nV : Nat) (nX : Nat) (nY : Nat) (nR : Nat) (nC : Nat) (nS : Nat) (gT : Nat → Int32) (gO : Nat → Int32) (gU : Nat → Int32) (gV : Nat → Int32) (gX : Nat → Int64) (gY : Nat → Int64) (gR : Nat → Int64) (gC : Nat → Int32) (gS : Nat → Int32) (vc : Int32) (vs : Int32) (va : Int32) (vf : Int32) (vr : Int32) (vw : Int64) (vh : Int64) (vt : Int64) (vd : Int64) (k : Int32) (co : Int32) (si : Int32)  (hk : vp_in k 9) : Met l my_M_turn (.code my_M_turn mb_M_turn 4 none :: gw_l) ({ frames := 0, cells := 0, slots := 0, locals := 0 }) (mu_Pc (dC, dI) mC [(cC, .char), (cI, .int), (cJ, .long)] [(nA, .inr (5, [.int vc, .ref nT, .int vs, .int va, .int vf, .int vr, .ref nO, .ref nU, .ref nV, .long vw, .long vh, .long vt, .long vd, .ref nX, .ref nY, .ref nR, .ref nC, .ref nS])), (nT, .inl (cI, 300, .inl gT)), (nO, .inl (cI, 128, .inl gO)), (nU, .inl (cI, 128, .inl gU)), (nV, .inl (cI, 16, .inl gV)), (nX, .inl (cJ, 16, .inr (.inl gX))), (nY, .inl (cJ, 16, .inr (.inl gY))), (nR, .inl (cJ, 16, .inr (.inl gR))), (nC, .inl (cI, 9, .inl gC)), (nS, .inl (cI, 9, .inl gS))] (fun _ => True) [.ref nA, .int k, .int co, .int si]) (va_Qv (fun (u : (Nat → Int32) × (Nat → Int32)) => u = fM_turn gC gS k co si) (fun u t => va_P (dC, dI) mC [(nA, .inr (5, [.int vc, .ref nT, .int vs, .int va, .int vf, .int vr, .ref nO, .ref nU, .ref nV, .long vw, .long vh, .long vt, .long vd, .ref nX, .ref nY, .ref nR, .ref nC, .ref nS])), (nT, .inl (cI, 300, .inl gT)), (nO, .inl (cI, 128, .inl gO)), (nU, .inl (cI, 128, .inl gU)), (nV, .inl (cI, 16, .inl gV)), (nX, .inl (cJ, 16, .inr (.inl gX))), (nY, .inl (cJ, 16, .inr (.inl gY))), (nR, .inl (cJ, 16, .inr (.inl gR))), (nC, .inl (cI, 9, .inl u.1)), (nS, .inl (cI, 9, .inl u.2))] t.heap) (mu_A [(nA, .inr (5, [.int vc, .ref nT, .int vs, .int va, .int vf, .int vr, .ref nO, .ref nU, .ref nV, .long vw, .long vh, .long vt, .long vd, .ref nX, .ref nY, .ref nR, .ref nC, .ref nS])), (nT, .inl (cI, 300, .inl gT)), (nO, .inl (cI, 128, .inl gO)), (nU, .inl (cI, 128, .inl gU)), (nV, .inl (cI, 16, .inl gV)), (nX, .inl (cJ, 16, .inr (.inl gX))), (nY, .inl (cJ, 16, .inr (.inl gY))), (nR, .inl (cJ, 16, .inr (.inl gR))), (nC, .inl (cI, 9, .inl gC)), (nS, .inl (cI, 9, .inl gS))])) 0 0 (mu_A [(nA, .inr (5, [.int vc, .ref nT, .int vs, .int va, .int vf, .int vr, .ref nO, .ref nU, .ref nV, .long vw, .long vh, .long vt, .long vd, .ref nX, .ref nY, .ref nR, .ref nC, .ref nS])), (nT, .inl (cI, 300, .inl gT)), (nO, .inl (cI, 128, .inl gO)), (nU, .inl (cI, 128, .inl gU)), (nV, .inl (cI, 16, .inl gV)), (nX, .inl (cJ, 16, .inr (.inl gX))), (nY, .inl (cJ, 16, .inr (.inl gY))), (nR, .inl (cJ, 16, .inr (.inl gR))), (nC, .inl (cI, 9, .inl gC)), (nS, .inl (cI, 9, .inl gS))]) := by
  refine Met.ofW (cc := mb_M_turn) (maxL := 4) (ret := none) (by decide) rfl ?_
  intro p e s m args below meth c s₁ B hml hv
  obtain ⟨rfl, hP, hK, hD0, hE⟩ := hv
  have hx := B.exec
  have hb := B.bytes
  have hr := B.returns
  have hts := atoms_spec (ws := (.code my_M_turn mb_M_turn 4 none :: gw_l)) B.pre
  have hg : ∀ w ∈ gw_l, w.before _ s = true := fun w h => hts w (List.mem_cons_of_mem _ h)
  have hown : s.vm.findClass mR_M = some m.cls := findClass_of_methodNamed B.named
  have hlocks := B.notSynchronized
  have hD := mu_self hD0
  have hS : va_S (mu_A [(nA, .inr (5, [.int vc, .ref nT, .int vs, .int va, .int vf, .int vr, .ref nO, .ref nU, .ref nV, .long vw, .long vh, .long vt, .long vd, .ref nX, .ref nY, .ref nR, .ref nC, .ref nS])), (nT, .inl (cI, 300, .inl gT)), (nO, .inl (cI, 128, .inl gO)), (nU, .inl (cI, 128, .inl gU)), (nV, .inl (cI, 16, .inl gV)), (nX, .inl (cJ, 16, .inr (.inl gX))), (nY, .inl (cJ, 16, .inr (.inl gY))), (nR, .inl (cJ, 16, .inr (.inl gR))), (nC, .inl (cI, 9, .inl gC)), (nS, .inl (cI, 9, .inl gS))]) s.heap s.heap [] := va_S.rf
  generalize hAe : mu_A [(nA, .inr (5, [.int vc, .ref nT, .int vs, .int va, .int vf, .int vr, .ref nO, .ref nU, .ref nV, .long vw, .long vh, .long vt, .long vd, .ref nX, .ref nY, .ref nR, .ref nC, .ref nS])), (nT, .inl (cI, 300, .inl gT)), (nO, .inl (cI, 128, .inl gO)), (nU, .inl (cI, 128, .inl gU)), (nV, .inl (cI, 16, .inl gV)), (nX, .inl (cJ, 16, .inr (.inl gX))), (nY, .inl (cJ, 16, .inr (.inl gY))), (nR, .inl (cJ, 16, .inr (.inl gR))), (nC, .inl (cI, 9, .inl gC)), (nS, .inl (cI, 9, .inl gS))] = A at hD hS ⊢
  have hl := lv_entry ([.ref nA, .int k, .int co, .int si]) (n := 4) (Nat.le_of_ble_eq_true rfl)
  rw [lg_entry_eq]
  generalize (lg_sl ([.ref nA, .int k, .int co, .int si]) ++ List.replicate (4 - (lg_sl ([.ref nA, .int k, .int co, .int si])).length) Slot.unset).toArray = ls at hl ⊢
  have hl : lv_has ls 4 [(0, .ref nA), (1, .int k), (2, .int co), (3, .int si)] := hl
  refine lv_aload_n hx hb md_M_turn_0 rfl (lv_at hl 0 rfl) ?_
  refine va_get (D := (dC, dI)) (ci := 5) (v := .ref nC) (C := mR_M) (T := mT_M) (N := 18) hx hb hg gu_M hown hK hP 0 rfl rfl 16 (by decide) (hg _ wd_548) (fun _ h9 => h9) rfl md_M_turn_1 ?_
  refine lv_iload_n hx hb md_M_turn_4 rfl (lv_at hl 1 rfl) ?_
  refine lv_iload_n hx hb md_M_turn_5 rfl (lv_at hl 2 rfl) ?_
  refine va_iast hx hb hK hP hD hS 8 1 rfl rfl hk md_M_turn_6 (fun H locs hP hD hS => ?_)
  have hP : va_P (dC, dI) mC [(nA, .inr (5, [.int vc, .ref nT, .int vs, .int va, .int vf, .int vr, .ref nO, .ref nU, .ref nV, .long vw, .long vh, .long vt, .long vd, .ref nX, .ref nY, .ref nR, .ref nC, .ref nS])), (nT, .inl (cI, 300, .inl gT)), (nO, .inl (cI, 128, .inl gO)), (nU, .inl (cI, 128, .inl gU)), (nV, .inl (cI, 16, .inl gV)), (nX, .inl (cJ, 16, .inr (.inl gX))), (nY, .inl (cJ, 16, .inr (.inl gY))), (nR, .inl (cJ, 16, .inr (.inl gR))), (nC, .inl (cI, 9, .inl (upd gC (Int32.toNatClampNeg k) co))), (nS, .inl (cI, 9, .inl gS))] H := hP
  have hD : va_D A [(nA, .inr (5, [.int vc, .ref nT, .int vs, .int va, .int vf, .int vr, .ref nO, .ref nU, .ref nV, .long vw, .long vh, .long vt, .long vd, .ref nX, .ref nY, .ref nR, .ref nC, .ref nS])), (nT, .inl (cI, 300, .inl gT)), (nO, .inl (cI, 128, .inl gO)), (nU, .inl (cI, 128, .inl gU)), (nV, .inl (cI, 16, .inl gV)), (nX, .inl (cJ, 16, .inr (.inl gX))), (nY, .inl (cJ, 16, .inr (.inl gY))), (nR, .inl (cJ, 16, .inr (.inl gR))), (nC, .inl (cI, 9, .inl (upd gC (Int32.toNatClampNeg k) co))), (nS, .inl (cI, 9, .inl gS))] := hD
  refine lv_aload_n hx hb md_M_turn_7 rfl (lv_at hl 0 rfl) ?_
  refine va_get (D := (dC, dI)) (ci := 5) (v := .ref nS) (C := mR_M) (T := mT_M) (N := 18) hx hb hg gu_M hown hK hP 0 rfl rfl 17 (by decide) (hg _ wd_549) (fun _ h9 => h9) rfl md_M_turn_8 ?_
  refine lv_iload_n hx hb md_M_turn_11 rfl (lv_at hl 1 rfl) ?_
  refine lv_iload_n hx hb md_M_turn_12 rfl (lv_at hl 3 rfl) ?_
  refine va_iast hx hb hK hP hD hS 9 1 rfl rfl hk md_M_turn_13 (fun H locs hP hD hS => ?_)
  have hP : va_P (dC, dI) mC [(nA, .inr (5, [.int vc, .ref nT, .int vs, .int va, .int vf, .int vr, .ref nO, .ref nU, .ref nV, .long vw, .long vh, .long vt, .long vd, .ref nX, .ref nY, .ref nR, .ref nC, .ref nS])), (nT, .inl (cI, 300, .inl gT)), (nO, .inl (cI, 128, .inl gO)), (nU, .inl (cI, 128, .inl gU)), (nV, .inl (cI, 16, .inl gV)), (nX, .inl (cJ, 16, .inr (.inl gX))), (nY, .inl (cJ, 16, .inr (.inl gY))), (nR, .inl (cJ, 16, .inr (.inl gR))), (nC, .inl (cI, 9, .inl (upd gC (Int32.toNatClampNeg k) co))), (nS, .inl (cI, 9, .inl (upd gS (Int32.toNatClampNeg k) si)))] H := hP
  have hD : va_D A [(nA, .inr (5, [.int vc, .ref nT, .int vs, .int va, .int vf, .int vr, .ref nO, .ref nU, .ref nV, .long vw, .long vh, .long vt, .long vd, .ref nX, .ref nY, .ref nR, .ref nC, .ref nS])), (nT, .inl (cI, 300, .inl gT)), (nO, .inl (cI, 128, .inl gO)), (nU, .inl (cI, 128, .inl gU)), (nV, .inl (cI, 16, .inl gV)), (nX, .inl (cJ, 16, .inr (.inl gX))), (nY, .inl (cJ, 16, .inr (.inl gY))), (nR, .inl (cJ, 16, .inr (.inl gR))), (nC, .inl (cI, 9, .inl (upd gC (Int32.toNatClampNeg k) co))), (nS, .inl (cI, 9, .inl (upd gS (Int32.toNatClampNeg k) si)))] := hD
  exact W.vret hx hb hr (fun t ht hW => ⟨⟨(upd gC (Int32.toNatClampNeg k) co, upd gS (Int32.toNatClampNeg k) si), rfl, rfl, by have h9 := hP; rw [← ht] at h9; exact h9⟩, hS.F ht⟩) hS.2.2 md_M_turn_14 hlocks

def fM_failAt (vf : Int32) (place : Int32) : Int32 := if 0 ≤ vf then (vf) else (place)
set_option maxHeartbeats 1000000 in
set_option maxRecDepth 100000 in
theorem ct_M_failAt (l : Launch) (dC : Nat → ClassId) (dI : Nat → Nat → Nat) (cC cI cJ : ClassId) (nA : Nat) (nT : Nat) (nO : Nat) (nU : Nat) (nV : Nat) (nX : Nat) (nY : Nat) (nR : Nat) (nC : Nat) (nS : Nat) (gT : Nat → Int32) (gO : Nat → Int32) (gU : Nat → Int32) (gV : Nat → Int32) (gX : Nat → Int64) (gY : Nat → Int64) (gR : Nat → Int64) (gC : Nat → Int32) (gS : Nat → Int32) (vc : Int32) (vs : Int32) (va : Int32) (vf : Int32) (vr : Int32) (vw : Int64) (vh : Int64) (vt : Int64) (vd : Int64) (place : Int32)   : Met l my_M_failAt (.code my_M_failAt mb_M_failAt 2 none :: gw_l) ({ frames := 0, cells := 0, slots := 0, locals := 0 }) (mu_Pc (dC, dI) mC [(cC, .char), (cI, .int), (cJ, .long)] [(nA, .inr (5, [.int vc, .ref nT, .int vs, .int va, .int vf, .int vr, .ref nO, .ref nU, .ref nV, .long vw, .long vh, .long vt, .long vd, .ref nX, .ref nY, .ref nR, .ref nC, .ref nS])), (nT, .inl (cI, 300, .inl gT)), (nO, .inl (cI, 128, .inl gO)), (nU, .inl (cI, 128, .inl gU)), (nV, .inl (cI, 16, .inl gV)), (nX, .inl (cJ, 16, .inr (.inl gX))), (nY, .inl (cJ, 16, .inr (.inl gY))), (nR, .inl (cJ, 16, .inr (.inl gR))), (nC, .inl (cI, 9, .inl gC)), (nS, .inl (cI, 9, .inl gS))] (fun _ => True) [.ref nA, .int place]) (va_Qv (fun (u : Int32) => u = fM_failAt vf place) (fun u t => va_P (dC, dI) mC [(nA, .inr (5, [.int vc, .ref nT, .int vs, .int va, .int u, .int vr, .ref nO, .ref nU, .ref nV, .long vw, .long vh, .long vt, .long vd, .ref nX, .ref nY, .ref nR, .ref nC, .ref nS])), (nT, .inl (cI, 300, .inl gT)), (nO, .inl (cI, 128, .inl gO)), (nU, .inl (cI, 128, .inl gU)), (nV, .inl (cI, 16, .inl gV)), (nX, .inl (cJ, 16, .inr (.inl gX))), (nY, .inl (cJ, 16, .inr (.inl gY))), (nR, .inl (cJ, 16, .inr (.inl gR))), (nC, .inl (cI, 9, .inl gC)), (nS, .inl (cI, 9, .inl gS))] t.heap) (mu_A [(nA, .inr (5, [.int vc, .ref nT, .int vs, .int va, .int vf, .int vr, .ref nO, .ref nU, .ref nV, .long vw, .long vh, .long vt, .long vd, .ref nX, .ref nY, .ref nR, .ref nC, .ref nS])), (nT, .inl (cI, 300, .inl gT)), (nO, .inl (cI, 128, .inl gO)), (nU, .inl (cI, 128, .inl gU)), (nV, .inl (cI, 16, .inl gV)), (nX, .inl (cJ, 16, .inr (.inl gX))), (nY, .inl (cJ, 16, .inr (.inl gY))), (nR, .inl (cJ, 16, .inr (.inl gR))), (nC, .inl (cI, 9, .inl gC)), (nS, .inl (cI, 9, .inl gS))])) 0 0 (mu_A [(nA, .inr (5, [.int vc, .ref nT, .int vs, .int va, .int vf, .int vr, .ref nO, .ref nU, .ref nV, .long vw, .long vh, .long vt, .long vd, .ref nX, .ref nY, .ref nR, .ref nC, .ref nS])), (nT, .inl (cI, 300, .inl gT)), (nO, .inl (cI, 128, .inl gO)), (nU, .inl (cI, 128, .inl gU)), (nV, .inl (cI, 16, .inl gV)), (nX, .inl (cJ, 16, .inr (.inl gX))), (nY, .inl (cJ, 16, .inr (.inl gY))), (nR, .inl (cJ, 16, .inr (.inl gR))), (nC, .inl (cI, 9, .inl gC)), (nS, .inl (cI, 9, .inl gS))]) := by
  refine Met.ofW (cc := mb_M_failAt) (maxL := 2) (ret := none) (by decide) rfl ?_
  intro p e s m args below meth c s₁ B hml hv
  obtain ⟨rfl, hP, hK, hD0, hE⟩ := hv
  have hx := B.exec
  have hb := B.bytes
  have hr := B.returns
  have hts := atoms_spec (ws := (.code my_M_failAt mb_M_failAt 2 none :: gw_l)) B.pre
  have hg : ∀ w ∈ gw_l, w.before _ s = true := fun w h => hts w (List.mem_cons_of_mem _ h)
  have hown : s.vm.findClass mR_M = some m.cls := findClass_of_methodNamed B.named
  have hlocks := B.notSynchronized
  have hD := mu_self hD0
  have hS : va_S (mu_A [(nA, .inr (5, [.int vc, .ref nT, .int vs, .int va, .int vf, .int vr, .ref nO, .ref nU, .ref nV, .long vw, .long vh, .long vt, .long vd, .ref nX, .ref nY, .ref nR, .ref nC, .ref nS])), (nT, .inl (cI, 300, .inl gT)), (nO, .inl (cI, 128, .inl gO)), (nU, .inl (cI, 128, .inl gU)), (nV, .inl (cI, 16, .inl gV)), (nX, .inl (cJ, 16, .inr (.inl gX))), (nY, .inl (cJ, 16, .inr (.inl gY))), (nR, .inl (cJ, 16, .inr (.inl gR))), (nC, .inl (cI, 9, .inl gC)), (nS, .inl (cI, 9, .inl gS))]) s.heap s.heap [] := va_S.rf
  generalize hAe : mu_A [(nA, .inr (5, [.int vc, .ref nT, .int vs, .int va, .int vf, .int vr, .ref nO, .ref nU, .ref nV, .long vw, .long vh, .long vt, .long vd, .ref nX, .ref nY, .ref nR, .ref nC, .ref nS])), (nT, .inl (cI, 300, .inl gT)), (nO, .inl (cI, 128, .inl gO)), (nU, .inl (cI, 128, .inl gU)), (nV, .inl (cI, 16, .inl gV)), (nX, .inl (cJ, 16, .inr (.inl gX))), (nY, .inl (cJ, 16, .inr (.inl gY))), (nR, .inl (cJ, 16, .inr (.inl gR))), (nC, .inl (cI, 9, .inl gC)), (nS, .inl (cI, 9, .inl gS))] = A at hD hS ⊢
  have hl := lv_entry ([.ref nA, .int place]) (n := 2) (Nat.le_of_ble_eq_true rfl)
  rw [lg_entry_eq]
  generalize (lg_sl ([.ref nA, .int place]) ++ List.replicate (2 - (lg_sl ([.ref nA, .int place])).length) Slot.unset).toArray = ls at hl ⊢
  have hl : lv_has ls 2 [(0, .ref nA), (1, .int place)] := hl
  refine lv_aload_n hx hb md_M_failAt_0 rfl (lv_at hl 0 rfl) ?_
  refine lv_aload_n hx hb md_M_failAt_1 rfl (lv_at hl 0 rfl) ?_
  refine va_get (D := (dC, dI)) (ci := 5) (v := .int vf) (C := mR_M) (T := mT_M) (N := 18) hx hb hg gu_M hown hK hP 0 rfl rfl 4 (by decide) (hg _ wd_536) (fun _ h9 => h9) rfl md_M_failAt_2 ?_
  refine lv_if_ge (tgt := 12) hx hb md_M_failAt_5 (by decide) (fun c1 => ?_) (fun c1 => ?_)
  · refine lv_aload_n hx hb md_M_failAt_12 rfl (lv_at hl 0 rfl) ?_
    refine va_get (D := (dC, dI)) (ci := 5) (v := .int vf) (C := mR_M) (T := mT_M) (N := 18) hx hb hg gu_M hown hK hP 0 rfl rfl 4 (by decide) (hg _ wd_536) (fun _ h9 => h9) rfl md_M_failAt_13 ?_
    refine va_put (D := (dC, dI)) (ci := 5) (v := .int vf) (ty := .int) (C := mR_M) (T := mT_M) (N := 18) hx hb hg gu_M mF_M mO_M mN_M hown hK hP hD hS 0 rfl rfl 4 (by decide) (hg _ wd_536) (fun _ h9 => h9) rfl (by decide +kernel) rfl rfl (Nat.le_of_ble_eq_true rfl) md_M_failAt_16 (fun H locs hP hD hS => ?_)
    have hP : va_P (dC, dI) mC [(nA, .inr (5, [.int vc, .ref nT, .int vs, .int va, .int vf, .int vr, .ref nO, .ref nU, .ref nV, .long vw, .long vh, .long vt, .long vd, .ref nX, .ref nY, .ref nR, .ref nC, .ref nS])), (nT, .inl (cI, 300, .inl gT)), (nO, .inl (cI, 128, .inl gO)), (nU, .inl (cI, 128, .inl gU)), (nV, .inl (cI, 16, .inl gV)), (nX, .inl (cJ, 16, .inr (.inl gX))), (nY, .inl (cJ, 16, .inr (.inl gY))), (nR, .inl (cJ, 16, .inr (.inl gR))), (nC, .inl (cI, 9, .inl gC)), (nS, .inl (cI, 9, .inl gS))] H := hP
    have hD : va_D A [(nA, .inr (5, [.int vc, .ref nT, .int vs, .int va, .int vf, .int vr, .ref nO, .ref nU, .ref nV, .long vw, .long vh, .long vt, .long vd, .ref nX, .ref nY, .ref nR, .ref nC, .ref nS])), (nT, .inl (cI, 300, .inl gT)), (nO, .inl (cI, 128, .inl gO)), (nU, .inl (cI, 128, .inl gU)), (nV, .inl (cI, 16, .inl gV)), (nX, .inl (cJ, 16, .inr (.inl gX))), (nY, .inl (cJ, 16, .inr (.inl gY))), (nR, .inl (cJ, 16, .inr (.inl gR))), (nC, .inl (cI, 9, .inl gC)), (nS, .inl (cI, 9, .inl gS))] := hD
    exact W.vret hx hb hr (fun t ht hW => ⟨⟨(vf), rfl, (by rw [fM_failAt, if_pos c1]), by have h9 := hP; rw [← ht] at h9; exact h9⟩, hS.F ht⟩) hS.2.2 md_M_failAt_19 hlocks
  · refine lv_iload_n hx hb md_M_failAt_8 rfl (lv_at hl 1 rfl) ?_
    refine lv_goto (tgt := 16) hx hb md_M_failAt_9 (by decide) ?_
    refine va_put (D := (dC, dI)) (ci := 5) (v := .int place) (ty := .int) (C := mR_M) (T := mT_M) (N := 18) hx hb hg gu_M mF_M mO_M mN_M hown hK hP hD hS 0 rfl rfl 4 (by decide) (hg _ wd_536) (fun _ h9 => h9) rfl (by decide +kernel) rfl rfl (Nat.le_of_ble_eq_true rfl) md_M_failAt_16 (fun H locs hP hD hS => ?_)
    have hP : va_P (dC, dI) mC [(nA, .inr (5, [.int vc, .ref nT, .int vs, .int va, .int place, .int vr, .ref nO, .ref nU, .ref nV, .long vw, .long vh, .long vt, .long vd, .ref nX, .ref nY, .ref nR, .ref nC, .ref nS])), (nT, .inl (cI, 300, .inl gT)), (nO, .inl (cI, 128, .inl gO)), (nU, .inl (cI, 128, .inl gU)), (nV, .inl (cI, 16, .inl gV)), (nX, .inl (cJ, 16, .inr (.inl gX))), (nY, .inl (cJ, 16, .inr (.inl gY))), (nR, .inl (cJ, 16, .inr (.inl gR))), (nC, .inl (cI, 9, .inl gC)), (nS, .inl (cI, 9, .inl gS))] H := hP
    have hD : va_D A [(nA, .inr (5, [.int vc, .ref nT, .int vs, .int va, .int place, .int vr, .ref nO, .ref nU, .ref nV, .long vw, .long vh, .long vt, .long vd, .ref nX, .ref nY, .ref nR, .ref nC, .ref nS])), (nT, .inl (cI, 300, .inl gT)), (nO, .inl (cI, 128, .inl gO)), (nU, .inl (cI, 128, .inl gU)), (nV, .inl (cI, 16, .inl gV)), (nX, .inl (cJ, 16, .inr (.inl gX))), (nY, .inl (cJ, 16, .inr (.inl gY))), (nR, .inl (cJ, 16, .inr (.inl gR))), (nC, .inl (cI, 9, .inl gC)), (nS, .inl (cI, 9, .inl gS))] := hD
    exact W.vret hx hb hr (fun t ht hW => ⟨⟨(place), rfl, (by rw [fM_failAt, if_neg c1]), by have h9 := hP; rw [← ht] at h9; exact h9⟩, hS.F ht⟩) hS.2.2 md_M_failAt_19 hlocks

def fM_unit (gT : Nat → Int32) (vs : Int32) (u0 : Int32) : Int32 × Int32 × (Nat → Int32) × Int32 := if 300 ≤ vs then (0, 0, gT, vs) else (if u0 < 33 then (0, 0, gT, vs) else (if 126 < u0 then (0, 0, gT, vs) else (1, 0, upd gT (Int32.toNatClampNeg vs) u0, vs + 1)))
theorem zM_unit (gT : Nat → Int32) (vs : Int32) (u0 : Int32) : narrow .boolean (.int (fM_unit gT vs u0).1) = .int (fM_unit gT vs u0).1 := by
  unfold fM_unit
  repeat' split
  all_goals (dsimp only; rfl)
set_option maxHeartbeats 1000000 in
set_option maxRecDepth 100000 in
theorem ct_M_unit (l : Launch) (dC : Nat → ClassId) (dI : Nat → Nat → Nat) (cC cI cJ : ClassId) (nA : Nat) (nT : Nat) (nO : Nat) (nU : Nat) (nV : Nat) (nX : Nat) (nY : Nat) (nR : Nat) (nC : Nat) (nS : Nat) (gT : Nat → Int32) (gO : Nat → Int32) (gU : Nat → Int32) (gV : Nat → Int32) (gX : Nat → Int64) (gY : Nat → Int64) (gR : Nat → Int64) (gC : Nat → Int32) (gS : Nat → Int32) (vc : Int32) (vs : Int32) (va : Int32) (vf : Int32) (vr : Int32) (vw : Int64) (vh : Int64) (vt : Int64) (vd : Int64) (u0 : Int32)  (hin : ¬ 300 ≤ vs → vp_in vs 300) : Met l my_M_unit (.code my_M_unit mb_M_unit 3 (some .boolean) :: gw_l) ({ frames := 0, cells := 0, slots := 0, locals := 0 }) (mu_Pc (dC, dI) mC [(cC, .char), (cI, .int), (cJ, .long)] [(nA, .inr (5, [.int vc, .ref nT, .int vs, .int va, .int vf, .int vr, .ref nO, .ref nU, .ref nV, .long vw, .long vh, .long vt, .long vd, .ref nX, .ref nY, .ref nR, .ref nC, .ref nS])), (nT, .inl (cI, 300, .inl gT)), (nO, .inl (cI, 128, .inl gO)), (nU, .inl (cI, 128, .inl gU)), (nV, .inl (cI, 16, .inl gV)), (nX, .inl (cJ, 16, .inr (.inl gX))), (nY, .inl (cJ, 16, .inr (.inl gY))), (nR, .inl (cJ, 16, .inr (.inl gR))), (nC, .inl (cI, 9, .inl gC)), (nS, .inl (cI, 9, .inl gS))] (fun _ => True) [.ref nA, .int u0]) (va_Qi (fun (r : Int32) (u : Int32 × (Nat → Int32) × Int32) => (r, u) = fM_unit gT vs u0) (fun u t => va_P (dC, dI) mC [(nA, .inr (5, [.int u.1, .ref nT, .int u.2.2, .int va, .int vf, .int vr, .ref nO, .ref nU, .ref nV, .long vw, .long vh, .long vt, .long vd, .ref nX, .ref nY, .ref nR, .ref nC, .ref nS])), (nT, .inl (cI, 300, .inl u.2.1)), (nO, .inl (cI, 128, .inl gO)), (nU, .inl (cI, 128, .inl gU)), (nV, .inl (cI, 16, .inl gV)), (nX, .inl (cJ, 16, .inr (.inl gX))), (nY, .inl (cJ, 16, .inr (.inl gY))), (nR, .inl (cJ, 16, .inr (.inl gR))), (nC, .inl (cI, 9, .inl gC)), (nS, .inl (cI, 9, .inl gS))] t.heap) (mu_A [(nA, .inr (5, [.int vc, .ref nT, .int vs, .int va, .int vf, .int vr, .ref nO, .ref nU, .ref nV, .long vw, .long vh, .long vt, .long vd, .ref nX, .ref nY, .ref nR, .ref nC, .ref nS])), (nT, .inl (cI, 300, .inl gT)), (nO, .inl (cI, 128, .inl gO)), (nU, .inl (cI, 128, .inl gU)), (nV, .inl (cI, 16, .inl gV)), (nX, .inl (cJ, 16, .inr (.inl gX))), (nY, .inl (cJ, 16, .inr (.inl gY))), (nR, .inl (cJ, 16, .inr (.inl gR))), (nC, .inl (cI, 9, .inl gC)), (nS, .inl (cI, 9, .inl gS))])) 0 0 (mu_A [(nA, .inr (5, [.int vc, .ref nT, .int vs, .int va, .int vf, .int vr, .ref nO, .ref nU, .ref nV, .long vw, .long vh, .long vt, .long vd, .ref nX, .ref nY, .ref nR, .ref nC, .ref nS])), (nT, .inl (cI, 300, .inl gT)), (nO, .inl (cI, 128, .inl gO)), (nU, .inl (cI, 128, .inl gU)), (nV, .inl (cI, 16, .inl gV)), (nX, .inl (cJ, 16, .inr (.inl gX))), (nY, .inl (cJ, 16, .inr (.inl gY))), (nR, .inl (cJ, 16, .inr (.inl gR))), (nC, .inl (cI, 9, .inl gC)), (nS, .inl (cI, 9, .inl gS))]) := by
  refine Met.ofW (cc := mb_M_unit) (maxL := 3) (ret := (some .boolean)) (by decide) rfl ?_
  intro p e s m args below meth c s₁ B hml hv
  obtain ⟨rfl, hP, hK, hD0, hE⟩ := hv
  have hx := B.exec
  have hb := B.bytes
  have hr := B.returns
  have hts := atoms_spec (ws := (.code my_M_unit mb_M_unit 3 (some .boolean) :: gw_l)) B.pre
  have hg : ∀ w ∈ gw_l, w.before _ s = true := fun w h => hts w (List.mem_cons_of_mem _ h)
  have hown : s.vm.findClass mR_M = some m.cls := findClass_of_methodNamed B.named
  have hlocks := B.notSynchronized
  have hD := mu_self hD0
  have hS : va_S (mu_A [(nA, .inr (5, [.int vc, .ref nT, .int vs, .int va, .int vf, .int vr, .ref nO, .ref nU, .ref nV, .long vw, .long vh, .long vt, .long vd, .ref nX, .ref nY, .ref nR, .ref nC, .ref nS])), (nT, .inl (cI, 300, .inl gT)), (nO, .inl (cI, 128, .inl gO)), (nU, .inl (cI, 128, .inl gU)), (nV, .inl (cI, 16, .inl gV)), (nX, .inl (cJ, 16, .inr (.inl gX))), (nY, .inl (cJ, 16, .inr (.inl gY))), (nR, .inl (cJ, 16, .inr (.inl gR))), (nC, .inl (cI, 9, .inl gC)), (nS, .inl (cI, 9, .inl gS))]) s.heap s.heap [] := va_S.rf
  generalize hAe : mu_A [(nA, .inr (5, [.int vc, .ref nT, .int vs, .int va, .int vf, .int vr, .ref nO, .ref nU, .ref nV, .long vw, .long vh, .long vt, .long vd, .ref nX, .ref nY, .ref nR, .ref nC, .ref nS])), (nT, .inl (cI, 300, .inl gT)), (nO, .inl (cI, 128, .inl gO)), (nU, .inl (cI, 128, .inl gU)), (nV, .inl (cI, 16, .inl gV)), (nX, .inl (cJ, 16, .inr (.inl gX))), (nY, .inl (cJ, 16, .inr (.inl gY))), (nR, .inl (cJ, 16, .inr (.inl gR))), (nC, .inl (cI, 9, .inl gC)), (nS, .inl (cI, 9, .inl gS))] = A at hD hS ⊢
  have hl := lv_entry ([.ref nA, .int u0]) (n := 3) (Nat.le_of_ble_eq_true rfl)
  rw [lg_entry_eq]
  generalize (lg_sl ([.ref nA, .int u0]) ++ List.replicate (3 - (lg_sl ([.ref nA, .int u0])).length) Slot.unset).toArray = ls at hl ⊢
  have hl : lv_has ls 3 [(0, .ref nA), (1, .int u0)] := hl
  refine lv_aload_n hx hb md_M_unit_0 rfl (lv_at hl 0 rfl) ?_
  refine lv_iconst (v := 0) hx hb md_M_unit_1 (by decide) ?_
  refine va_put (D := (dC, dI)) (ci := 5) (v := .int 0) (ty := .int) (C := mR_M) (T := mT_M) (N := 18) hx hb hg gu_M mF_M mO_M mN_M hown hK hP hD hS 0 rfl rfl 0 (by decide) (hg _ wd_532) (fun _ h9 => h9) rfl (by decide +kernel) rfl rfl (Nat.le_of_ble_eq_true rfl) md_M_unit_2 (fun H locs hP hD hS => ?_)
  have hP : va_P (dC, dI) mC [(nA, .inr (5, [.int 0, .ref nT, .int vs, .int va, .int vf, .int vr, .ref nO, .ref nU, .ref nV, .long vw, .long vh, .long vt, .long vd, .ref nX, .ref nY, .ref nR, .ref nC, .ref nS])), (nT, .inl (cI, 300, .inl gT)), (nO, .inl (cI, 128, .inl gO)), (nU, .inl (cI, 128, .inl gU)), (nV, .inl (cI, 16, .inl gV)), (nX, .inl (cJ, 16, .inr (.inl gX))), (nY, .inl (cJ, 16, .inr (.inl gY))), (nR, .inl (cJ, 16, .inr (.inl gR))), (nC, .inl (cI, 9, .inl gC)), (nS, .inl (cI, 9, .inl gS))] H := hP
  have hD : va_D A [(nA, .inr (5, [.int 0, .ref nT, .int vs, .int va, .int vf, .int vr, .ref nO, .ref nU, .ref nV, .long vw, .long vh, .long vt, .long vd, .ref nX, .ref nY, .ref nR, .ref nC, .ref nS])), (nT, .inl (cI, 300, .inl gT)), (nO, .inl (cI, 128, .inl gO)), (nU, .inl (cI, 128, .inl gU)), (nV, .inl (cI, 16, .inl gV)), (nX, .inl (cJ, 16, .inr (.inl gX))), (nY, .inl (cJ, 16, .inr (.inl gY))), (nR, .inl (cJ, 16, .inr (.inl gR))), (nC, .inl (cI, 9, .inl gC)), (nS, .inl (cI, 9, .inl gS))] := hD
  refine lv_aload_n hx hb md_M_unit_5 rfl (lv_at hl 0 rfl) ?_
  refine va_get (D := (dC, dI)) (ci := 5) (v := .int vs) (C := mR_M) (T := mT_M) (N := 18) hx hb hg gu_M hown hK hP 0 rfl rfl 2 (by decide) (hg _ wd_534) (fun _ h9 => h9) rfl md_M_unit_6 ?_
  refine lv_sipush (v := 300) hx hb md_M_unit_9 (by decide) ?_
  refine lv_icmp_ge (tgt := 31) hx hb md_M_unit_12 (by decide) (fun c1 => ?_) (fun c1 => ?_)
  · refine lv_iconst (v := 0) hx hb md_M_unit_31 (by decide) ?_
    refine lv_istore_n (lv' := [(2, .int 0), (0, .ref nA), (1, .int u0)]) hx hb md_M_unit_32 rfl hl (by decide) rfl (fun ls hl => ?_)
    refine lv_iload_n hx hb md_M_unit_33 rfl (lv_at hl 0 rfl) ?_
    refine lv_if_eq (tgt := 57) hx hb md_M_unit_34 (by decide) (fun _ => ?_) (fun c2 => absurd (by decide) c2)
    refine lv_iload_n hx hb md_M_unit_57 rfl (lv_at hl 0 rfl) ?_
    exact W.zret (v := 0) hx hb hr rfl (fun t ht hW => ⟨⟨0, (0, gT, vs), rfl, (by rw [fM_unit, if_pos c1]), by have h9 := hP; rw [← ht] at h9; exact h9⟩, hS.F ht⟩) hS.2.2 md_M_unit_58 hlocks
  · refine lv_iload_n hx hb md_M_unit_15 rfl (lv_at hl 1 rfl) ?_
    refine lv_bipush (v := 33) hx hb md_M_unit_16 (by decide) ?_
    refine lv_icmp_lt (tgt := 31) hx hb md_M_unit_18 (by decide) (fun c3 => ?_) (fun c3 => ?_)
    · refine lv_iconst (v := 0) hx hb md_M_unit_31 (by decide) ?_
      refine lv_istore_n (lv' := [(2, .int 0), (0, .ref nA), (1, .int u0)]) hx hb md_M_unit_32 rfl hl (by decide) rfl (fun ls hl => ?_)
      refine lv_iload_n hx hb md_M_unit_33 rfl (lv_at hl 0 rfl) ?_
      refine lv_if_eq (tgt := 57) hx hb md_M_unit_34 (by decide) (fun _ => ?_) (fun c4 => absurd (by decide) c4)
      refine lv_iload_n hx hb md_M_unit_57 rfl (lv_at hl 0 rfl) ?_
      exact W.zret (v := 0) hx hb hr rfl (fun t ht hW => ⟨⟨0, (0, gT, vs), rfl, (by rw [fM_unit, if_neg c1, if_pos c3]), by have h9 := hP; rw [← ht] at h9; exact h9⟩, hS.F ht⟩) hS.2.2 md_M_unit_58 hlocks
    · refine lv_iload_n hx hb md_M_unit_21 rfl (lv_at hl 1 rfl) ?_
      refine lv_bipush (v := 126) hx hb md_M_unit_22 (by decide) ?_
      refine lv_icmp_gt (tgt := 31) hx hb md_M_unit_24 (by decide) (fun c5 => ?_) (fun c5 => ?_)
      · refine lv_iconst (v := 0) hx hb md_M_unit_31 (by decide) ?_
        refine lv_istore_n (lv' := [(2, .int 0), (0, .ref nA), (1, .int u0)]) hx hb md_M_unit_32 rfl hl (by decide) rfl (fun ls hl => ?_)
        refine lv_iload_n hx hb md_M_unit_33 rfl (lv_at hl 0 rfl) ?_
        refine lv_if_eq (tgt := 57) hx hb md_M_unit_34 (by decide) (fun _ => ?_) (fun c6 => absurd (by decide) c6)
        refine lv_iload_n hx hb md_M_unit_57 rfl (lv_at hl 0 rfl) ?_
        exact W.zret (v := 0) hx hb hr rfl (fun t ht hW => ⟨⟨0, (0, gT, vs), rfl, (by rw [fM_unit, if_neg c1, if_neg c3, if_pos c5]), by have h9 := hP; rw [← ht] at h9; exact h9⟩, hS.F ht⟩) hS.2.2 md_M_unit_58 hlocks
      · refine lv_iconst (v := 1) hx hb md_M_unit_27 (by decide) ?_
        refine lv_goto (tgt := 32) hx hb md_M_unit_28 (by decide) ?_
        refine lv_istore_n (lv' := [(2, .int 1), (0, .ref nA), (1, .int u0)]) hx hb md_M_unit_32 rfl hl (by decide) rfl (fun ls hl => ?_)
        refine lv_iload_n hx hb md_M_unit_33 rfl (lv_at hl 0 rfl) ?_
        refine lv_if_eq (tgt := 57) hx hb md_M_unit_34 (by decide) (fun c7 => absurd c7 (by decide)) (fun _ => ?_)
        refine lv_aload_n hx hb md_M_unit_37 rfl (lv_at hl 1 rfl) ?_
        refine va_get (D := (dC, dI)) (ci := 5) (v := .ref nT) (C := mR_M) (T := mT_M) (N := 18) hx hb hg gu_M hown hK hP 0 rfl rfl 1 (by decide) (hg _ wd_533) (fun _ h9 => h9) rfl md_M_unit_38 ?_
        refine lv_aload_n hx hb md_M_unit_41 rfl (lv_at hl 1 rfl) ?_
        refine va_get (D := (dC, dI)) (ci := 5) (v := .int vs) (C := mR_M) (T := mT_M) (N := 18) hx hb hg gu_M hown hK hP 0 rfl rfl 2 (by decide) (hg _ wd_534) (fun _ h9 => h9) rfl md_M_unit_42 ?_
        refine lv_iload_n hx hb md_M_unit_45 rfl (lv_at hl 2 rfl) ?_
        refine va_iast hx hb hK hP hD hS 1 1 rfl rfl (hin c1) md_M_unit_46 (fun H locs hP hD hS => ?_)
        have hP : va_P (dC, dI) mC [(nA, .inr (5, [.int 0, .ref nT, .int vs, .int va, .int vf, .int vr, .ref nO, .ref nU, .ref nV, .long vw, .long vh, .long vt, .long vd, .ref nX, .ref nY, .ref nR, .ref nC, .ref nS])), (nT, .inl (cI, 300, .inl (upd gT (Int32.toNatClampNeg vs) u0))), (nO, .inl (cI, 128, .inl gO)), (nU, .inl (cI, 128, .inl gU)), (nV, .inl (cI, 16, .inl gV)), (nX, .inl (cJ, 16, .inr (.inl gX))), (nY, .inl (cJ, 16, .inr (.inl gY))), (nR, .inl (cJ, 16, .inr (.inl gR))), (nC, .inl (cI, 9, .inl gC)), (nS, .inl (cI, 9, .inl gS))] H := hP
        have hD : va_D A [(nA, .inr (5, [.int 0, .ref nT, .int vs, .int va, .int vf, .int vr, .ref nO, .ref nU, .ref nV, .long vw, .long vh, .long vt, .long vd, .ref nX, .ref nY, .ref nR, .ref nC, .ref nS])), (nT, .inl (cI, 300, .inl (upd gT (Int32.toNatClampNeg vs) u0))), (nO, .inl (cI, 128, .inl gO)), (nU, .inl (cI, 128, .inl gU)), (nV, .inl (cI, 16, .inl gV)), (nX, .inl (cJ, 16, .inr (.inl gX))), (nY, .inl (cJ, 16, .inr (.inl gY))), (nR, .inl (cJ, 16, .inr (.inl gR))), (nC, .inl (cI, 9, .inl gC)), (nS, .inl (cI, 9, .inl gS))] := hD
        refine lv_aload_n hx hb md_M_unit_47 rfl (lv_at hl 1 rfl) ?_
        refine lv_dup hx hb md_M_unit_48 rfl ?_
        refine va_get (D := (dC, dI)) (ci := 5) (v := .int vs) (C := mR_M) (T := mT_M) (N := 18) hx hb hg gu_M hown hK hP 0 rfl rfl 2 (by decide) (hg _ wd_534) (fun _ h9 => h9) rfl md_M_unit_49 ?_
        refine lv_iconst (v := 1) hx hb md_M_unit_52 (by decide) ?_
        refine lv_iadd hx hb md_M_unit_53 ?_
        refine va_put (D := (dC, dI)) (ci := 5) (v := .int (vs + 1)) (ty := .int) (C := mR_M) (T := mT_M) (N := 18) hx hb hg gu_M mF_M mO_M mN_M hown hK hP hD hS 0 rfl rfl 2 (by decide) (hg _ wd_534) (fun _ h9 => h9) rfl (by decide +kernel) rfl rfl (Nat.le_of_ble_eq_true rfl) md_M_unit_54 (fun H locs hP hD hS => ?_)
        have hP : va_P (dC, dI) mC [(nA, .inr (5, [.int 0, .ref nT, .int (vs + 1), .int va, .int vf, .int vr, .ref nO, .ref nU, .ref nV, .long vw, .long vh, .long vt, .long vd, .ref nX, .ref nY, .ref nR, .ref nC, .ref nS])), (nT, .inl (cI, 300, .inl (upd gT (Int32.toNatClampNeg vs) u0))), (nO, .inl (cI, 128, .inl gO)), (nU, .inl (cI, 128, .inl gU)), (nV, .inl (cI, 16, .inl gV)), (nX, .inl (cJ, 16, .inr (.inl gX))), (nY, .inl (cJ, 16, .inr (.inl gY))), (nR, .inl (cJ, 16, .inr (.inl gR))), (nC, .inl (cI, 9, .inl gC)), (nS, .inl (cI, 9, .inl gS))] H := hP
        have hD : va_D A [(nA, .inr (5, [.int 0, .ref nT, .int (vs + 1), .int va, .int vf, .int vr, .ref nO, .ref nU, .ref nV, .long vw, .long vh, .long vt, .long vd, .ref nX, .ref nY, .ref nR, .ref nC, .ref nS])), (nT, .inl (cI, 300, .inl (upd gT (Int32.toNatClampNeg vs) u0))), (nO, .inl (cI, 128, .inl gO)), (nU, .inl (cI, 128, .inl gU)), (nV, .inl (cI, 16, .inl gV)), (nX, .inl (cJ, 16, .inr (.inl gX))), (nY, .inl (cJ, 16, .inr (.inl gY))), (nR, .inl (cJ, 16, .inr (.inl gR))), (nC, .inl (cI, 9, .inl gC)), (nS, .inl (cI, 9, .inl gS))] := hD
        refine lv_iload_n hx hb md_M_unit_57 rfl (lv_at hl 0 rfl) ?_
        exact W.zret (v := 1) hx hb hr rfl (fun t ht hW => ⟨⟨1, (0, upd gT (Int32.toNatClampNeg vs) u0, vs + 1), rfl, (by rw [fM_unit, if_neg c1, if_neg c3, if_neg c5]), by have h9 := hP; rw [← ht] at h9; exact h9⟩, hS.F ht⟩) hS.2.2 md_M_unit_58 hlocks

def fM_row (gO : Nat → Int32) (vr : Nat) (row : Int32) (k : Int32) : Int32 × Int32 := if (fM_rowCode (nI vr) row) ≤ 0 then (if k < (-1) then (0, 2) else (if k < (gO (Int32.toNatClampNeg ((8 * row) + 1))) then (if k = (-1) then (gO (Int32.toNatClampNeg (8 * row)), 0) else (gO (Int32.toNatClampNeg (((8 * row) + 2) + k)), 0)) else (0, 2))) else (0, fM_rowCode (nI vr) row)
set_option maxHeartbeats 1000000 in
set_option maxRecDepth 100000 in
theorem ct_M_row (l : Launch) (dC : Nat → ClassId) (dI : Nat → Nat → Nat) (cC cI cJ : ClassId) (nA : Nat) (nT : Nat) (nO : Nat) (nU : Nat) (nV : Nat) (nX : Nat) (nY : Nat) (nR : Nat) (nC : Nat) (nS : Nat) (gT : Nat → Int32) (gO : Nat → Int32) (gU : Nat → Int32) (gV : Nat → Int32) (gX : Nat → Int64) (gY : Nat → Int64) (gR : Nat → Int64) (gC : Nat → Int32) (gS : Nat → Int32) (vc : Int32) (vs : Int32) (va : Int32) (vf : Int32) (vr : Nat) (vw : Int64) (vh : Int64) (vt : Int64) (vd : Int64) (row : Int32) (k : Int32)  (hz : vr ≤ 16) (hO : ∀ x y : Int32, ¬ x < 0 → x < nI vr → ¬ y < -1 → ¬ y = -1 → y < gO (Int32.toNatClampNeg (8 * x + 1)) → vp_in (8 * x + 2 + y) 128) : Met l my_M_row (.code my_M_row mb_M_row 3 (some .int) :: gw_l) ({ frames := 1, cells := 0, slots := 0, locals := 21 }) (mu_Pc (dC, dI) mC [(cC, .char), (cI, .int), (cJ, .long)] [(nA, .inr (5, [.int vc, .ref nT, .int vs, .int va, .int vf, .int (nI vr), .ref nO, .ref nU, .ref nV, .long vw, .long vh, .long vt, .long vd, .ref nX, .ref nY, .ref nR, .ref nC, .ref nS])), (nT, .inl (cI, 300, .inl gT)), (nO, .inl (cI, 128, .inl gO)), (nU, .inl (cI, 128, .inl gU)), (nV, .inl (cI, 16, .inl gV)), (nX, .inl (cJ, 16, .inr (.inl gX))), (nY, .inl (cJ, 16, .inr (.inl gY))), (nR, .inl (cJ, 16, .inr (.inl gR))), (nC, .inl (cI, 9, .inl gC)), (nS, .inl (cI, 9, .inl gS))] (fun _ => True) [.ref nA, .int row, .int k]) (va_Qi (fun (r : Int32) (u : Int32) => (r, u) = fM_row gO vr row k) (fun u t => va_P (dC, dI) mC [(nA, .inr (5, [.int u, .ref nT, .int vs, .int va, .int vf, .int (nI vr), .ref nO, .ref nU, .ref nV, .long vw, .long vh, .long vt, .long vd, .ref nX, .ref nY, .ref nR, .ref nC, .ref nS])), (nT, .inl (cI, 300, .inl gT)), (nO, .inl (cI, 128, .inl gO)), (nU, .inl (cI, 128, .inl gU)), (nV, .inl (cI, 16, .inl gV)), (nX, .inl (cJ, 16, .inr (.inl gX))), (nY, .inl (cJ, 16, .inr (.inl gY))), (nR, .inl (cJ, 16, .inr (.inl gR))), (nC, .inl (cI, 9, .inl gC)), (nS, .inl (cI, 9, .inl gS))] t.heap) (mu_A [(nA, .inr (5, [.int vc, .ref nT, .int vs, .int va, .int vf, .int (nI vr), .ref nO, .ref nU, .ref nV, .long vw, .long vh, .long vt, .long vd, .ref nX, .ref nY, .ref nR, .ref nC, .ref nS])), (nT, .inl (cI, 300, .inl gT)), (nO, .inl (cI, 128, .inl gO)), (nU, .inl (cI, 128, .inl gU)), (nV, .inl (cI, 16, .inl gV)), (nX, .inl (cJ, 16, .inr (.inl gX))), (nY, .inl (cJ, 16, .inr (.inl gY))), (nR, .inl (cJ, 16, .inr (.inl gR))), (nC, .inl (cI, 9, .inl gC)), (nS, .inl (cI, 9, .inl gS))])) 0 0 (mu_A [(nA, .inr (5, [.int vc, .ref nT, .int vs, .int va, .int vf, .int (nI vr), .ref nO, .ref nU, .ref nV, .long vw, .long vh, .long vt, .long vd, .ref nX, .ref nY, .ref nR, .ref nC, .ref nS])), (nT, .inl (cI, 300, .inl gT)), (nO, .inl (cI, 128, .inl gO)), (nU, .inl (cI, 128, .inl gU)), (nV, .inl (cI, 16, .inl gV)), (nX, .inl (cJ, 16, .inr (.inl gX))), (nY, .inl (cJ, 16, .inr (.inl gY))), (nR, .inl (cJ, 16, .inr (.inl gR))), (nC, .inl (cI, 9, .inl gC)), (nS, .inl (cI, 9, .inl gS))]) := by
  refine Met.ofW (cc := mb_M_row) (maxL := 3) (ret := (some .int)) (by decide) rfl ?_
  intro p e s m args below meth c s₁ B hml hv
  obtain ⟨rfl, hP, hK, hD0, hE⟩ := hv
  have hx := B.exec
  have hb := B.bytes
  have hr := B.returns
  have hts := atoms_spec (ws := (.code my_M_row mb_M_row 3 (some .int) :: gw_l)) B.pre
  have hg : ∀ w ∈ gw_l, w.before _ s = true := fun w h => hts w (List.mem_cons_of_mem _ h)
  have hown : s.vm.findClass mR_M = some m.cls := findClass_of_methodNamed B.named
  have hlocks := B.notSynchronized
  have hD := mu_self hD0
  have hS : va_S (mu_A [(nA, .inr (5, [.int vc, .ref nT, .int vs, .int va, .int vf, .int (nI vr), .ref nO, .ref nU, .ref nV, .long vw, .long vh, .long vt, .long vd, .ref nX, .ref nY, .ref nR, .ref nC, .ref nS])), (nT, .inl (cI, 300, .inl gT)), (nO, .inl (cI, 128, .inl gO)), (nU, .inl (cI, 128, .inl gU)), (nV, .inl (cI, 16, .inl gV)), (nX, .inl (cJ, 16, .inr (.inl gX))), (nY, .inl (cJ, 16, .inr (.inl gY))), (nR, .inl (cJ, 16, .inr (.inl gR))), (nC, .inl (cI, 9, .inl gC)), (nS, .inl (cI, 9, .inl gS))]) s.heap s.heap [] := va_S.rf
  generalize hAe : mu_A [(nA, .inr (5, [.int vc, .ref nT, .int vs, .int va, .int vf, .int (nI vr), .ref nO, .ref nU, .ref nV, .long vw, .long vh, .long vt, .long vd, .ref nX, .ref nY, .ref nR, .ref nC, .ref nS])), (nT, .inl (cI, 300, .inl gT)), (nO, .inl (cI, 128, .inl gO)), (nU, .inl (cI, 128, .inl gU)), (nV, .inl (cI, 16, .inl gV)), (nX, .inl (cJ, 16, .inr (.inl gX))), (nY, .inl (cJ, 16, .inr (.inl gY))), (nR, .inl (cJ, 16, .inr (.inl gR))), (nC, .inl (cI, 9, .inl gC)), (nS, .inl (cI, 9, .inl gS))] = A at hD hS ⊢
  have hl := lv_entry ([.ref nA, .int row, .int k]) (n := 3) (Nat.le_of_ble_eq_true rfl)
  rw [lg_entry_eq]
  generalize (lg_sl ([.ref nA, .int row, .int k]) ++ List.replicate (3 - (lg_sl ([.ref nA, .int row, .int k])).length) Slot.unset).toArray = ls at hl ⊢
  have hl : lv_has ls 3 [(0, .ref nA), (1, .int row), (2, .int k)] := hl
  refine lv_aload_n hx hb md_M_row_0 rfl (lv_at hl 0 rfl) ?_
  refine lv_aload_n hx hb md_M_row_1 rfl (lv_at hl 0 rfl) ?_
  refine lv_iload_n hx hb md_M_row_2 rfl (lv_at hl 1 rfl) ?_
  have hPc1 := hP.sub (ws' := [(nA, .inr (5, [.int vc, .ref nT, .int vs, .int va, .int vf, .int (nI vr), .ref nO, .ref nU, .ref nV, .long vw, .long vh, .long vt, .long vd, .ref nX, .ref nY, .ref nR, .ref nC, .ref nS])), (nT, .inl (cI, 300, .inl gT)), (nO, .inl (cI, 128, .inl gO)), (nU, .inl (cI, 128, .inl gU)), (nV, .inl (cI, 16, .inl gV)), (nX, .inl (cJ, 16, .inr (.inl gX))), (nY, .inl (cJ, 16, .inr (.inl gY))), (nR, .inl (cJ, 16, .inr (.inl gR))), (nC, .inl (cI, 9, .inl gC)), (nS, .inl (cI, 9, .inl gS))]) [0, 1, 2, 3, 4, 5, 6, 7, 8, 9] rfl
  refine pu_i (W.runV (As := [.int row]) (rest := [.ref nA]) ⟨hx, hb, hml, hown, hg⟩ (ct_M_rowCode l dC dI cC cI cJ nA nT nO nU nV nX nY nR nC nS gT gO gU gV gX gY gR gC gS vc vs va vf (nI vr) vw vh vt vd row) (gw_cwV hg wd_627 mv_M_rowCode rfl rfl ⟨Nat.le_of_ble_eq_true rfl, Nat.le_of_ble_eq_true rfl⟩) (pu_preV (ci := 5) (q0 := 0) pu_blT hK hPc1 pu_e1 rfl rfl) rfl rfl hl.1 rfl (lv_room (Nat.le_of_ble_eq_true rfl)) md_M_row_3 ⟨Nat.zero_le _, Nat.zero_le _⟩) ?_
  refine va_put (D := (dC, dI)) (ci := 5) (v := .int (fM_rowCode (nI vr) row)) (ty := .int) (C := mR_M) (T := mT_M) (N := 18) hx hb hg gu_M mF_M mO_M mN_M hown hK hP hD hS 0 rfl rfl 0 (by decide) (hg _ wd_532) (fun _ h9 => h9) rfl (by decide +kernel) rfl rfl (Nat.le_of_ble_eq_true rfl) md_M_row_6 (fun H locs hP hD hS => ?_)
  have hP : va_P (dC, dI) mC [(nA, .inr (5, [.int (fM_rowCode (nI vr) row), .ref nT, .int vs, .int va, .int vf, .int (nI vr), .ref nO, .ref nU, .ref nV, .long vw, .long vh, .long vt, .long vd, .ref nX, .ref nY, .ref nR, .ref nC, .ref nS])), (nT, .inl (cI, 300, .inl gT)), (nO, .inl (cI, 128, .inl gO)), (nU, .inl (cI, 128, .inl gU)), (nV, .inl (cI, 16, .inl gV)), (nX, .inl (cJ, 16, .inr (.inl gX))), (nY, .inl (cJ, 16, .inr (.inl gY))), (nR, .inl (cJ, 16, .inr (.inl gR))), (nC, .inl (cI, 9, .inl gC)), (nS, .inl (cI, 9, .inl gS))] H := hP
  have hD : va_D A [(nA, .inr (5, [.int (fM_rowCode (nI vr) row), .ref nT, .int vs, .int va, .int vf, .int (nI vr), .ref nO, .ref nU, .ref nV, .long vw, .long vh, .long vt, .long vd, .ref nX, .ref nY, .ref nR, .ref nC, .ref nS])), (nT, .inl (cI, 300, .inl gT)), (nO, .inl (cI, 128, .inl gO)), (nU, .inl (cI, 128, .inl gU)), (nV, .inl (cI, 16, .inl gV)), (nX, .inl (cJ, 16, .inr (.inl gX))), (nY, .inl (cJ, 16, .inr (.inl gY))), (nR, .inl (cJ, 16, .inr (.inl gR))), (nC, .inl (cI, 9, .inl gC)), (nS, .inl (cI, 9, .inl gS))] := hD
  refine lv_aload_n hx hb md_M_row_9 rfl (lv_at hl 0 rfl) ?_
  refine va_get (D := (dC, dI)) (ci := 5) (v := .int (fM_rowCode (nI vr) row)) (C := mR_M) (T := mT_M) (N := 18) hx hb hg gu_M hown hK hP 0 rfl rfl 0 (by decide) (hg _ wd_532) (fun _ h9 => h9) rfl md_M_row_10 ?_
  refine lv_if_le (tgt := 18) hx hb md_M_row_13 (by decide) (fun c2 => ?_) (fun c2 => ?_)
  · have h8 := m8_r hz (rc_ok c2).2.1 (rc_ok c2).2.2
    refine lv_aload_n hx hb md_M_row_18 rfl (lv_at hl 0 rfl) ?_
    refine lv_iload_n hx hb md_M_row_19 rfl (lv_at hl 2 rfl) ?_
    refine lv_iconst (v := (-1)) hx hb md_M_row_20 (by decide) ?_
    refine lv_icmp_lt (tgt := 39) hx hb md_M_row_21 (by decide) (fun c3 => ?_) (fun c3 => ?_)
    · refine lv_iconst (v := 2) hx hb md_M_row_39 (by decide) ?_
      refine lv_goto (tgt := 44) hx hb md_M_row_40 (by decide) ?_
      refine va_put (D := (dC, dI)) (ci := 5) (v := .int 2) (ty := .int) (C := mR_M) (T := mT_M) (N := 18) hx hb hg gu_M mF_M mO_M mN_M hown hK hP hD hS 0 rfl rfl 0 (by decide) (hg _ wd_532) (fun _ h9 => h9) rfl (by decide +kernel) rfl rfl (Nat.le_of_ble_eq_true rfl) md_M_row_44 (fun H locs hP hD hS => ?_)
      have hP : va_P (dC, dI) mC [(nA, .inr (5, [.int 2, .ref nT, .int vs, .int va, .int vf, .int (nI vr), .ref nO, .ref nU, .ref nV, .long vw, .long vh, .long vt, .long vd, .ref nX, .ref nY, .ref nR, .ref nC, .ref nS])), (nT, .inl (cI, 300, .inl gT)), (nO, .inl (cI, 128, .inl gO)), (nU, .inl (cI, 128, .inl gU)), (nV, .inl (cI, 16, .inl gV)), (nX, .inl (cJ, 16, .inr (.inl gX))), (nY, .inl (cJ, 16, .inr (.inl gY))), (nR, .inl (cJ, 16, .inr (.inl gR))), (nC, .inl (cI, 9, .inl gC)), (nS, .inl (cI, 9, .inl gS))] H := hP
      have hD : va_D A [(nA, .inr (5, [.int 2, .ref nT, .int vs, .int va, .int vf, .int (nI vr), .ref nO, .ref nU, .ref nV, .long vw, .long vh, .long vt, .long vd, .ref nX, .ref nY, .ref nR, .ref nC, .ref nS])), (nT, .inl (cI, 300, .inl gT)), (nO, .inl (cI, 128, .inl gO)), (nU, .inl (cI, 128, .inl gU)), (nV, .inl (cI, 16, .inl gV)), (nX, .inl (cJ, 16, .inr (.inl gX))), (nY, .inl (cJ, 16, .inr (.inl gY))), (nR, .inl (cJ, 16, .inr (.inl gR))), (nC, .inl (cI, 9, .inl gC)), (nS, .inl (cI, 9, .inl gS))] := hD
      refine lv_aload_n hx hb md_M_row_47 rfl (lv_at hl 0 rfl) ?_
      refine va_get (D := (dC, dI)) (ci := 5) (v := .int 2) (C := mR_M) (T := mT_M) (N := 18) hx hb hg gu_M hown hK hP 0 rfl rfl 0 (by decide) (hg _ wd_532) (fun _ h9 => h9) rfl md_M_row_48 ?_
      refine lv_if_le (tgt := 58) hx hb md_M_row_51 (by decide) (fun c4 => absurd c4 (by decide)) (fun _ => ?_)
      refine lv_iconst (v := 0) hx hb md_M_row_54 (by decide) ?_
      refine lv_goto (tgt := 88) hx hb md_M_row_55 (by decide) ?_
      exact W.iret (v := 0) hx hb hr (fun t ht hW => ⟨⟨0, (2), rfl, (by rw [fM_row, if_pos c2, if_pos c3]), by have h9 := hP; rw [← ht] at h9; exact h9⟩, hS.F ht⟩) hS.2.2 md_M_row_88 hlocks
    · refine lv_iload_n hx hb md_M_row_24 rfl (lv_at hl 2 rfl) ?_
      refine lv_aload_n hx hb md_M_row_25 rfl (lv_at hl 0 rfl) ?_
      refine va_get (D := (dC, dI)) (ci := 5) (v := .ref nO) (C := mR_M) (T := mT_M) (N := 18) hx hb hg gu_M hown hK hP 0 rfl rfl 6 (by decide) (hg _ wd_538) (fun _ h9 => h9) rfl md_M_row_26 ?_
      refine lv_bipush (v := 8) hx hb md_M_row_29 (by decide) ?_
      refine lv_iload_n hx hb md_M_row_31 rfl (lv_at hl 1 rfl) ?_
      refine lv_imul hx hb md_M_row_32 ?_
      refine lv_iconst (v := 1) hx hb md_M_row_33 (by decide) ?_
      refine lv_iadd hx hb md_M_row_34 ?_
      refine va_iald hx hb hK hP 2 1 rfl rfl h8.2.2.1 md_M_row_35 ?_
      refine lv_icmp_lt (tgt := 43) hx hb md_M_row_36 (by decide) (fun c5 => ?_) (fun c5 => ?_)
      · refine lv_iconst (v := 0) hx hb md_M_row_43 (by decide) ?_
        refine va_put (D := (dC, dI)) (ci := 5) (v := .int 0) (ty := .int) (C := mR_M) (T := mT_M) (N := 18) hx hb hg gu_M mF_M mO_M mN_M hown hK hP hD hS 0 rfl rfl 0 (by decide) (hg _ wd_532) (fun _ h9 => h9) rfl (by decide +kernel) rfl rfl (Nat.le_of_ble_eq_true rfl) md_M_row_44 (fun H locs hP hD hS => ?_)
        have hP : va_P (dC, dI) mC [(nA, .inr (5, [.int 0, .ref nT, .int vs, .int va, .int vf, .int (nI vr), .ref nO, .ref nU, .ref nV, .long vw, .long vh, .long vt, .long vd, .ref nX, .ref nY, .ref nR, .ref nC, .ref nS])), (nT, .inl (cI, 300, .inl gT)), (nO, .inl (cI, 128, .inl gO)), (nU, .inl (cI, 128, .inl gU)), (nV, .inl (cI, 16, .inl gV)), (nX, .inl (cJ, 16, .inr (.inl gX))), (nY, .inl (cJ, 16, .inr (.inl gY))), (nR, .inl (cJ, 16, .inr (.inl gR))), (nC, .inl (cI, 9, .inl gC)), (nS, .inl (cI, 9, .inl gS))] H := hP
        have hD : va_D A [(nA, .inr (5, [.int 0, .ref nT, .int vs, .int va, .int vf, .int (nI vr), .ref nO, .ref nU, .ref nV, .long vw, .long vh, .long vt, .long vd, .ref nX, .ref nY, .ref nR, .ref nC, .ref nS])), (nT, .inl (cI, 300, .inl gT)), (nO, .inl (cI, 128, .inl gO)), (nU, .inl (cI, 128, .inl gU)), (nV, .inl (cI, 16, .inl gV)), (nX, .inl (cJ, 16, .inr (.inl gX))), (nY, .inl (cJ, 16, .inr (.inl gY))), (nR, .inl (cJ, 16, .inr (.inl gR))), (nC, .inl (cI, 9, .inl gC)), (nS, .inl (cI, 9, .inl gS))] := hD
        refine lv_aload_n hx hb md_M_row_47 rfl (lv_at hl 0 rfl) ?_
        refine va_get (D := (dC, dI)) (ci := 5) (v := .int 0) (C := mR_M) (T := mT_M) (N := 18) hx hb hg gu_M hown hK hP 0 rfl rfl 0 (by decide) (hg _ wd_532) (fun _ h9 => h9) rfl md_M_row_48 ?_
        refine lv_if_le (tgt := 58) hx hb md_M_row_51 (by decide) (fun _ => ?_) (fun c6 => absurd (by decide) c6)
        refine lv_iload_n hx hb md_M_row_58 rfl (lv_at hl 2 rfl) ?_
        refine lv_iconst (v := (-1)) hx hb md_M_row_59 (by decide) ?_
        refine lv_icmp_ne (tgt := 75) hx hb md_M_row_60 (by decide) (fun c7 => ?_) (fun c7 => ?_)
        · refine lv_aload_n hx hb md_M_row_75 rfl (lv_at hl 0 rfl) ?_
          refine va_get (D := (dC, dI)) (ci := 5) (v := .ref nO) (C := mR_M) (T := mT_M) (N := 18) hx hb hg gu_M hown hK hP 0 rfl rfl 6 (by decide) (hg _ wd_538) (fun _ h9 => h9) rfl md_M_row_76 ?_
          refine lv_bipush (v := 8) hx hb md_M_row_79 (by decide) ?_
          refine lv_iload_n hx hb md_M_row_81 rfl (lv_at hl 1 rfl) ?_
          refine lv_imul hx hb md_M_row_82 ?_
          refine lv_iconst (v := 2) hx hb md_M_row_83 (by decide) ?_
          refine lv_iadd hx hb md_M_row_84 ?_
          refine lv_iload_n hx hb md_M_row_85 rfl (lv_at hl 2 rfl) ?_
          refine lv_iadd hx hb md_M_row_86 ?_
          refine va_iald hx hb hK hP 2 1 rfl rfl (hO _ _ (rc_ok c2).2.1 (rc_ok c2).2.2 c3 c7 c5) md_M_row_87 ?_
          exact W.iret (v := gO (Int32.toNatClampNeg (((8 * row) + 2) + k))) hx hb hr (fun t ht hW => ⟨⟨gO (Int32.toNatClampNeg (((8 * row) + 2) + k)), (0), rfl, (by rw [fM_row, if_pos c2, if_neg c3, if_pos c5, if_neg c7]), by have h9 := hP; rw [← ht] at h9; exact h9⟩, hS.F ht⟩) hS.2.2 md_M_row_88 hlocks
        · refine lv_aload_n hx hb md_M_row_63 rfl (lv_at hl 0 rfl) ?_
          refine va_get (D := (dC, dI)) (ci := 5) (v := .ref nO) (C := mR_M) (T := mT_M) (N := 18) hx hb hg gu_M hown hK hP 0 rfl rfl 6 (by decide) (hg _ wd_538) (fun _ h9 => h9) rfl md_M_row_64 ?_
          refine lv_bipush (v := 8) hx hb md_M_row_67 (by decide) ?_
          refine lv_iload_n hx hb md_M_row_69 rfl (lv_at hl 1 rfl) ?_
          refine lv_imul hx hb md_M_row_70 ?_
          refine va_iald hx hb hK hP 2 1 rfl rfl h8.2.1 md_M_row_71 ?_
          refine lv_goto (tgt := 88) hx hb md_M_row_72 (by decide) ?_
          exact W.iret (v := gO (Int32.toNatClampNeg (8 * row))) hx hb hr (fun t ht hW => ⟨⟨gO (Int32.toNatClampNeg (8 * row)), (0), rfl, (by rw [fM_row, if_pos c2, if_neg c3, if_pos c5, if_pos c7]), by have h9 := hP; rw [← ht] at h9; exact h9⟩, hS.F ht⟩) hS.2.2 md_M_row_88 hlocks
      · refine lv_iconst (v := 2) hx hb md_M_row_39 (by decide) ?_
        refine lv_goto (tgt := 44) hx hb md_M_row_40 (by decide) ?_
        refine va_put (D := (dC, dI)) (ci := 5) (v := .int 2) (ty := .int) (C := mR_M) (T := mT_M) (N := 18) hx hb hg gu_M mF_M mO_M mN_M hown hK hP hD hS 0 rfl rfl 0 (by decide) (hg _ wd_532) (fun _ h9 => h9) rfl (by decide +kernel) rfl rfl (Nat.le_of_ble_eq_true rfl) md_M_row_44 (fun H locs hP hD hS => ?_)
        have hP : va_P (dC, dI) mC [(nA, .inr (5, [.int 2, .ref nT, .int vs, .int va, .int vf, .int (nI vr), .ref nO, .ref nU, .ref nV, .long vw, .long vh, .long vt, .long vd, .ref nX, .ref nY, .ref nR, .ref nC, .ref nS])), (nT, .inl (cI, 300, .inl gT)), (nO, .inl (cI, 128, .inl gO)), (nU, .inl (cI, 128, .inl gU)), (nV, .inl (cI, 16, .inl gV)), (nX, .inl (cJ, 16, .inr (.inl gX))), (nY, .inl (cJ, 16, .inr (.inl gY))), (nR, .inl (cJ, 16, .inr (.inl gR))), (nC, .inl (cI, 9, .inl gC)), (nS, .inl (cI, 9, .inl gS))] H := hP
        have hD : va_D A [(nA, .inr (5, [.int 2, .ref nT, .int vs, .int va, .int vf, .int (nI vr), .ref nO, .ref nU, .ref nV, .long vw, .long vh, .long vt, .long vd, .ref nX, .ref nY, .ref nR, .ref nC, .ref nS])), (nT, .inl (cI, 300, .inl gT)), (nO, .inl (cI, 128, .inl gO)), (nU, .inl (cI, 128, .inl gU)), (nV, .inl (cI, 16, .inl gV)), (nX, .inl (cJ, 16, .inr (.inl gX))), (nY, .inl (cJ, 16, .inr (.inl gY))), (nR, .inl (cJ, 16, .inr (.inl gR))), (nC, .inl (cI, 9, .inl gC)), (nS, .inl (cI, 9, .inl gS))] := hD
        refine lv_aload_n hx hb md_M_row_47 rfl (lv_at hl 0 rfl) ?_
        refine va_get (D := (dC, dI)) (ci := 5) (v := .int 2) (C := mR_M) (T := mT_M) (N := 18) hx hb hg gu_M hown hK hP 0 rfl rfl 0 (by decide) (hg _ wd_532) (fun _ h9 => h9) rfl md_M_row_48 ?_
        refine lv_if_le (tgt := 58) hx hb md_M_row_51 (by decide) (fun c8 => absurd c8 (by decide)) (fun _ => ?_)
        refine lv_iconst (v := 0) hx hb md_M_row_54 (by decide) ?_
        refine lv_goto (tgt := 88) hx hb md_M_row_55 (by decide) ?_
        exact W.iret (v := 0) hx hb hr (fun t ht hW => ⟨⟨0, (2), rfl, (by rw [fM_row, if_pos c2, if_neg c3, if_neg c5]), by have h9 := hP; rw [← ht] at h9; exact h9⟩, hS.F ht⟩) hS.2.2 md_M_row_88 hlocks
  · refine lv_iconst (v := 0) hx hb md_M_row_16 (by decide) ?_
    exact W.iret (v := 0) hx hb hr (fun t ht hW => ⟨⟨0, (fM_rowCode (nI vr) row), rfl, (by rw [fM_row, if_neg c2]), by have h9 := hP; rw [← ht] at h9; exact h9⟩, hS.F ht⟩) hS.2.2 md_M_row_17 hlocks

def fM_stock (gV : Nat → Int32) (vr : Nat) (row : Int32) (n0 : Int32) : Int32 × Int32 × (Nat → Int32) := if (fM_rowCode (nI vr) row) ≤ 0 then (if (fM_isIn (Int32.toInt64 n0) 0 1000) = 0 then (0, 3, gV) else (if (gV (Int32.toNatClampNeg row)) = n0 then (0, 0, gV) else (1, 0, upd gV (Int32.toNatClampNeg row) n0))) else (0, fM_rowCode (nI vr) row, gV)
theorem zM_stock (gV : Nat → Int32) (vr : Nat) (row : Int32) (n0 : Int32) : narrow .boolean (.int (fM_stock gV vr row n0).1) = .int (fM_stock gV vr row n0).1 := by
  unfold fM_stock
  repeat' split
  all_goals (dsimp only; rfl)
set_option maxHeartbeats 1000000 in
set_option maxRecDepth 100000 in
theorem ct_M_stock (l : Launch) (dC : Nat → ClassId) (dI : Nat → Nat → Nat) (cC cI cJ : ClassId) (nA : Nat) (nT : Nat) (nO : Nat) (nU : Nat) (nV : Nat) (nX : Nat) (nY : Nat) (nR : Nat) (nC : Nat) (nS : Nat) (gT : Nat → Int32) (gO : Nat → Int32) (gU : Nat → Int32) (gV : Nat → Int32) (gX : Nat → Int64) (gY : Nat → Int64) (gR : Nat → Int64) (gC : Nat → Int32) (gS : Nat → Int32) (vc : Int32) (vs : Int32) (va : Int32) (vf : Int32) (vr : Nat) (vw : Int64) (vh : Int64) (vt : Int64) (vd : Int64) (row : Int32) (n0 : Int32)  (hz : vr ≤ 16) : Met l my_M_stock (.code my_M_stock mb_M_stock 3 (some .boolean) :: gw_l) ({ frames := 1, cells := 0, slots := 0, locals := 25 }) (mu_Pc (dC, dI) mC [(cC, .char), (cI, .int), (cJ, .long)] [(nA, .inr (5, [.int vc, .ref nT, .int vs, .int va, .int vf, .int (nI vr), .ref nO, .ref nU, .ref nV, .long vw, .long vh, .long vt, .long vd, .ref nX, .ref nY, .ref nR, .ref nC, .ref nS])), (nT, .inl (cI, 300, .inl gT)), (nO, .inl (cI, 128, .inl gO)), (nU, .inl (cI, 128, .inl gU)), (nV, .inl (cI, 16, .inl gV)), (nX, .inl (cJ, 16, .inr (.inl gX))), (nY, .inl (cJ, 16, .inr (.inl gY))), (nR, .inl (cJ, 16, .inr (.inl gR))), (nC, .inl (cI, 9, .inl gC)), (nS, .inl (cI, 9, .inl gS))] (fun _ => True) [.ref nA, .int row, .int n0]) (va_Qi (fun (r : Int32) (u : Int32 × (Nat → Int32)) => (r, u) = fM_stock gV vr row n0) (fun u t => va_P (dC, dI) mC [(nA, .inr (5, [.int u.1, .ref nT, .int vs, .int va, .int vf, .int (nI vr), .ref nO, .ref nU, .ref nV, .long vw, .long vh, .long vt, .long vd, .ref nX, .ref nY, .ref nR, .ref nC, .ref nS])), (nT, .inl (cI, 300, .inl gT)), (nO, .inl (cI, 128, .inl gO)), (nU, .inl (cI, 128, .inl gU)), (nV, .inl (cI, 16, .inl u.2)), (nX, .inl (cJ, 16, .inr (.inl gX))), (nY, .inl (cJ, 16, .inr (.inl gY))), (nR, .inl (cJ, 16, .inr (.inl gR))), (nC, .inl (cI, 9, .inl gC)), (nS, .inl (cI, 9, .inl gS))] t.heap) (mu_A [(nA, .inr (5, [.int vc, .ref nT, .int vs, .int va, .int vf, .int (nI vr), .ref nO, .ref nU, .ref nV, .long vw, .long vh, .long vt, .long vd, .ref nX, .ref nY, .ref nR, .ref nC, .ref nS])), (nT, .inl (cI, 300, .inl gT)), (nO, .inl (cI, 128, .inl gO)), (nU, .inl (cI, 128, .inl gU)), (nV, .inl (cI, 16, .inl gV)), (nX, .inl (cJ, 16, .inr (.inl gX))), (nY, .inl (cJ, 16, .inr (.inl gY))), (nR, .inl (cJ, 16, .inr (.inl gR))), (nC, .inl (cI, 9, .inl gC)), (nS, .inl (cI, 9, .inl gS))])) 0 0 (mu_A [(nA, .inr (5, [.int vc, .ref nT, .int vs, .int va, .int vf, .int (nI vr), .ref nO, .ref nU, .ref nV, .long vw, .long vh, .long vt, .long vd, .ref nX, .ref nY, .ref nR, .ref nC, .ref nS])), (nT, .inl (cI, 300, .inl gT)), (nO, .inl (cI, 128, .inl gO)), (nU, .inl (cI, 128, .inl gU)), (nV, .inl (cI, 16, .inl gV)), (nX, .inl (cJ, 16, .inr (.inl gX))), (nY, .inl (cJ, 16, .inr (.inl gY))), (nR, .inl (cJ, 16, .inr (.inl gR))), (nC, .inl (cI, 9, .inl gC)), (nS, .inl (cI, 9, .inl gS))]) := by
  refine Met.ofW (cc := mb_M_stock) (maxL := 3) (ret := (some .boolean)) (by decide) rfl ?_
  intro p e s m args below meth c s₁ B hml hv
  obtain ⟨rfl, hP, hK, hD0, hE⟩ := hv
  have hx := B.exec
  have hb := B.bytes
  have hr := B.returns
  have hts := atoms_spec (ws := (.code my_M_stock mb_M_stock 3 (some .boolean) :: gw_l)) B.pre
  have hg : ∀ w ∈ gw_l, w.before _ s = true := fun w h => hts w (List.mem_cons_of_mem _ h)
  have hown : s.vm.findClass mR_M = some m.cls := findClass_of_methodNamed B.named
  have hlocks := B.notSynchronized
  have hD := mu_self hD0
  have hS : va_S (mu_A [(nA, .inr (5, [.int vc, .ref nT, .int vs, .int va, .int vf, .int (nI vr), .ref nO, .ref nU, .ref nV, .long vw, .long vh, .long vt, .long vd, .ref nX, .ref nY, .ref nR, .ref nC, .ref nS])), (nT, .inl (cI, 300, .inl gT)), (nO, .inl (cI, 128, .inl gO)), (nU, .inl (cI, 128, .inl gU)), (nV, .inl (cI, 16, .inl gV)), (nX, .inl (cJ, 16, .inr (.inl gX))), (nY, .inl (cJ, 16, .inr (.inl gY))), (nR, .inl (cJ, 16, .inr (.inl gR))), (nC, .inl (cI, 9, .inl gC)), (nS, .inl (cI, 9, .inl gS))]) s.heap s.heap [] := va_S.rf
  generalize hAe : mu_A [(nA, .inr (5, [.int vc, .ref nT, .int vs, .int va, .int vf, .int (nI vr), .ref nO, .ref nU, .ref nV, .long vw, .long vh, .long vt, .long vd, .ref nX, .ref nY, .ref nR, .ref nC, .ref nS])), (nT, .inl (cI, 300, .inl gT)), (nO, .inl (cI, 128, .inl gO)), (nU, .inl (cI, 128, .inl gU)), (nV, .inl (cI, 16, .inl gV)), (nX, .inl (cJ, 16, .inr (.inl gX))), (nY, .inl (cJ, 16, .inr (.inl gY))), (nR, .inl (cJ, 16, .inr (.inl gR))), (nC, .inl (cI, 9, .inl gC)), (nS, .inl (cI, 9, .inl gS))] = A at hD hS ⊢
  have hl := lv_entry ([.ref nA, .int row, .int n0]) (n := 3) (Nat.le_of_ble_eq_true rfl)
  rw [lg_entry_eq]
  generalize (lg_sl ([.ref nA, .int row, .int n0]) ++ List.replicate (3 - (lg_sl ([.ref nA, .int row, .int n0])).length) Slot.unset).toArray = ls at hl ⊢
  have hl : lv_has ls 3 [(0, .ref nA), (1, .int row), (2, .int n0)] := hl
  refine lv_aload_n hx hb md_M_stock_0 rfl (lv_at hl 0 rfl) ?_
  refine lv_aload_n hx hb md_M_stock_1 rfl (lv_at hl 0 rfl) ?_
  refine lv_iload_n hx hb md_M_stock_2 rfl (lv_at hl 1 rfl) ?_
  have hPc1 := hP.sub (ws' := [(nA, .inr (5, [.int vc, .ref nT, .int vs, .int va, .int vf, .int (nI vr), .ref nO, .ref nU, .ref nV, .long vw, .long vh, .long vt, .long vd, .ref nX, .ref nY, .ref nR, .ref nC, .ref nS])), (nT, .inl (cI, 300, .inl gT)), (nO, .inl (cI, 128, .inl gO)), (nU, .inl (cI, 128, .inl gU)), (nV, .inl (cI, 16, .inl gV)), (nX, .inl (cJ, 16, .inr (.inl gX))), (nY, .inl (cJ, 16, .inr (.inl gY))), (nR, .inl (cJ, 16, .inr (.inl gR))), (nC, .inl (cI, 9, .inl gC)), (nS, .inl (cI, 9, .inl gS))]) [0, 1, 2, 3, 4, 5, 6, 7, 8, 9] rfl
  refine pu_i (W.runV (As := [.int row]) (rest := [.ref nA]) ⟨hx, hb, hml, hown, hg⟩ (ct_M_rowCode l dC dI cC cI cJ nA nT nO nU nV nX nY nR nC nS gT gO gU gV gX gY gR gC gS vc vs va vf (nI vr) vw vh vt vd row) (gw_cwV hg wd_627 mv_M_rowCode rfl rfl ⟨Nat.le_of_ble_eq_true rfl, Nat.le_of_ble_eq_true rfl⟩) (pu_preV (ci := 5) (q0 := 0) pu_blT hK hPc1 pu_e1 rfl rfl) rfl rfl hl.1 rfl (lv_room (Nat.le_of_ble_eq_true rfl)) md_M_stock_3 ⟨Nat.zero_le _, Nat.zero_le _⟩) ?_
  refine va_put (D := (dC, dI)) (ci := 5) (v := .int (fM_rowCode (nI vr) row)) (ty := .int) (C := mR_M) (T := mT_M) (N := 18) hx hb hg gu_M mF_M mO_M mN_M hown hK hP hD hS 0 rfl rfl 0 (by decide) (hg _ wd_532) (fun _ h9 => h9) rfl (by decide +kernel) rfl rfl (Nat.le_of_ble_eq_true rfl) md_M_stock_6 (fun H locs hP hD hS => ?_)
  have hP : va_P (dC, dI) mC [(nA, .inr (5, [.int (fM_rowCode (nI vr) row), .ref nT, .int vs, .int va, .int vf, .int (nI vr), .ref nO, .ref nU, .ref nV, .long vw, .long vh, .long vt, .long vd, .ref nX, .ref nY, .ref nR, .ref nC, .ref nS])), (nT, .inl (cI, 300, .inl gT)), (nO, .inl (cI, 128, .inl gO)), (nU, .inl (cI, 128, .inl gU)), (nV, .inl (cI, 16, .inl gV)), (nX, .inl (cJ, 16, .inr (.inl gX))), (nY, .inl (cJ, 16, .inr (.inl gY))), (nR, .inl (cJ, 16, .inr (.inl gR))), (nC, .inl (cI, 9, .inl gC)), (nS, .inl (cI, 9, .inl gS))] H := hP
  have hD : va_D A [(nA, .inr (5, [.int (fM_rowCode (nI vr) row), .ref nT, .int vs, .int va, .int vf, .int (nI vr), .ref nO, .ref nU, .ref nV, .long vw, .long vh, .long vt, .long vd, .ref nX, .ref nY, .ref nR, .ref nC, .ref nS])), (nT, .inl (cI, 300, .inl gT)), (nO, .inl (cI, 128, .inl gO)), (nU, .inl (cI, 128, .inl gU)), (nV, .inl (cI, 16, .inl gV)), (nX, .inl (cJ, 16, .inr (.inl gX))), (nY, .inl (cJ, 16, .inr (.inl gY))), (nR, .inl (cJ, 16, .inr (.inl gR))), (nC, .inl (cI, 9, .inl gC)), (nS, .inl (cI, 9, .inl gS))] := hD
  refine lv_aload_n hx hb md_M_stock_9 rfl (lv_at hl 0 rfl) ?_
  refine va_get (D := (dC, dI)) (ci := 5) (v := .int (fM_rowCode (nI vr) row)) (C := mR_M) (T := mT_M) (N := 18) hx hb hg gu_M hown hK hP 0 rfl rfl 0 (by decide) (hg _ wd_532) (fun _ h9 => h9) rfl md_M_stock_10 ?_
  refine lv_if_le (tgt := 18) hx hb md_M_stock_13 (by decide) (fun c2 => ?_) (fun c2 => ?_)
  · have h8 := m8_r hz (rc_ok c2).2.1 (rc_ok c2).2.2
    refine lv_aload_n hx hb md_M_stock_18 rfl (lv_at hl 0 rfl) ?_
    refine lv_iload_n hx hb md_M_stock_19 rfl (lv_at hl 2 rfl) ?_
    refine lv_i2l (v := Int32.toInt64 n0) hx hb md_M_stock_20 rfl ?_
    refine lv_lconst (v := 0) hx hb md_M_stock_21 (by decide) ?_
    refine lv_ldc2 hx hb hown (hg _ wd_635) md_M_stock_22 ?_
    have hPc3 := hP.sub (ws' := []) [] rfl
    refine pu_i (W.runS (As := [.long (Int32.toInt64 n0), .long 0, .long 1000]) (rest := [.ref nA]) ⟨hx, hb, hml, hown, hg⟩ (ct_M_isIn l dC dI cC cI cJ (Int32.toInt64 n0) 0 1000) (gw_cwS hg wd_620 mv_M_isIn rfl rfl ⟨Nat.le_of_ble_eq_true rfl, Nat.le_of_ble_eq_true rfl⟩) (pu_preS pu_blT hK hPc3 pu_e1) rfl rfl hl.1 rfl (lv_room (Nat.le_of_ble_eq_true rfl)) md_M_stock_25 ⟨Nat.zero_le _, Nat.zero_le _⟩) ?_
    refine lv_if_eq (tgt := 35) hx hb md_M_stock_28 (by decide) (fun c4 => ?_) (fun c4 => ?_)
    · refine lv_iconst (v := 3) hx hb md_M_stock_35 (by decide) ?_
      refine va_put (D := (dC, dI)) (ci := 5) (v := .int 3) (ty := .int) (C := mR_M) (T := mT_M) (N := 18) hx hb hg gu_M mF_M mO_M mN_M hown hK hP hD hS 0 rfl rfl 0 (by decide) (hg _ wd_532) (fun _ h9 => h9) rfl (by decide +kernel) rfl rfl (Nat.le_of_ble_eq_true rfl) md_M_stock_36 (fun H locs hP hD hS => ?_)
      have hP : va_P (dC, dI) mC [(nA, .inr (5, [.int 3, .ref nT, .int vs, .int va, .int vf, .int (nI vr), .ref nO, .ref nU, .ref nV, .long vw, .long vh, .long vt, .long vd, .ref nX, .ref nY, .ref nR, .ref nC, .ref nS])), (nT, .inl (cI, 300, .inl gT)), (nO, .inl (cI, 128, .inl gO)), (nU, .inl (cI, 128, .inl gU)), (nV, .inl (cI, 16, .inl gV)), (nX, .inl (cJ, 16, .inr (.inl gX))), (nY, .inl (cJ, 16, .inr (.inl gY))), (nR, .inl (cJ, 16, .inr (.inl gR))), (nC, .inl (cI, 9, .inl gC)), (nS, .inl (cI, 9, .inl gS))] H := hP
      have hD : va_D A [(nA, .inr (5, [.int 3, .ref nT, .int vs, .int va, .int vf, .int (nI vr), .ref nO, .ref nU, .ref nV, .long vw, .long vh, .long vt, .long vd, .ref nX, .ref nY, .ref nR, .ref nC, .ref nS])), (nT, .inl (cI, 300, .inl gT)), (nO, .inl (cI, 128, .inl gO)), (nU, .inl (cI, 128, .inl gU)), (nV, .inl (cI, 16, .inl gV)), (nX, .inl (cJ, 16, .inr (.inl gX))), (nY, .inl (cJ, 16, .inr (.inl gY))), (nR, .inl (cJ, 16, .inr (.inl gR))), (nC, .inl (cI, 9, .inl gC)), (nS, .inl (cI, 9, .inl gS))] := hD
      refine lv_aload_n hx hb md_M_stock_39 rfl (lv_at hl 0 rfl) ?_
      refine va_get (D := (dC, dI)) (ci := 5) (v := .int 3) (C := mR_M) (T := mT_M) (N := 18) hx hb hg gu_M hown hK hP 0 rfl rfl 0 (by decide) (hg _ wd_532) (fun _ h9 => h9) rfl md_M_stock_40 ?_
      refine lv_if_gt (tgt := 56) hx hb md_M_stock_43 (by decide) (fun _ => ?_) (fun c5 => absurd (by decide) c5)
      refine lv_iconst (v := 0) hx hb md_M_stock_56 (by decide) ?_
      exact W.zret (v := 0) hx hb hr rfl (fun t ht hW => ⟨⟨0, (3, gV), rfl, (by rw [fM_stock, if_pos c2, if_pos c4]), by have h9 := hP; rw [← ht] at h9; exact h9⟩, hS.F ht⟩) hS.2.2 md_M_stock_57 hlocks
    · refine lv_iconst (v := 0) hx hb md_M_stock_31 (by decide) ?_
      refine lv_goto (tgt := 36) hx hb md_M_stock_32 (by decide) ?_
      refine va_put (D := (dC, dI)) (ci := 5) (v := .int 0) (ty := .int) (C := mR_M) (T := mT_M) (N := 18) hx hb hg gu_M mF_M mO_M mN_M hown hK hP hD hS 0 rfl rfl 0 (by decide) (hg _ wd_532) (fun _ h9 => h9) rfl (by decide +kernel) rfl rfl (Nat.le_of_ble_eq_true rfl) md_M_stock_36 (fun H locs hP hD hS => ?_)
      have hP : va_P (dC, dI) mC [(nA, .inr (5, [.int 0, .ref nT, .int vs, .int va, .int vf, .int (nI vr), .ref nO, .ref nU, .ref nV, .long vw, .long vh, .long vt, .long vd, .ref nX, .ref nY, .ref nR, .ref nC, .ref nS])), (nT, .inl (cI, 300, .inl gT)), (nO, .inl (cI, 128, .inl gO)), (nU, .inl (cI, 128, .inl gU)), (nV, .inl (cI, 16, .inl gV)), (nX, .inl (cJ, 16, .inr (.inl gX))), (nY, .inl (cJ, 16, .inr (.inl gY))), (nR, .inl (cJ, 16, .inr (.inl gR))), (nC, .inl (cI, 9, .inl gC)), (nS, .inl (cI, 9, .inl gS))] H := hP
      have hD : va_D A [(nA, .inr (5, [.int 0, .ref nT, .int vs, .int va, .int vf, .int (nI vr), .ref nO, .ref nU, .ref nV, .long vw, .long vh, .long vt, .long vd, .ref nX, .ref nY, .ref nR, .ref nC, .ref nS])), (nT, .inl (cI, 300, .inl gT)), (nO, .inl (cI, 128, .inl gO)), (nU, .inl (cI, 128, .inl gU)), (nV, .inl (cI, 16, .inl gV)), (nX, .inl (cJ, 16, .inr (.inl gX))), (nY, .inl (cJ, 16, .inr (.inl gY))), (nR, .inl (cJ, 16, .inr (.inl gR))), (nC, .inl (cI, 9, .inl gC)), (nS, .inl (cI, 9, .inl gS))] := hD
      refine lv_aload_n hx hb md_M_stock_39 rfl (lv_at hl 0 rfl) ?_
      refine va_get (D := (dC, dI)) (ci := 5) (v := .int 0) (C := mR_M) (T := mT_M) (N := 18) hx hb hg gu_M hown hK hP 0 rfl rfl 0 (by decide) (hg _ wd_532) (fun _ h9 => h9) rfl md_M_stock_40 ?_
      refine lv_if_gt (tgt := 56) hx hb md_M_stock_43 (by decide) (fun c6 => absurd c6 (by decide)) (fun _ => ?_)
      refine lv_aload_n hx hb md_M_stock_46 rfl (lv_at hl 0 rfl) ?_
      refine va_get (D := (dC, dI)) (ci := 5) (v := .ref nV) (C := mR_M) (T := mT_M) (N := 18) hx hb hg gu_M hown hK hP 0 rfl rfl 8 (by decide) (hg _ wd_540) (fun _ h9 => h9) rfl md_M_stock_47 ?_
      refine lv_iload_n hx hb md_M_stock_50 rfl (lv_at hl 1 rfl) ?_
      refine va_iald hx hb hK hP 4 1 rfl rfl h8.1 md_M_stock_51 ?_
      refine lv_iload_n hx hb md_M_stock_52 rfl (lv_at hl 2 rfl) ?_
      refine lv_icmp_ne (tgt := 58) hx hb md_M_stock_53 (by decide) (fun c7 => ?_) (fun c7 => ?_)
      · refine lv_aload_n hx hb md_M_stock_58 rfl (lv_at hl 0 rfl) ?_
        refine va_get (D := (dC, dI)) (ci := 5) (v := .ref nV) (C := mR_M) (T := mT_M) (N := 18) hx hb hg gu_M hown hK hP 0 rfl rfl 8 (by decide) (hg _ wd_540) (fun _ h9 => h9) rfl md_M_stock_59 ?_
        refine lv_iload_n hx hb md_M_stock_62 rfl (lv_at hl 1 rfl) ?_
        refine lv_iload_n hx hb md_M_stock_63 rfl (lv_at hl 2 rfl) ?_
        refine va_iast hx hb hK hP hD hS 4 1 rfl rfl h8.1 md_M_stock_64 (fun H locs hP hD hS => ?_)
        have hP : va_P (dC, dI) mC [(nA, .inr (5, [.int 0, .ref nT, .int vs, .int va, .int vf, .int (nI vr), .ref nO, .ref nU, .ref nV, .long vw, .long vh, .long vt, .long vd, .ref nX, .ref nY, .ref nR, .ref nC, .ref nS])), (nT, .inl (cI, 300, .inl gT)), (nO, .inl (cI, 128, .inl gO)), (nU, .inl (cI, 128, .inl gU)), (nV, .inl (cI, 16, .inl (upd gV (Int32.toNatClampNeg row) n0))), (nX, .inl (cJ, 16, .inr (.inl gX))), (nY, .inl (cJ, 16, .inr (.inl gY))), (nR, .inl (cJ, 16, .inr (.inl gR))), (nC, .inl (cI, 9, .inl gC)), (nS, .inl (cI, 9, .inl gS))] H := hP
        have hD : va_D A [(nA, .inr (5, [.int 0, .ref nT, .int vs, .int va, .int vf, .int (nI vr), .ref nO, .ref nU, .ref nV, .long vw, .long vh, .long vt, .long vd, .ref nX, .ref nY, .ref nR, .ref nC, .ref nS])), (nT, .inl (cI, 300, .inl gT)), (nO, .inl (cI, 128, .inl gO)), (nU, .inl (cI, 128, .inl gU)), (nV, .inl (cI, 16, .inl (upd gV (Int32.toNatClampNeg row) n0))), (nX, .inl (cJ, 16, .inr (.inl gX))), (nY, .inl (cJ, 16, .inr (.inl gY))), (nR, .inl (cJ, 16, .inr (.inl gR))), (nC, .inl (cI, 9, .inl gC)), (nS, .inl (cI, 9, .inl gS))] := hD
        refine lv_iconst (v := 1) hx hb md_M_stock_65 (by decide) ?_
        exact W.zret (v := 1) hx hb hr rfl (fun t ht hW => ⟨⟨1, (0, upd gV (Int32.toNatClampNeg row) n0), rfl, (by rw [fM_stock, if_pos c2, if_neg c4, if_neg c7]), by have h9 := hP; rw [← ht] at h9; exact h9⟩, hS.F ht⟩) hS.2.2 md_M_stock_66 hlocks
      · refine lv_iconst (v := 0) hx hb md_M_stock_56 (by decide) ?_
        exact W.zret (v := 0) hx hb hr rfl (fun t ht hW => ⟨⟨0, (0, gV), rfl, (by rw [fM_stock, if_pos c2, if_neg c4, if_pos c7]), by have h9 := hP; rw [← ht] at h9; exact h9⟩, hS.F ht⟩) hS.2.2 md_M_stock_57 hlocks
  · refine lv_iconst (v := 0) hx hb md_M_stock_16 (by decide) ?_
    exact W.zret (v := 0) hx hb hr rfl (fun t ht hW => ⟨⟨0, (fM_rowCode (nI vr) row, gV), rfl, (by rw [fM_stock, if_neg c2]), by have h9 := hP; rw [← ht] at h9; exact h9⟩, hS.F ht⟩) hS.2.2 md_M_stock_17 hlocks

def fM_door (vw : Int64) (vh : Int64) (vt : Int64) (vd : Int64) (w0 : Int64) (h0 : Int64) (th0 : Int64) (de0 : Int64) : Int32 × Int32 × Int64 × Int64 × Int64 × Int64 := if (fM_isSize w0) = 0 then (0, 1, vw, vh, vt, vd) else (if (fM_isSize h0) = 0 then (0, 1, vw, vh, vt, vd) else (if (fM_isSize th0) = 0 then (0, 1, vw, vh, vt, vd) else (if (fM_isSize de0) = 0 then (0, 1, vw, vh, vt, vd) else (if w0 = vw then (if h0 = vh then (if th0 = vt then (if de0 = vd then (0, 0, vw, vh, vt, vd) else (1, 0, w0, h0, th0, de0)) else (1, 0, w0, h0, th0, de0)) else (1, 0, w0, h0, th0, de0)) else (1, 0, w0, h0, th0, de0)))))
theorem zM_door (vw : Int64) (vh : Int64) (vt : Int64) (vd : Int64) (w0 : Int64) (h0 : Int64) (th0 : Int64) (de0 : Int64) : narrow .boolean (.int (fM_door vw vh vt vd w0 h0 th0 de0).1) = .int (fM_door vw vh vt vd w0 h0 th0 de0).1 := by
  unfold fM_door
  repeat' split
  all_goals (dsimp only; rfl)
set_option maxHeartbeats 1000000 in
set_option maxRecDepth 100000 in
theorem ct_M_door (l : Launch) (dC : Nat → ClassId) (dI : Nat → Nat → Nat) (cC cI cJ : ClassId) (nA : Nat) (nT : Nat) (nO : Nat) (nU : Nat) (nV : Nat) (nX : Nat) (nY : Nat) (nR : Nat) (nC : Nat) (nS : Nat) (gT : Nat → Int32) (gO : Nat → Int32) (gU : Nat → Int32) (gV : Nat → Int32) (gX : Nat → Int64) (gY : Nat → Int64) (gR : Nat → Int64) (gC : Nat → Int32) (gS : Nat → Int32) (vc : Int32) (vs : Int32) (va : Int32) (vf : Int32) (vr : Int32) (vw : Int64) (vh : Int64) (vt : Int64) (vd : Int64) (w0 : Int64) (h0 : Int64) (th0 : Int64) (de0 : Int64)   : Met l my_M_door (.code my_M_door mb_M_door 9 (some .boolean) :: gw_l) ({ frames := 1, cells := 0, slots := 0, locals := 21 }) (mu_Pc (dC, dI) mC [(cC, .char), (cI, .int), (cJ, .long)] [(nA, .inr (5, [.int vc, .ref nT, .int vs, .int va, .int vf, .int vr, .ref nO, .ref nU, .ref nV, .long vw, .long vh, .long vt, .long vd, .ref nX, .ref nY, .ref nR, .ref nC, .ref nS])), (nT, .inl (cI, 300, .inl gT)), (nO, .inl (cI, 128, .inl gO)), (nU, .inl (cI, 128, .inl gU)), (nV, .inl (cI, 16, .inl gV)), (nX, .inl (cJ, 16, .inr (.inl gX))), (nY, .inl (cJ, 16, .inr (.inl gY))), (nR, .inl (cJ, 16, .inr (.inl gR))), (nC, .inl (cI, 9, .inl gC)), (nS, .inl (cI, 9, .inl gS))] (fun _ => True) [.ref nA, .long w0, .long h0, .long th0, .long de0]) (va_Qi (fun (r : Int32) (u : Int32 × Int64 × Int64 × Int64 × Int64) => (r, u) = fM_door vw vh vt vd w0 h0 th0 de0) (fun u t => va_P (dC, dI) mC [(nA, .inr (5, [.int u.1, .ref nT, .int vs, .int va, .int vf, .int vr, .ref nO, .ref nU, .ref nV, .long u.2.1, .long u.2.2.1, .long u.2.2.2.1, .long u.2.2.2.2, .ref nX, .ref nY, .ref nR, .ref nC, .ref nS])), (nT, .inl (cI, 300, .inl gT)), (nO, .inl (cI, 128, .inl gO)), (nU, .inl (cI, 128, .inl gU)), (nV, .inl (cI, 16, .inl gV)), (nX, .inl (cJ, 16, .inr (.inl gX))), (nY, .inl (cJ, 16, .inr (.inl gY))), (nR, .inl (cJ, 16, .inr (.inl gR))), (nC, .inl (cI, 9, .inl gC)), (nS, .inl (cI, 9, .inl gS))] t.heap) (mu_A [(nA, .inr (5, [.int vc, .ref nT, .int vs, .int va, .int vf, .int vr, .ref nO, .ref nU, .ref nV, .long vw, .long vh, .long vt, .long vd, .ref nX, .ref nY, .ref nR, .ref nC, .ref nS])), (nT, .inl (cI, 300, .inl gT)), (nO, .inl (cI, 128, .inl gO)), (nU, .inl (cI, 128, .inl gU)), (nV, .inl (cI, 16, .inl gV)), (nX, .inl (cJ, 16, .inr (.inl gX))), (nY, .inl (cJ, 16, .inr (.inl gY))), (nR, .inl (cJ, 16, .inr (.inl gR))), (nC, .inl (cI, 9, .inl gC)), (nS, .inl (cI, 9, .inl gS))])) 0 0 (mu_A [(nA, .inr (5, [.int vc, .ref nT, .int vs, .int va, .int vf, .int vr, .ref nO, .ref nU, .ref nV, .long vw, .long vh, .long vt, .long vd, .ref nX, .ref nY, .ref nR, .ref nC, .ref nS])), (nT, .inl (cI, 300, .inl gT)), (nO, .inl (cI, 128, .inl gO)), (nU, .inl (cI, 128, .inl gU)), (nV, .inl (cI, 16, .inl gV)), (nX, .inl (cJ, 16, .inr (.inl gX))), (nY, .inl (cJ, 16, .inr (.inl gY))), (nR, .inl (cJ, 16, .inr (.inl gR))), (nC, .inl (cI, 9, .inl gC)), (nS, .inl (cI, 9, .inl gS))]) := by
  refine Met.ofW (cc := mb_M_door) (maxL := 9) (ret := (some .boolean)) (by decide) rfl ?_
  intro p e s m args below meth c s₁ B hml hv
  obtain ⟨rfl, hP, hK, hD0, hE⟩ := hv
  have hx := B.exec
  have hb := B.bytes
  have hr := B.returns
  have hts := atoms_spec (ws := (.code my_M_door mb_M_door 9 (some .boolean) :: gw_l)) B.pre
  have hg : ∀ w ∈ gw_l, w.before _ s = true := fun w h => hts w (List.mem_cons_of_mem _ h)
  have hown : s.vm.findClass mR_M = some m.cls := findClass_of_methodNamed B.named
  have hlocks := B.notSynchronized
  have hD := mu_self hD0
  have hS : va_S (mu_A [(nA, .inr (5, [.int vc, .ref nT, .int vs, .int va, .int vf, .int vr, .ref nO, .ref nU, .ref nV, .long vw, .long vh, .long vt, .long vd, .ref nX, .ref nY, .ref nR, .ref nC, .ref nS])), (nT, .inl (cI, 300, .inl gT)), (nO, .inl (cI, 128, .inl gO)), (nU, .inl (cI, 128, .inl gU)), (nV, .inl (cI, 16, .inl gV)), (nX, .inl (cJ, 16, .inr (.inl gX))), (nY, .inl (cJ, 16, .inr (.inl gY))), (nR, .inl (cJ, 16, .inr (.inl gR))), (nC, .inl (cI, 9, .inl gC)), (nS, .inl (cI, 9, .inl gS))]) s.heap s.heap [] := va_S.rf
  generalize hAe : mu_A [(nA, .inr (5, [.int vc, .ref nT, .int vs, .int va, .int vf, .int vr, .ref nO, .ref nU, .ref nV, .long vw, .long vh, .long vt, .long vd, .ref nX, .ref nY, .ref nR, .ref nC, .ref nS])), (nT, .inl (cI, 300, .inl gT)), (nO, .inl (cI, 128, .inl gO)), (nU, .inl (cI, 128, .inl gU)), (nV, .inl (cI, 16, .inl gV)), (nX, .inl (cJ, 16, .inr (.inl gX))), (nY, .inl (cJ, 16, .inr (.inl gY))), (nR, .inl (cJ, 16, .inr (.inl gR))), (nC, .inl (cI, 9, .inl gC)), (nS, .inl (cI, 9, .inl gS))] = A at hD hS ⊢
  have hl := lv_entry ([.ref nA, .long w0, .long h0, .long th0, .long de0]) (n := 9) (Nat.le_of_ble_eq_true rfl)
  rw [lg_entry_eq]
  generalize (lg_sl ([.ref nA, .long w0, .long h0, .long th0, .long de0]) ++ List.replicate (9 - (lg_sl ([.ref nA, .long w0, .long h0, .long th0, .long de0])).length) Slot.unset).toArray = ls at hl ⊢
  have hl : lv_has ls 9 [(0, .ref nA), (1, .long w0), (3, .long h0), (5, .long th0), (7, .long de0)] := hl
  refine lv_aload_n hx hb md_M_door_0 rfl (lv_at hl 0 rfl) ?_
  refine lv_lload_n hx hb md_M_door_1 rfl (lv_at hl 1 rfl) ?_
  have hPc1 := hP.sub (ws' := []) [] rfl
  refine pu_i (W.runS (As := [.long w0]) (rest := [.ref nA]) ⟨hx, hb, hml, hown, hg⟩ (ct_M_isSize l dC dI cC cI cJ w0) (gw_cwS hg wd_664 mv_M_isSize rfl rfl ⟨Nat.le_of_ble_eq_true rfl, Nat.le_of_ble_eq_true rfl⟩) (pu_preS pu_blT hK hPc1 pu_e1) rfl rfl hl.1 rfl (lv_room (Nat.le_of_ble_eq_true rfl)) md_M_door_2 ⟨Nat.zero_le _, Nat.zero_le _⟩) ?_
  refine lv_if_eq (tgt := 35) hx hb md_M_door_5 (by decide) (fun c2 => ?_) (fun c2 => ?_)
  · refine lv_iconst (v := 1) hx hb md_M_door_35 (by decide) ?_
    refine va_put (D := (dC, dI)) (ci := 5) (v := .int 1) (ty := .int) (C := mR_M) (T := mT_M) (N := 18) hx hb hg gu_M mF_M mO_M mN_M hown hK hP hD hS 0 rfl rfl 0 (by decide) (hg _ wd_532) (fun _ h9 => h9) rfl (by decide +kernel) rfl rfl (Nat.le_of_ble_eq_true rfl) md_M_door_36 (fun H locs hP hD hS => ?_)
    have hP : va_P (dC, dI) mC [(nA, .inr (5, [.int 1, .ref nT, .int vs, .int va, .int vf, .int vr, .ref nO, .ref nU, .ref nV, .long vw, .long vh, .long vt, .long vd, .ref nX, .ref nY, .ref nR, .ref nC, .ref nS])), (nT, .inl (cI, 300, .inl gT)), (nO, .inl (cI, 128, .inl gO)), (nU, .inl (cI, 128, .inl gU)), (nV, .inl (cI, 16, .inl gV)), (nX, .inl (cJ, 16, .inr (.inl gX))), (nY, .inl (cJ, 16, .inr (.inl gY))), (nR, .inl (cJ, 16, .inr (.inl gR))), (nC, .inl (cI, 9, .inl gC)), (nS, .inl (cI, 9, .inl gS))] H := hP
    have hD : va_D A [(nA, .inr (5, [.int 1, .ref nT, .int vs, .int va, .int vf, .int vr, .ref nO, .ref nU, .ref nV, .long vw, .long vh, .long vt, .long vd, .ref nX, .ref nY, .ref nR, .ref nC, .ref nS])), (nT, .inl (cI, 300, .inl gT)), (nO, .inl (cI, 128, .inl gO)), (nU, .inl (cI, 128, .inl gU)), (nV, .inl (cI, 16, .inl gV)), (nX, .inl (cJ, 16, .inr (.inl gX))), (nY, .inl (cJ, 16, .inr (.inl gY))), (nR, .inl (cJ, 16, .inr (.inl gR))), (nC, .inl (cI, 9, .inl gC)), (nS, .inl (cI, 9, .inl gS))] := hD
    refine lv_aload_n hx hb md_M_door_39 rfl (lv_at hl 0 rfl) ?_
    refine va_get (D := (dC, dI)) (ci := 5) (v := .int 1) (C := mR_M) (T := mT_M) (N := 18) hx hb hg gu_M hown hK hP 0 rfl rfl 0 (by decide) (hg _ wd_532) (fun _ h9 => h9) rfl md_M_door_40 ?_
    refine lv_if_gt (tgt := 84) hx hb md_M_door_43 (by decide) (fun _ => ?_) (fun c3 => absurd (by decide) c3)
    refine lv_iconst (v := 0) hx hb md_M_door_84 (by decide) ?_
    exact W.zret (v := 0) hx hb hr rfl (fun t ht hW => ⟨⟨0, (1, vw, vh, vt, vd), rfl, (by rw [fM_door, if_pos c2]), by have h9 := hP; rw [← ht] at h9; exact h9⟩, hS.F ht⟩) hS.2.2 md_M_door_85 hlocks
  · refine lv_lload_n hx hb md_M_door_8 rfl (lv_at hl 2 rfl) ?_
    have hPc4 := hP.sub (ws' := []) [] rfl
    refine pu_i (W.runS (As := [.long h0]) (rest := [.ref nA]) ⟨hx, hb, hml, hown, hg⟩ (ct_M_isSize l dC dI cC cI cJ h0) (gw_cwS hg wd_664 mv_M_isSize rfl rfl ⟨Nat.le_of_ble_eq_true rfl, Nat.le_of_ble_eq_true rfl⟩) (pu_preS pu_blT hK hPc4 pu_e1) rfl rfl hl.1 rfl (lv_room (Nat.le_of_ble_eq_true rfl)) md_M_door_9 ⟨Nat.zero_le _, Nat.zero_le _⟩) ?_
    refine lv_if_eq (tgt := 35) hx hb md_M_door_12 (by decide) (fun c5 => ?_) (fun c5 => ?_)
    · refine lv_iconst (v := 1) hx hb md_M_door_35 (by decide) ?_
      refine va_put (D := (dC, dI)) (ci := 5) (v := .int 1) (ty := .int) (C := mR_M) (T := mT_M) (N := 18) hx hb hg gu_M mF_M mO_M mN_M hown hK hP hD hS 0 rfl rfl 0 (by decide) (hg _ wd_532) (fun _ h9 => h9) rfl (by decide +kernel) rfl rfl (Nat.le_of_ble_eq_true rfl) md_M_door_36 (fun H locs hP hD hS => ?_)
      have hP : va_P (dC, dI) mC [(nA, .inr (5, [.int 1, .ref nT, .int vs, .int va, .int vf, .int vr, .ref nO, .ref nU, .ref nV, .long vw, .long vh, .long vt, .long vd, .ref nX, .ref nY, .ref nR, .ref nC, .ref nS])), (nT, .inl (cI, 300, .inl gT)), (nO, .inl (cI, 128, .inl gO)), (nU, .inl (cI, 128, .inl gU)), (nV, .inl (cI, 16, .inl gV)), (nX, .inl (cJ, 16, .inr (.inl gX))), (nY, .inl (cJ, 16, .inr (.inl gY))), (nR, .inl (cJ, 16, .inr (.inl gR))), (nC, .inl (cI, 9, .inl gC)), (nS, .inl (cI, 9, .inl gS))] H := hP
      have hD : va_D A [(nA, .inr (5, [.int 1, .ref nT, .int vs, .int va, .int vf, .int vr, .ref nO, .ref nU, .ref nV, .long vw, .long vh, .long vt, .long vd, .ref nX, .ref nY, .ref nR, .ref nC, .ref nS])), (nT, .inl (cI, 300, .inl gT)), (nO, .inl (cI, 128, .inl gO)), (nU, .inl (cI, 128, .inl gU)), (nV, .inl (cI, 16, .inl gV)), (nX, .inl (cJ, 16, .inr (.inl gX))), (nY, .inl (cJ, 16, .inr (.inl gY))), (nR, .inl (cJ, 16, .inr (.inl gR))), (nC, .inl (cI, 9, .inl gC)), (nS, .inl (cI, 9, .inl gS))] := hD
      refine lv_aload_n hx hb md_M_door_39 rfl (lv_at hl 0 rfl) ?_
      refine va_get (D := (dC, dI)) (ci := 5) (v := .int 1) (C := mR_M) (T := mT_M) (N := 18) hx hb hg gu_M hown hK hP 0 rfl rfl 0 (by decide) (hg _ wd_532) (fun _ h9 => h9) rfl md_M_door_40 ?_
      refine lv_if_gt (tgt := 84) hx hb md_M_door_43 (by decide) (fun _ => ?_) (fun c6 => absurd (by decide) c6)
      refine lv_iconst (v := 0) hx hb md_M_door_84 (by decide) ?_
      exact W.zret (v := 0) hx hb hr rfl (fun t ht hW => ⟨⟨0, (1, vw, vh, vt, vd), rfl, (by rw [fM_door, if_neg c2, if_pos c5]), by have h9 := hP; rw [← ht] at h9; exact h9⟩, hS.F ht⟩) hS.2.2 md_M_door_85 hlocks
    · refine lv_lload hx hb md_M_door_15 (lv_at hl 3 rfl) ?_
      have hPc7 := hP.sub (ws' := []) [] rfl
      refine pu_i (W.runS (As := [.long th0]) (rest := [.ref nA]) ⟨hx, hb, hml, hown, hg⟩ (ct_M_isSize l dC dI cC cI cJ th0) (gw_cwS hg wd_664 mv_M_isSize rfl rfl ⟨Nat.le_of_ble_eq_true rfl, Nat.le_of_ble_eq_true rfl⟩) (pu_preS pu_blT hK hPc7 pu_e1) rfl rfl hl.1 rfl (lv_room (Nat.le_of_ble_eq_true rfl)) md_M_door_17 ⟨Nat.zero_le _, Nat.zero_le _⟩) ?_
      refine lv_if_eq (tgt := 35) hx hb md_M_door_20 (by decide) (fun c8 => ?_) (fun c8 => ?_)
      · refine lv_iconst (v := 1) hx hb md_M_door_35 (by decide) ?_
        refine va_put (D := (dC, dI)) (ci := 5) (v := .int 1) (ty := .int) (C := mR_M) (T := mT_M) (N := 18) hx hb hg gu_M mF_M mO_M mN_M hown hK hP hD hS 0 rfl rfl 0 (by decide) (hg _ wd_532) (fun _ h9 => h9) rfl (by decide +kernel) rfl rfl (Nat.le_of_ble_eq_true rfl) md_M_door_36 (fun H locs hP hD hS => ?_)
        have hP : va_P (dC, dI) mC [(nA, .inr (5, [.int 1, .ref nT, .int vs, .int va, .int vf, .int vr, .ref nO, .ref nU, .ref nV, .long vw, .long vh, .long vt, .long vd, .ref nX, .ref nY, .ref nR, .ref nC, .ref nS])), (nT, .inl (cI, 300, .inl gT)), (nO, .inl (cI, 128, .inl gO)), (nU, .inl (cI, 128, .inl gU)), (nV, .inl (cI, 16, .inl gV)), (nX, .inl (cJ, 16, .inr (.inl gX))), (nY, .inl (cJ, 16, .inr (.inl gY))), (nR, .inl (cJ, 16, .inr (.inl gR))), (nC, .inl (cI, 9, .inl gC)), (nS, .inl (cI, 9, .inl gS))] H := hP
        have hD : va_D A [(nA, .inr (5, [.int 1, .ref nT, .int vs, .int va, .int vf, .int vr, .ref nO, .ref nU, .ref nV, .long vw, .long vh, .long vt, .long vd, .ref nX, .ref nY, .ref nR, .ref nC, .ref nS])), (nT, .inl (cI, 300, .inl gT)), (nO, .inl (cI, 128, .inl gO)), (nU, .inl (cI, 128, .inl gU)), (nV, .inl (cI, 16, .inl gV)), (nX, .inl (cJ, 16, .inr (.inl gX))), (nY, .inl (cJ, 16, .inr (.inl gY))), (nR, .inl (cJ, 16, .inr (.inl gR))), (nC, .inl (cI, 9, .inl gC)), (nS, .inl (cI, 9, .inl gS))] := hD
        refine lv_aload_n hx hb md_M_door_39 rfl (lv_at hl 0 rfl) ?_
        refine va_get (D := (dC, dI)) (ci := 5) (v := .int 1) (C := mR_M) (T := mT_M) (N := 18) hx hb hg gu_M hown hK hP 0 rfl rfl 0 (by decide) (hg _ wd_532) (fun _ h9 => h9) rfl md_M_door_40 ?_
        refine lv_if_gt (tgt := 84) hx hb md_M_door_43 (by decide) (fun _ => ?_) (fun c9 => absurd (by decide) c9)
        refine lv_iconst (v := 0) hx hb md_M_door_84 (by decide) ?_
        exact W.zret (v := 0) hx hb hr rfl (fun t ht hW => ⟨⟨0, (1, vw, vh, vt, vd), rfl, (by rw [fM_door, if_neg c2, if_neg c5, if_pos c8]), by have h9 := hP; rw [← ht] at h9; exact h9⟩, hS.F ht⟩) hS.2.2 md_M_door_85 hlocks
      · refine lv_lload hx hb md_M_door_23 (lv_at hl 4 rfl) ?_
        have hPc10 := hP.sub (ws' := []) [] rfl
        refine pu_i (W.runS (As := [.long de0]) (rest := [.ref nA]) ⟨hx, hb, hml, hown, hg⟩ (ct_M_isSize l dC dI cC cI cJ de0) (gw_cwS hg wd_664 mv_M_isSize rfl rfl ⟨Nat.le_of_ble_eq_true rfl, Nat.le_of_ble_eq_true rfl⟩) (pu_preS pu_blT hK hPc10 pu_e1) rfl rfl hl.1 rfl (lv_room (Nat.le_of_ble_eq_true rfl)) md_M_door_25 ⟨Nat.zero_le _, Nat.zero_le _⟩) ?_
        refine lv_if_eq (tgt := 35) hx hb md_M_door_28 (by decide) (fun c11 => ?_) (fun c11 => ?_)
        · refine lv_iconst (v := 1) hx hb md_M_door_35 (by decide) ?_
          refine va_put (D := (dC, dI)) (ci := 5) (v := .int 1) (ty := .int) (C := mR_M) (T := mT_M) (N := 18) hx hb hg gu_M mF_M mO_M mN_M hown hK hP hD hS 0 rfl rfl 0 (by decide) (hg _ wd_532) (fun _ h9 => h9) rfl (by decide +kernel) rfl rfl (Nat.le_of_ble_eq_true rfl) md_M_door_36 (fun H locs hP hD hS => ?_)
          have hP : va_P (dC, dI) mC [(nA, .inr (5, [.int 1, .ref nT, .int vs, .int va, .int vf, .int vr, .ref nO, .ref nU, .ref nV, .long vw, .long vh, .long vt, .long vd, .ref nX, .ref nY, .ref nR, .ref nC, .ref nS])), (nT, .inl (cI, 300, .inl gT)), (nO, .inl (cI, 128, .inl gO)), (nU, .inl (cI, 128, .inl gU)), (nV, .inl (cI, 16, .inl gV)), (nX, .inl (cJ, 16, .inr (.inl gX))), (nY, .inl (cJ, 16, .inr (.inl gY))), (nR, .inl (cJ, 16, .inr (.inl gR))), (nC, .inl (cI, 9, .inl gC)), (nS, .inl (cI, 9, .inl gS))] H := hP
          have hD : va_D A [(nA, .inr (5, [.int 1, .ref nT, .int vs, .int va, .int vf, .int vr, .ref nO, .ref nU, .ref nV, .long vw, .long vh, .long vt, .long vd, .ref nX, .ref nY, .ref nR, .ref nC, .ref nS])), (nT, .inl (cI, 300, .inl gT)), (nO, .inl (cI, 128, .inl gO)), (nU, .inl (cI, 128, .inl gU)), (nV, .inl (cI, 16, .inl gV)), (nX, .inl (cJ, 16, .inr (.inl gX))), (nY, .inl (cJ, 16, .inr (.inl gY))), (nR, .inl (cJ, 16, .inr (.inl gR))), (nC, .inl (cI, 9, .inl gC)), (nS, .inl (cI, 9, .inl gS))] := hD
          refine lv_aload_n hx hb md_M_door_39 rfl (lv_at hl 0 rfl) ?_
          refine va_get (D := (dC, dI)) (ci := 5) (v := .int 1) (C := mR_M) (T := mT_M) (N := 18) hx hb hg gu_M hown hK hP 0 rfl rfl 0 (by decide) (hg _ wd_532) (fun _ h9 => h9) rfl md_M_door_40 ?_
          refine lv_if_gt (tgt := 84) hx hb md_M_door_43 (by decide) (fun _ => ?_) (fun c12 => absurd (by decide) c12)
          refine lv_iconst (v := 0) hx hb md_M_door_84 (by decide) ?_
          exact W.zret (v := 0) hx hb hr rfl (fun t ht hW => ⟨⟨0, (1, vw, vh, vt, vd), rfl, (by rw [fM_door, if_neg c2, if_neg c5, if_neg c8, if_pos c11]), by have h9 := hP; rw [← ht] at h9; exact h9⟩, hS.F ht⟩) hS.2.2 md_M_door_85 hlocks
        · refine lv_iconst (v := 0) hx hb md_M_door_31 (by decide) ?_
          refine lv_goto (tgt := 36) hx hb md_M_door_32 (by decide) ?_
          refine va_put (D := (dC, dI)) (ci := 5) (v := .int 0) (ty := .int) (C := mR_M) (T := mT_M) (N := 18) hx hb hg gu_M mF_M mO_M mN_M hown hK hP hD hS 0 rfl rfl 0 (by decide) (hg _ wd_532) (fun _ h9 => h9) rfl (by decide +kernel) rfl rfl (Nat.le_of_ble_eq_true rfl) md_M_door_36 (fun H locs hP hD hS => ?_)
          have hP : va_P (dC, dI) mC [(nA, .inr (5, [.int 0, .ref nT, .int vs, .int va, .int vf, .int vr, .ref nO, .ref nU, .ref nV, .long vw, .long vh, .long vt, .long vd, .ref nX, .ref nY, .ref nR, .ref nC, .ref nS])), (nT, .inl (cI, 300, .inl gT)), (nO, .inl (cI, 128, .inl gO)), (nU, .inl (cI, 128, .inl gU)), (nV, .inl (cI, 16, .inl gV)), (nX, .inl (cJ, 16, .inr (.inl gX))), (nY, .inl (cJ, 16, .inr (.inl gY))), (nR, .inl (cJ, 16, .inr (.inl gR))), (nC, .inl (cI, 9, .inl gC)), (nS, .inl (cI, 9, .inl gS))] H := hP
          have hD : va_D A [(nA, .inr (5, [.int 0, .ref nT, .int vs, .int va, .int vf, .int vr, .ref nO, .ref nU, .ref nV, .long vw, .long vh, .long vt, .long vd, .ref nX, .ref nY, .ref nR, .ref nC, .ref nS])), (nT, .inl (cI, 300, .inl gT)), (nO, .inl (cI, 128, .inl gO)), (nU, .inl (cI, 128, .inl gU)), (nV, .inl (cI, 16, .inl gV)), (nX, .inl (cJ, 16, .inr (.inl gX))), (nY, .inl (cJ, 16, .inr (.inl gY))), (nR, .inl (cJ, 16, .inr (.inl gR))), (nC, .inl (cI, 9, .inl gC)), (nS, .inl (cI, 9, .inl gS))] := hD
          refine lv_aload_n hx hb md_M_door_39 rfl (lv_at hl 0 rfl) ?_
          refine va_get (D := (dC, dI)) (ci := 5) (v := .int 0) (C := mR_M) (T := mT_M) (N := 18) hx hb hg gu_M hown hK hP 0 rfl rfl 0 (by decide) (hg _ wd_532) (fun _ h9 => h9) rfl md_M_door_40 ?_
          refine lv_if_gt (tgt := 84) hx hb md_M_door_43 (by decide) (fun c13 => absurd c13 (by decide)) (fun _ => ?_)
          refine lv_lload_n hx hb md_M_door_46 rfl (lv_at hl 1 rfl) ?_
          refine lv_aload_n hx hb md_M_door_47 rfl (lv_at hl 0 rfl) ?_
          refine va_get (D := (dC, dI)) (ci := 5) (v := .long vw) (C := mR_M) (T := mT_M) (N := 18) hx hb hg gu_M hown hK hP 0 rfl rfl 9 (by decide) (hg _ wd_541) (fun _ h9 => h9) rfl md_M_door_48 ?_
          refine lx_ne (tgt := 86) hx hb md_M_door_51 md_M_door_52 (by decide) (fun c14 => ?_) (fun c14 => ?_)
          · refine lv_aload_n hx hb md_M_door_86 rfl (lv_at hl 0 rfl) ?_
            refine lv_lload_n hx hb md_M_door_87 rfl (lv_at hl 1 rfl) ?_
            refine va_put (D := (dC, dI)) (ci := 5) (v := .long w0) (ty := .long) (C := mR_M) (T := mT_M) (N := 18) hx hb hg gu_M mF_M mO_M mN_M hown hK hP hD hS 0 rfl rfl 9 (by decide) (hg _ wd_541) (fun _ h9 => h9) rfl (by decide +kernel) rfl rfl (Nat.le_of_ble_eq_true rfl) md_M_door_88 (fun H locs hP hD hS => ?_)
            have hP : va_P (dC, dI) mC [(nA, .inr (5, [.int 0, .ref nT, .int vs, .int va, .int vf, .int vr, .ref nO, .ref nU, .ref nV, .long w0, .long vh, .long vt, .long vd, .ref nX, .ref nY, .ref nR, .ref nC, .ref nS])), (nT, .inl (cI, 300, .inl gT)), (nO, .inl (cI, 128, .inl gO)), (nU, .inl (cI, 128, .inl gU)), (nV, .inl (cI, 16, .inl gV)), (nX, .inl (cJ, 16, .inr (.inl gX))), (nY, .inl (cJ, 16, .inr (.inl gY))), (nR, .inl (cJ, 16, .inr (.inl gR))), (nC, .inl (cI, 9, .inl gC)), (nS, .inl (cI, 9, .inl gS))] H := hP
            have hD : va_D A [(nA, .inr (5, [.int 0, .ref nT, .int vs, .int va, .int vf, .int vr, .ref nO, .ref nU, .ref nV, .long w0, .long vh, .long vt, .long vd, .ref nX, .ref nY, .ref nR, .ref nC, .ref nS])), (nT, .inl (cI, 300, .inl gT)), (nO, .inl (cI, 128, .inl gO)), (nU, .inl (cI, 128, .inl gU)), (nV, .inl (cI, 16, .inl gV)), (nX, .inl (cJ, 16, .inr (.inl gX))), (nY, .inl (cJ, 16, .inr (.inl gY))), (nR, .inl (cJ, 16, .inr (.inl gR))), (nC, .inl (cI, 9, .inl gC)), (nS, .inl (cI, 9, .inl gS))] := hD
            refine lv_aload_n hx hb md_M_door_91 rfl (lv_at hl 0 rfl) ?_
            refine lv_lload_n hx hb md_M_door_92 rfl (lv_at hl 2 rfl) ?_
            refine va_put (D := (dC, dI)) (ci := 5) (v := .long h0) (ty := .long) (C := mR_M) (T := mT_M) (N := 18) hx hb hg gu_M mF_M mO_M mN_M hown hK hP hD hS 0 rfl rfl 10 (by decide) (hg _ wd_542) (fun _ h9 => h9) rfl (by decide +kernel) rfl rfl (Nat.le_of_ble_eq_true rfl) md_M_door_93 (fun H locs hP hD hS => ?_)
            have hP : va_P (dC, dI) mC [(nA, .inr (5, [.int 0, .ref nT, .int vs, .int va, .int vf, .int vr, .ref nO, .ref nU, .ref nV, .long w0, .long h0, .long vt, .long vd, .ref nX, .ref nY, .ref nR, .ref nC, .ref nS])), (nT, .inl (cI, 300, .inl gT)), (nO, .inl (cI, 128, .inl gO)), (nU, .inl (cI, 128, .inl gU)), (nV, .inl (cI, 16, .inl gV)), (nX, .inl (cJ, 16, .inr (.inl gX))), (nY, .inl (cJ, 16, .inr (.inl gY))), (nR, .inl (cJ, 16, .inr (.inl gR))), (nC, .inl (cI, 9, .inl gC)), (nS, .inl (cI, 9, .inl gS))] H := hP
            have hD : va_D A [(nA, .inr (5, [.int 0, .ref nT, .int vs, .int va, .int vf, .int vr, .ref nO, .ref nU, .ref nV, .long w0, .long h0, .long vt, .long vd, .ref nX, .ref nY, .ref nR, .ref nC, .ref nS])), (nT, .inl (cI, 300, .inl gT)), (nO, .inl (cI, 128, .inl gO)), (nU, .inl (cI, 128, .inl gU)), (nV, .inl (cI, 16, .inl gV)), (nX, .inl (cJ, 16, .inr (.inl gX))), (nY, .inl (cJ, 16, .inr (.inl gY))), (nR, .inl (cJ, 16, .inr (.inl gR))), (nC, .inl (cI, 9, .inl gC)), (nS, .inl (cI, 9, .inl gS))] := hD
            refine lv_aload_n hx hb md_M_door_96 rfl (lv_at hl 0 rfl) ?_
            refine lv_lload hx hb md_M_door_97 (lv_at hl 3 rfl) ?_
            refine va_put (D := (dC, dI)) (ci := 5) (v := .long th0) (ty := .long) (C := mR_M) (T := mT_M) (N := 18) hx hb hg gu_M mF_M mO_M mN_M hown hK hP hD hS 0 rfl rfl 11 (by decide) (hg _ wd_543) (fun _ h9 => h9) rfl (by decide +kernel) rfl rfl (Nat.le_of_ble_eq_true rfl) md_M_door_99 (fun H locs hP hD hS => ?_)
            have hP : va_P (dC, dI) mC [(nA, .inr (5, [.int 0, .ref nT, .int vs, .int va, .int vf, .int vr, .ref nO, .ref nU, .ref nV, .long w0, .long h0, .long th0, .long vd, .ref nX, .ref nY, .ref nR, .ref nC, .ref nS])), (nT, .inl (cI, 300, .inl gT)), (nO, .inl (cI, 128, .inl gO)), (nU, .inl (cI, 128, .inl gU)), (nV, .inl (cI, 16, .inl gV)), (nX, .inl (cJ, 16, .inr (.inl gX))), (nY, .inl (cJ, 16, .inr (.inl gY))), (nR, .inl (cJ, 16, .inr (.inl gR))), (nC, .inl (cI, 9, .inl gC)), (nS, .inl (cI, 9, .inl gS))] H := hP
            have hD : va_D A [(nA, .inr (5, [.int 0, .ref nT, .int vs, .int va, .int vf, .int vr, .ref nO, .ref nU, .ref nV, .long w0, .long h0, .long th0, .long vd, .ref nX, .ref nY, .ref nR, .ref nC, .ref nS])), (nT, .inl (cI, 300, .inl gT)), (nO, .inl (cI, 128, .inl gO)), (nU, .inl (cI, 128, .inl gU)), (nV, .inl (cI, 16, .inl gV)), (nX, .inl (cJ, 16, .inr (.inl gX))), (nY, .inl (cJ, 16, .inr (.inl gY))), (nR, .inl (cJ, 16, .inr (.inl gR))), (nC, .inl (cI, 9, .inl gC)), (nS, .inl (cI, 9, .inl gS))] := hD
            refine lv_aload_n hx hb md_M_door_102 rfl (lv_at hl 0 rfl) ?_
            refine lv_lload hx hb md_M_door_103 (lv_at hl 4 rfl) ?_
            refine va_put (D := (dC, dI)) (ci := 5) (v := .long de0) (ty := .long) (C := mR_M) (T := mT_M) (N := 18) hx hb hg gu_M mF_M mO_M mN_M hown hK hP hD hS 0 rfl rfl 12 (by decide) (hg _ wd_544) (fun _ h9 => h9) rfl (by decide +kernel) rfl rfl (Nat.le_of_ble_eq_true rfl) md_M_door_105 (fun H locs hP hD hS => ?_)
            have hP : va_P (dC, dI) mC [(nA, .inr (5, [.int 0, .ref nT, .int vs, .int va, .int vf, .int vr, .ref nO, .ref nU, .ref nV, .long w0, .long h0, .long th0, .long de0, .ref nX, .ref nY, .ref nR, .ref nC, .ref nS])), (nT, .inl (cI, 300, .inl gT)), (nO, .inl (cI, 128, .inl gO)), (nU, .inl (cI, 128, .inl gU)), (nV, .inl (cI, 16, .inl gV)), (nX, .inl (cJ, 16, .inr (.inl gX))), (nY, .inl (cJ, 16, .inr (.inl gY))), (nR, .inl (cJ, 16, .inr (.inl gR))), (nC, .inl (cI, 9, .inl gC)), (nS, .inl (cI, 9, .inl gS))] H := hP
            have hD : va_D A [(nA, .inr (5, [.int 0, .ref nT, .int vs, .int va, .int vf, .int vr, .ref nO, .ref nU, .ref nV, .long w0, .long h0, .long th0, .long de0, .ref nX, .ref nY, .ref nR, .ref nC, .ref nS])), (nT, .inl (cI, 300, .inl gT)), (nO, .inl (cI, 128, .inl gO)), (nU, .inl (cI, 128, .inl gU)), (nV, .inl (cI, 16, .inl gV)), (nX, .inl (cJ, 16, .inr (.inl gX))), (nY, .inl (cJ, 16, .inr (.inl gY))), (nR, .inl (cJ, 16, .inr (.inl gR))), (nC, .inl (cI, 9, .inl gC)), (nS, .inl (cI, 9, .inl gS))] := hD
            refine lv_iconst (v := 1) hx hb md_M_door_108 (by decide) ?_
            exact W.zret (v := 1) hx hb hr rfl (fun t ht hW => ⟨⟨1, (0, w0, h0, th0, de0), rfl, (by rw [fM_door, if_neg c2, if_neg c5, if_neg c8, if_neg c11, if_neg c14]), by have h9 := hP; rw [← ht] at h9; exact h9⟩, hS.F ht⟩) hS.2.2 md_M_door_109 hlocks
          · refine lv_lload_n hx hb md_M_door_55 rfl (lv_at hl 2 rfl) ?_
            refine lv_aload_n hx hb md_M_door_56 rfl (lv_at hl 0 rfl) ?_
            refine va_get (D := (dC, dI)) (ci := 5) (v := .long vh) (C := mR_M) (T := mT_M) (N := 18) hx hb hg gu_M hown hK hP 0 rfl rfl 10 (by decide) (hg _ wd_542) (fun _ h9 => h9) rfl md_M_door_57 ?_
            refine lx_ne (tgt := 86) hx hb md_M_door_60 md_M_door_61 (by decide) (fun c15 => ?_) (fun c15 => ?_)
            · refine lv_aload_n hx hb md_M_door_86 rfl (lv_at hl 0 rfl) ?_
              refine lv_lload_n hx hb md_M_door_87 rfl (lv_at hl 1 rfl) ?_
              refine va_put (D := (dC, dI)) (ci := 5) (v := .long w0) (ty := .long) (C := mR_M) (T := mT_M) (N := 18) hx hb hg gu_M mF_M mO_M mN_M hown hK hP hD hS 0 rfl rfl 9 (by decide) (hg _ wd_541) (fun _ h9 => h9) rfl (by decide +kernel) rfl rfl (Nat.le_of_ble_eq_true rfl) md_M_door_88 (fun H locs hP hD hS => ?_)
              have hP : va_P (dC, dI) mC [(nA, .inr (5, [.int 0, .ref nT, .int vs, .int va, .int vf, .int vr, .ref nO, .ref nU, .ref nV, .long w0, .long vh, .long vt, .long vd, .ref nX, .ref nY, .ref nR, .ref nC, .ref nS])), (nT, .inl (cI, 300, .inl gT)), (nO, .inl (cI, 128, .inl gO)), (nU, .inl (cI, 128, .inl gU)), (nV, .inl (cI, 16, .inl gV)), (nX, .inl (cJ, 16, .inr (.inl gX))), (nY, .inl (cJ, 16, .inr (.inl gY))), (nR, .inl (cJ, 16, .inr (.inl gR))), (nC, .inl (cI, 9, .inl gC)), (nS, .inl (cI, 9, .inl gS))] H := hP
              have hD : va_D A [(nA, .inr (5, [.int 0, .ref nT, .int vs, .int va, .int vf, .int vr, .ref nO, .ref nU, .ref nV, .long w0, .long vh, .long vt, .long vd, .ref nX, .ref nY, .ref nR, .ref nC, .ref nS])), (nT, .inl (cI, 300, .inl gT)), (nO, .inl (cI, 128, .inl gO)), (nU, .inl (cI, 128, .inl gU)), (nV, .inl (cI, 16, .inl gV)), (nX, .inl (cJ, 16, .inr (.inl gX))), (nY, .inl (cJ, 16, .inr (.inl gY))), (nR, .inl (cJ, 16, .inr (.inl gR))), (nC, .inl (cI, 9, .inl gC)), (nS, .inl (cI, 9, .inl gS))] := hD
              refine lv_aload_n hx hb md_M_door_91 rfl (lv_at hl 0 rfl) ?_
              refine lv_lload_n hx hb md_M_door_92 rfl (lv_at hl 2 rfl) ?_
              refine va_put (D := (dC, dI)) (ci := 5) (v := .long h0) (ty := .long) (C := mR_M) (T := mT_M) (N := 18) hx hb hg gu_M mF_M mO_M mN_M hown hK hP hD hS 0 rfl rfl 10 (by decide) (hg _ wd_542) (fun _ h9 => h9) rfl (by decide +kernel) rfl rfl (Nat.le_of_ble_eq_true rfl) md_M_door_93 (fun H locs hP hD hS => ?_)
              have hP : va_P (dC, dI) mC [(nA, .inr (5, [.int 0, .ref nT, .int vs, .int va, .int vf, .int vr, .ref nO, .ref nU, .ref nV, .long w0, .long h0, .long vt, .long vd, .ref nX, .ref nY, .ref nR, .ref nC, .ref nS])), (nT, .inl (cI, 300, .inl gT)), (nO, .inl (cI, 128, .inl gO)), (nU, .inl (cI, 128, .inl gU)), (nV, .inl (cI, 16, .inl gV)), (nX, .inl (cJ, 16, .inr (.inl gX))), (nY, .inl (cJ, 16, .inr (.inl gY))), (nR, .inl (cJ, 16, .inr (.inl gR))), (nC, .inl (cI, 9, .inl gC)), (nS, .inl (cI, 9, .inl gS))] H := hP
              have hD : va_D A [(nA, .inr (5, [.int 0, .ref nT, .int vs, .int va, .int vf, .int vr, .ref nO, .ref nU, .ref nV, .long w0, .long h0, .long vt, .long vd, .ref nX, .ref nY, .ref nR, .ref nC, .ref nS])), (nT, .inl (cI, 300, .inl gT)), (nO, .inl (cI, 128, .inl gO)), (nU, .inl (cI, 128, .inl gU)), (nV, .inl (cI, 16, .inl gV)), (nX, .inl (cJ, 16, .inr (.inl gX))), (nY, .inl (cJ, 16, .inr (.inl gY))), (nR, .inl (cJ, 16, .inr (.inl gR))), (nC, .inl (cI, 9, .inl gC)), (nS, .inl (cI, 9, .inl gS))] := hD
              refine lv_aload_n hx hb md_M_door_96 rfl (lv_at hl 0 rfl) ?_
              refine lv_lload hx hb md_M_door_97 (lv_at hl 3 rfl) ?_
              refine va_put (D := (dC, dI)) (ci := 5) (v := .long th0) (ty := .long) (C := mR_M) (T := mT_M) (N := 18) hx hb hg gu_M mF_M mO_M mN_M hown hK hP hD hS 0 rfl rfl 11 (by decide) (hg _ wd_543) (fun _ h9 => h9) rfl (by decide +kernel) rfl rfl (Nat.le_of_ble_eq_true rfl) md_M_door_99 (fun H locs hP hD hS => ?_)
              have hP : va_P (dC, dI) mC [(nA, .inr (5, [.int 0, .ref nT, .int vs, .int va, .int vf, .int vr, .ref nO, .ref nU, .ref nV, .long w0, .long h0, .long th0, .long vd, .ref nX, .ref nY, .ref nR, .ref nC, .ref nS])), (nT, .inl (cI, 300, .inl gT)), (nO, .inl (cI, 128, .inl gO)), (nU, .inl (cI, 128, .inl gU)), (nV, .inl (cI, 16, .inl gV)), (nX, .inl (cJ, 16, .inr (.inl gX))), (nY, .inl (cJ, 16, .inr (.inl gY))), (nR, .inl (cJ, 16, .inr (.inl gR))), (nC, .inl (cI, 9, .inl gC)), (nS, .inl (cI, 9, .inl gS))] H := hP
              have hD : va_D A [(nA, .inr (5, [.int 0, .ref nT, .int vs, .int va, .int vf, .int vr, .ref nO, .ref nU, .ref nV, .long w0, .long h0, .long th0, .long vd, .ref nX, .ref nY, .ref nR, .ref nC, .ref nS])), (nT, .inl (cI, 300, .inl gT)), (nO, .inl (cI, 128, .inl gO)), (nU, .inl (cI, 128, .inl gU)), (nV, .inl (cI, 16, .inl gV)), (nX, .inl (cJ, 16, .inr (.inl gX))), (nY, .inl (cJ, 16, .inr (.inl gY))), (nR, .inl (cJ, 16, .inr (.inl gR))), (nC, .inl (cI, 9, .inl gC)), (nS, .inl (cI, 9, .inl gS))] := hD
              refine lv_aload_n hx hb md_M_door_102 rfl (lv_at hl 0 rfl) ?_
              refine lv_lload hx hb md_M_door_103 (lv_at hl 4 rfl) ?_
              refine va_put (D := (dC, dI)) (ci := 5) (v := .long de0) (ty := .long) (C := mR_M) (T := mT_M) (N := 18) hx hb hg gu_M mF_M mO_M mN_M hown hK hP hD hS 0 rfl rfl 12 (by decide) (hg _ wd_544) (fun _ h9 => h9) rfl (by decide +kernel) rfl rfl (Nat.le_of_ble_eq_true rfl) md_M_door_105 (fun H locs hP hD hS => ?_)
              have hP : va_P (dC, dI) mC [(nA, .inr (5, [.int 0, .ref nT, .int vs, .int va, .int vf, .int vr, .ref nO, .ref nU, .ref nV, .long w0, .long h0, .long th0, .long de0, .ref nX, .ref nY, .ref nR, .ref nC, .ref nS])), (nT, .inl (cI, 300, .inl gT)), (nO, .inl (cI, 128, .inl gO)), (nU, .inl (cI, 128, .inl gU)), (nV, .inl (cI, 16, .inl gV)), (nX, .inl (cJ, 16, .inr (.inl gX))), (nY, .inl (cJ, 16, .inr (.inl gY))), (nR, .inl (cJ, 16, .inr (.inl gR))), (nC, .inl (cI, 9, .inl gC)), (nS, .inl (cI, 9, .inl gS))] H := hP
              have hD : va_D A [(nA, .inr (5, [.int 0, .ref nT, .int vs, .int va, .int vf, .int vr, .ref nO, .ref nU, .ref nV, .long w0, .long h0, .long th0, .long de0, .ref nX, .ref nY, .ref nR, .ref nC, .ref nS])), (nT, .inl (cI, 300, .inl gT)), (nO, .inl (cI, 128, .inl gO)), (nU, .inl (cI, 128, .inl gU)), (nV, .inl (cI, 16, .inl gV)), (nX, .inl (cJ, 16, .inr (.inl gX))), (nY, .inl (cJ, 16, .inr (.inl gY))), (nR, .inl (cJ, 16, .inr (.inl gR))), (nC, .inl (cI, 9, .inl gC)), (nS, .inl (cI, 9, .inl gS))] := hD
              refine lv_iconst (v := 1) hx hb md_M_door_108 (by decide) ?_
              exact W.zret (v := 1) hx hb hr rfl (fun t ht hW => ⟨⟨1, (0, w0, h0, th0, de0), rfl, (by rw [fM_door, if_neg c2, if_neg c5, if_neg c8, if_neg c11, if_pos c14, if_neg c15]), by have h9 := hP; rw [← ht] at h9; exact h9⟩, hS.F ht⟩) hS.2.2 md_M_door_109 hlocks
            · refine lv_lload hx hb md_M_door_64 (lv_at hl 3 rfl) ?_
              refine lv_aload_n hx hb md_M_door_66 rfl (lv_at hl 0 rfl) ?_
              refine va_get (D := (dC, dI)) (ci := 5) (v := .long vt) (C := mR_M) (T := mT_M) (N := 18) hx hb hg gu_M hown hK hP 0 rfl rfl 11 (by decide) (hg _ wd_543) (fun _ h9 => h9) rfl md_M_door_67 ?_
              refine lx_ne (tgt := 86) hx hb md_M_door_70 md_M_door_71 (by decide) (fun c16 => ?_) (fun c16 => ?_)
              · refine lv_aload_n hx hb md_M_door_86 rfl (lv_at hl 0 rfl) ?_
                refine lv_lload_n hx hb md_M_door_87 rfl (lv_at hl 1 rfl) ?_
                refine va_put (D := (dC, dI)) (ci := 5) (v := .long w0) (ty := .long) (C := mR_M) (T := mT_M) (N := 18) hx hb hg gu_M mF_M mO_M mN_M hown hK hP hD hS 0 rfl rfl 9 (by decide) (hg _ wd_541) (fun _ h9 => h9) rfl (by decide +kernel) rfl rfl (Nat.le_of_ble_eq_true rfl) md_M_door_88 (fun H locs hP hD hS => ?_)
                have hP : va_P (dC, dI) mC [(nA, .inr (5, [.int 0, .ref nT, .int vs, .int va, .int vf, .int vr, .ref nO, .ref nU, .ref nV, .long w0, .long vh, .long vt, .long vd, .ref nX, .ref nY, .ref nR, .ref nC, .ref nS])), (nT, .inl (cI, 300, .inl gT)), (nO, .inl (cI, 128, .inl gO)), (nU, .inl (cI, 128, .inl gU)), (nV, .inl (cI, 16, .inl gV)), (nX, .inl (cJ, 16, .inr (.inl gX))), (nY, .inl (cJ, 16, .inr (.inl gY))), (nR, .inl (cJ, 16, .inr (.inl gR))), (nC, .inl (cI, 9, .inl gC)), (nS, .inl (cI, 9, .inl gS))] H := hP
                have hD : va_D A [(nA, .inr (5, [.int 0, .ref nT, .int vs, .int va, .int vf, .int vr, .ref nO, .ref nU, .ref nV, .long w0, .long vh, .long vt, .long vd, .ref nX, .ref nY, .ref nR, .ref nC, .ref nS])), (nT, .inl (cI, 300, .inl gT)), (nO, .inl (cI, 128, .inl gO)), (nU, .inl (cI, 128, .inl gU)), (nV, .inl (cI, 16, .inl gV)), (nX, .inl (cJ, 16, .inr (.inl gX))), (nY, .inl (cJ, 16, .inr (.inl gY))), (nR, .inl (cJ, 16, .inr (.inl gR))), (nC, .inl (cI, 9, .inl gC)), (nS, .inl (cI, 9, .inl gS))] := hD
                refine lv_aload_n hx hb md_M_door_91 rfl (lv_at hl 0 rfl) ?_
                refine lv_lload_n hx hb md_M_door_92 rfl (lv_at hl 2 rfl) ?_
                refine va_put (D := (dC, dI)) (ci := 5) (v := .long h0) (ty := .long) (C := mR_M) (T := mT_M) (N := 18) hx hb hg gu_M mF_M mO_M mN_M hown hK hP hD hS 0 rfl rfl 10 (by decide) (hg _ wd_542) (fun _ h9 => h9) rfl (by decide +kernel) rfl rfl (Nat.le_of_ble_eq_true rfl) md_M_door_93 (fun H locs hP hD hS => ?_)
                have hP : va_P (dC, dI) mC [(nA, .inr (5, [.int 0, .ref nT, .int vs, .int va, .int vf, .int vr, .ref nO, .ref nU, .ref nV, .long w0, .long h0, .long vt, .long vd, .ref nX, .ref nY, .ref nR, .ref nC, .ref nS])), (nT, .inl (cI, 300, .inl gT)), (nO, .inl (cI, 128, .inl gO)), (nU, .inl (cI, 128, .inl gU)), (nV, .inl (cI, 16, .inl gV)), (nX, .inl (cJ, 16, .inr (.inl gX))), (nY, .inl (cJ, 16, .inr (.inl gY))), (nR, .inl (cJ, 16, .inr (.inl gR))), (nC, .inl (cI, 9, .inl gC)), (nS, .inl (cI, 9, .inl gS))] H := hP
                have hD : va_D A [(nA, .inr (5, [.int 0, .ref nT, .int vs, .int va, .int vf, .int vr, .ref nO, .ref nU, .ref nV, .long w0, .long h0, .long vt, .long vd, .ref nX, .ref nY, .ref nR, .ref nC, .ref nS])), (nT, .inl (cI, 300, .inl gT)), (nO, .inl (cI, 128, .inl gO)), (nU, .inl (cI, 128, .inl gU)), (nV, .inl (cI, 16, .inl gV)), (nX, .inl (cJ, 16, .inr (.inl gX))), (nY, .inl (cJ, 16, .inr (.inl gY))), (nR, .inl (cJ, 16, .inr (.inl gR))), (nC, .inl (cI, 9, .inl gC)), (nS, .inl (cI, 9, .inl gS))] := hD
                refine lv_aload_n hx hb md_M_door_96 rfl (lv_at hl 0 rfl) ?_
                refine lv_lload hx hb md_M_door_97 (lv_at hl 3 rfl) ?_
                refine va_put (D := (dC, dI)) (ci := 5) (v := .long th0) (ty := .long) (C := mR_M) (T := mT_M) (N := 18) hx hb hg gu_M mF_M mO_M mN_M hown hK hP hD hS 0 rfl rfl 11 (by decide) (hg _ wd_543) (fun _ h9 => h9) rfl (by decide +kernel) rfl rfl (Nat.le_of_ble_eq_true rfl) md_M_door_99 (fun H locs hP hD hS => ?_)
                have hP : va_P (dC, dI) mC [(nA, .inr (5, [.int 0, .ref nT, .int vs, .int va, .int vf, .int vr, .ref nO, .ref nU, .ref nV, .long w0, .long h0, .long th0, .long vd, .ref nX, .ref nY, .ref nR, .ref nC, .ref nS])), (nT, .inl (cI, 300, .inl gT)), (nO, .inl (cI, 128, .inl gO)), (nU, .inl (cI, 128, .inl gU)), (nV, .inl (cI, 16, .inl gV)), (nX, .inl (cJ, 16, .inr (.inl gX))), (nY, .inl (cJ, 16, .inr (.inl gY))), (nR, .inl (cJ, 16, .inr (.inl gR))), (nC, .inl (cI, 9, .inl gC)), (nS, .inl (cI, 9, .inl gS))] H := hP
                have hD : va_D A [(nA, .inr (5, [.int 0, .ref nT, .int vs, .int va, .int vf, .int vr, .ref nO, .ref nU, .ref nV, .long w0, .long h0, .long th0, .long vd, .ref nX, .ref nY, .ref nR, .ref nC, .ref nS])), (nT, .inl (cI, 300, .inl gT)), (nO, .inl (cI, 128, .inl gO)), (nU, .inl (cI, 128, .inl gU)), (nV, .inl (cI, 16, .inl gV)), (nX, .inl (cJ, 16, .inr (.inl gX))), (nY, .inl (cJ, 16, .inr (.inl gY))), (nR, .inl (cJ, 16, .inr (.inl gR))), (nC, .inl (cI, 9, .inl gC)), (nS, .inl (cI, 9, .inl gS))] := hD
                refine lv_aload_n hx hb md_M_door_102 rfl (lv_at hl 0 rfl) ?_
                refine lv_lload hx hb md_M_door_103 (lv_at hl 4 rfl) ?_
                refine va_put (D := (dC, dI)) (ci := 5) (v := .long de0) (ty := .long) (C := mR_M) (T := mT_M) (N := 18) hx hb hg gu_M mF_M mO_M mN_M hown hK hP hD hS 0 rfl rfl 12 (by decide) (hg _ wd_544) (fun _ h9 => h9) rfl (by decide +kernel) rfl rfl (Nat.le_of_ble_eq_true rfl) md_M_door_105 (fun H locs hP hD hS => ?_)
                have hP : va_P (dC, dI) mC [(nA, .inr (5, [.int 0, .ref nT, .int vs, .int va, .int vf, .int vr, .ref nO, .ref nU, .ref nV, .long w0, .long h0, .long th0, .long de0, .ref nX, .ref nY, .ref nR, .ref nC, .ref nS])), (nT, .inl (cI, 300, .inl gT)), (nO, .inl (cI, 128, .inl gO)), (nU, .inl (cI, 128, .inl gU)), (nV, .inl (cI, 16, .inl gV)), (nX, .inl (cJ, 16, .inr (.inl gX))), (nY, .inl (cJ, 16, .inr (.inl gY))), (nR, .inl (cJ, 16, .inr (.inl gR))), (nC, .inl (cI, 9, .inl gC)), (nS, .inl (cI, 9, .inl gS))] H := hP
                have hD : va_D A [(nA, .inr (5, [.int 0, .ref nT, .int vs, .int va, .int vf, .int vr, .ref nO, .ref nU, .ref nV, .long w0, .long h0, .long th0, .long de0, .ref nX, .ref nY, .ref nR, .ref nC, .ref nS])), (nT, .inl (cI, 300, .inl gT)), (nO, .inl (cI, 128, .inl gO)), (nU, .inl (cI, 128, .inl gU)), (nV, .inl (cI, 16, .inl gV)), (nX, .inl (cJ, 16, .inr (.inl gX))), (nY, .inl (cJ, 16, .inr (.inl gY))), (nR, .inl (cJ, 16, .inr (.inl gR))), (nC, .inl (cI, 9, .inl gC)), (nS, .inl (cI, 9, .inl gS))] := hD
                refine lv_iconst (v := 1) hx hb md_M_door_108 (by decide) ?_
                exact W.zret (v := 1) hx hb hr rfl (fun t ht hW => ⟨⟨1, (0, w0, h0, th0, de0), rfl, (by rw [fM_door, if_neg c2, if_neg c5, if_neg c8, if_neg c11, if_pos c14, if_pos c15, if_neg c16]), by have h9 := hP; rw [← ht] at h9; exact h9⟩, hS.F ht⟩) hS.2.2 md_M_door_109 hlocks
              · refine lv_lload hx hb md_M_door_74 (lv_at hl 4 rfl) ?_
                refine lv_aload_n hx hb md_M_door_76 rfl (lv_at hl 0 rfl) ?_
                refine va_get (D := (dC, dI)) (ci := 5) (v := .long vd) (C := mR_M) (T := mT_M) (N := 18) hx hb hg gu_M hown hK hP 0 rfl rfl 12 (by decide) (hg _ wd_544) (fun _ h9 => h9) rfl md_M_door_77 ?_
                refine lx_ne (tgt := 86) hx hb md_M_door_80 md_M_door_81 (by decide) (fun c17 => ?_) (fun c17 => ?_)
                · refine lv_aload_n hx hb md_M_door_86 rfl (lv_at hl 0 rfl) ?_
                  refine lv_lload_n hx hb md_M_door_87 rfl (lv_at hl 1 rfl) ?_
                  refine va_put (D := (dC, dI)) (ci := 5) (v := .long w0) (ty := .long) (C := mR_M) (T := mT_M) (N := 18) hx hb hg gu_M mF_M mO_M mN_M hown hK hP hD hS 0 rfl rfl 9 (by decide) (hg _ wd_541) (fun _ h9 => h9) rfl (by decide +kernel) rfl rfl (Nat.le_of_ble_eq_true rfl) md_M_door_88 (fun H locs hP hD hS => ?_)
                  have hP : va_P (dC, dI) mC [(nA, .inr (5, [.int 0, .ref nT, .int vs, .int va, .int vf, .int vr, .ref nO, .ref nU, .ref nV, .long w0, .long vh, .long vt, .long vd, .ref nX, .ref nY, .ref nR, .ref nC, .ref nS])), (nT, .inl (cI, 300, .inl gT)), (nO, .inl (cI, 128, .inl gO)), (nU, .inl (cI, 128, .inl gU)), (nV, .inl (cI, 16, .inl gV)), (nX, .inl (cJ, 16, .inr (.inl gX))), (nY, .inl (cJ, 16, .inr (.inl gY))), (nR, .inl (cJ, 16, .inr (.inl gR))), (nC, .inl (cI, 9, .inl gC)), (nS, .inl (cI, 9, .inl gS))] H := hP
                  have hD : va_D A [(nA, .inr (5, [.int 0, .ref nT, .int vs, .int va, .int vf, .int vr, .ref nO, .ref nU, .ref nV, .long w0, .long vh, .long vt, .long vd, .ref nX, .ref nY, .ref nR, .ref nC, .ref nS])), (nT, .inl (cI, 300, .inl gT)), (nO, .inl (cI, 128, .inl gO)), (nU, .inl (cI, 128, .inl gU)), (nV, .inl (cI, 16, .inl gV)), (nX, .inl (cJ, 16, .inr (.inl gX))), (nY, .inl (cJ, 16, .inr (.inl gY))), (nR, .inl (cJ, 16, .inr (.inl gR))), (nC, .inl (cI, 9, .inl gC)), (nS, .inl (cI, 9, .inl gS))] := hD
                  refine lv_aload_n hx hb md_M_door_91 rfl (lv_at hl 0 rfl) ?_
                  refine lv_lload_n hx hb md_M_door_92 rfl (lv_at hl 2 rfl) ?_
                  refine va_put (D := (dC, dI)) (ci := 5) (v := .long h0) (ty := .long) (C := mR_M) (T := mT_M) (N := 18) hx hb hg gu_M mF_M mO_M mN_M hown hK hP hD hS 0 rfl rfl 10 (by decide) (hg _ wd_542) (fun _ h9 => h9) rfl (by decide +kernel) rfl rfl (Nat.le_of_ble_eq_true rfl) md_M_door_93 (fun H locs hP hD hS => ?_)
                  have hP : va_P (dC, dI) mC [(nA, .inr (5, [.int 0, .ref nT, .int vs, .int va, .int vf, .int vr, .ref nO, .ref nU, .ref nV, .long w0, .long h0, .long vt, .long vd, .ref nX, .ref nY, .ref nR, .ref nC, .ref nS])), (nT, .inl (cI, 300, .inl gT)), (nO, .inl (cI, 128, .inl gO)), (nU, .inl (cI, 128, .inl gU)), (nV, .inl (cI, 16, .inl gV)), (nX, .inl (cJ, 16, .inr (.inl gX))), (nY, .inl (cJ, 16, .inr (.inl gY))), (nR, .inl (cJ, 16, .inr (.inl gR))), (nC, .inl (cI, 9, .inl gC)), (nS, .inl (cI, 9, .inl gS))] H := hP
                  have hD : va_D A [(nA, .inr (5, [.int 0, .ref nT, .int vs, .int va, .int vf, .int vr, .ref nO, .ref nU, .ref nV, .long w0, .long h0, .long vt, .long vd, .ref nX, .ref nY, .ref nR, .ref nC, .ref nS])), (nT, .inl (cI, 300, .inl gT)), (nO, .inl (cI, 128, .inl gO)), (nU, .inl (cI, 128, .inl gU)), (nV, .inl (cI, 16, .inl gV)), (nX, .inl (cJ, 16, .inr (.inl gX))), (nY, .inl (cJ, 16, .inr (.inl gY))), (nR, .inl (cJ, 16, .inr (.inl gR))), (nC, .inl (cI, 9, .inl gC)), (nS, .inl (cI, 9, .inl gS))] := hD
                  refine lv_aload_n hx hb md_M_door_96 rfl (lv_at hl 0 rfl) ?_
                  refine lv_lload hx hb md_M_door_97 (lv_at hl 3 rfl) ?_
                  refine va_put (D := (dC, dI)) (ci := 5) (v := .long th0) (ty := .long) (C := mR_M) (T := mT_M) (N := 18) hx hb hg gu_M mF_M mO_M mN_M hown hK hP hD hS 0 rfl rfl 11 (by decide) (hg _ wd_543) (fun _ h9 => h9) rfl (by decide +kernel) rfl rfl (Nat.le_of_ble_eq_true rfl) md_M_door_99 (fun H locs hP hD hS => ?_)
                  have hP : va_P (dC, dI) mC [(nA, .inr (5, [.int 0, .ref nT, .int vs, .int va, .int vf, .int vr, .ref nO, .ref nU, .ref nV, .long w0, .long h0, .long th0, .long vd, .ref nX, .ref nY, .ref nR, .ref nC, .ref nS])), (nT, .inl (cI, 300, .inl gT)), (nO, .inl (cI, 128, .inl gO)), (nU, .inl (cI, 128, .inl gU)), (nV, .inl (cI, 16, .inl gV)), (nX, .inl (cJ, 16, .inr (.inl gX))), (nY, .inl (cJ, 16, .inr (.inl gY))), (nR, .inl (cJ, 16, .inr (.inl gR))), (nC, .inl (cI, 9, .inl gC)), (nS, .inl (cI, 9, .inl gS))] H := hP
                  have hD : va_D A [(nA, .inr (5, [.int 0, .ref nT, .int vs, .int va, .int vf, .int vr, .ref nO, .ref nU, .ref nV, .long w0, .long h0, .long th0, .long vd, .ref nX, .ref nY, .ref nR, .ref nC, .ref nS])), (nT, .inl (cI, 300, .inl gT)), (nO, .inl (cI, 128, .inl gO)), (nU, .inl (cI, 128, .inl gU)), (nV, .inl (cI, 16, .inl gV)), (nX, .inl (cJ, 16, .inr (.inl gX))), (nY, .inl (cJ, 16, .inr (.inl gY))), (nR, .inl (cJ, 16, .inr (.inl gR))), (nC, .inl (cI, 9, .inl gC)), (nS, .inl (cI, 9, .inl gS))] := hD
                  refine lv_aload_n hx hb md_M_door_102 rfl (lv_at hl 0 rfl) ?_
                  refine lv_lload hx hb md_M_door_103 (lv_at hl 4 rfl) ?_
                  refine va_put (D := (dC, dI)) (ci := 5) (v := .long de0) (ty := .long) (C := mR_M) (T := mT_M) (N := 18) hx hb hg gu_M mF_M mO_M mN_M hown hK hP hD hS 0 rfl rfl 12 (by decide) (hg _ wd_544) (fun _ h9 => h9) rfl (by decide +kernel) rfl rfl (Nat.le_of_ble_eq_true rfl) md_M_door_105 (fun H locs hP hD hS => ?_)
                  have hP : va_P (dC, dI) mC [(nA, .inr (5, [.int 0, .ref nT, .int vs, .int va, .int vf, .int vr, .ref nO, .ref nU, .ref nV, .long w0, .long h0, .long th0, .long de0, .ref nX, .ref nY, .ref nR, .ref nC, .ref nS])), (nT, .inl (cI, 300, .inl gT)), (nO, .inl (cI, 128, .inl gO)), (nU, .inl (cI, 128, .inl gU)), (nV, .inl (cI, 16, .inl gV)), (nX, .inl (cJ, 16, .inr (.inl gX))), (nY, .inl (cJ, 16, .inr (.inl gY))), (nR, .inl (cJ, 16, .inr (.inl gR))), (nC, .inl (cI, 9, .inl gC)), (nS, .inl (cI, 9, .inl gS))] H := hP
                  have hD : va_D A [(nA, .inr (5, [.int 0, .ref nT, .int vs, .int va, .int vf, .int vr, .ref nO, .ref nU, .ref nV, .long w0, .long h0, .long th0, .long de0, .ref nX, .ref nY, .ref nR, .ref nC, .ref nS])), (nT, .inl (cI, 300, .inl gT)), (nO, .inl (cI, 128, .inl gO)), (nU, .inl (cI, 128, .inl gU)), (nV, .inl (cI, 16, .inl gV)), (nX, .inl (cJ, 16, .inr (.inl gX))), (nY, .inl (cJ, 16, .inr (.inl gY))), (nR, .inl (cJ, 16, .inr (.inl gR))), (nC, .inl (cI, 9, .inl gC)), (nS, .inl (cI, 9, .inl gS))] := hD
                  refine lv_iconst (v := 1) hx hb md_M_door_108 (by decide) ?_
                  exact W.zret (v := 1) hx hb hr rfl (fun t ht hW => ⟨⟨1, (0, w0, h0, th0, de0), rfl, (by rw [fM_door, if_neg c2, if_neg c5, if_neg c8, if_neg c11, if_pos c14, if_pos c15, if_pos c16, if_neg c17]), by have h9 := hP; rw [← ht] at h9; exact h9⟩, hS.F ht⟩) hS.2.2 md_M_door_109 hlocks
                · refine lv_iconst (v := 0) hx hb md_M_door_84 (by decide) ?_
                  exact W.zret (v := 0) hx hb hr rfl (fun t ht hW => ⟨⟨0, (0, vw, vh, vt, vd), rfl, (by rw [fM_door, if_neg c2, if_neg c5, if_neg c8, if_neg c11, if_pos c14, if_pos c15, if_pos c16, if_pos c17]), by have h9 := hP; rw [← ht] at h9; exact h9⟩, hS.F ht⟩) hS.2.2 md_M_door_85 hlocks

def fM_hole (gX : Nat → Int64) (gY : Nat → Int64) (gR : Nat → Int64) (k : Int32) (x0 : Int64) (y0 : Int64) (r0 : Int64) : Int32 × Int32 × (Nat → Int64) × (Nat → Int64) × (Nat → Int64) := if (fM_isIn x0 (-100000) 100000) = 0 then (if k < 0 then (0, 1, gX, gY, gR) else (if k < 16 then (0, 2, gX, gY, gR) else (0, 1, gX, gY, gR))) else (if (fM_isIn y0 (-100000) 100000) = 0 then (if k < 0 then (0, 1, gX, gY, gR) else (if k < 16 then (0, 2, gX, gY, gR) else (0, 1, gX, gY, gR))) else (if (fM_isIn r0 0 1000) = 0 then (if k < 0 then (0, 1, gX, gY, gR) else (if k < 16 then (0, 2, gX, gY, gR) else (0, 1, gX, gY, gR))) else (if k < 0 then (0, 1, gX, gY, gR) else (if k < 16 then (if (gX (Int32.toNatClampNeg k)) = x0 then (if (gY (Int32.toNatClampNeg k)) = y0 then (if (gR (Int32.toNatClampNeg k)) = r0 then (0, 0, gX, gY, gR) else (1, 0, vp_updL gX (Int32.toNatClampNeg k) x0, vp_updL gY (Int32.toNatClampNeg k) y0, vp_updL gR (Int32.toNatClampNeg k) r0)) else (1, 0, vp_updL gX (Int32.toNatClampNeg k) x0, vp_updL gY (Int32.toNatClampNeg k) y0, vp_updL gR (Int32.toNatClampNeg k) r0)) else (1, 0, vp_updL gX (Int32.toNatClampNeg k) x0, vp_updL gY (Int32.toNatClampNeg k) y0, vp_updL gR (Int32.toNatClampNeg k) r0)) else (0, 1, gX, gY, gR)))))
theorem zM_hole (gX : Nat → Int64) (gY : Nat → Int64) (gR : Nat → Int64) (k : Int32) (x0 : Int64) (y0 : Int64) (r0 : Int64) : narrow .boolean (.int (fM_hole gX gY gR k x0 y0 r0).1) = .int (fM_hole gX gY gR k x0 y0 r0).1 := by
  unfold fM_hole
  repeat' split
  all_goals (dsimp only; rfl)
set_option maxHeartbeats 1000000 in
set_option maxRecDepth 100000 in
theorem ct_M_hole (l : Launch) (dC : Nat → ClassId) (dI : Nat → Nat → Nat) (cC cI cJ : ClassId) (nA : Nat) (nT : Nat) (nO : Nat) (nU : Nat) (nV : Nat) (nX : Nat) (nY : Nat) (nR : Nat) (nC : Nat) (nS : Nat) (gT : Nat → Int32) (gO : Nat → Int32) (gU : Nat → Int32) (gV : Nat → Int32) (gX : Nat → Int64) (gY : Nat → Int64) (gR : Nat → Int64) (gC : Nat → Int32) (gS : Nat → Int32) (vc : Int32) (vs : Int32) (va : Int32) (vf : Int32) (vr : Int32) (vw : Int64) (vh : Int64) (vt : Int64) (vd : Int64) (k : Int32) (x0 : Int64) (y0 : Int64) (r0 : Int64)   : Met l my_M_hole (.code my_M_hole mb_M_hole 9 (some .boolean) :: gw_l) ({ frames := 1, cells := 0, slots := 0, locals := 25 }) (mu_Pc (dC, dI) mC [(cC, .char), (cI, .int), (cJ, .long)] [(nA, .inr (5, [.int vc, .ref nT, .int vs, .int va, .int vf, .int vr, .ref nO, .ref nU, .ref nV, .long vw, .long vh, .long vt, .long vd, .ref nX, .ref nY, .ref nR, .ref nC, .ref nS])), (nT, .inl (cI, 300, .inl gT)), (nO, .inl (cI, 128, .inl gO)), (nU, .inl (cI, 128, .inl gU)), (nV, .inl (cI, 16, .inl gV)), (nX, .inl (cJ, 16, .inr (.inl gX))), (nY, .inl (cJ, 16, .inr (.inl gY))), (nR, .inl (cJ, 16, .inr (.inl gR))), (nC, .inl (cI, 9, .inl gC)), (nS, .inl (cI, 9, .inl gS))] (fun _ => True) [.ref nA, .int k, .long x0, .long y0, .long r0]) (va_Qi (fun (r : Int32) (u : Int32 × (Nat → Int64) × (Nat → Int64) × (Nat → Int64)) => (r, u) = fM_hole gX gY gR k x0 y0 r0) (fun u t => va_P (dC, dI) mC [(nA, .inr (5, [.int u.1, .ref nT, .int vs, .int va, .int vf, .int vr, .ref nO, .ref nU, .ref nV, .long vw, .long vh, .long vt, .long vd, .ref nX, .ref nY, .ref nR, .ref nC, .ref nS])), (nT, .inl (cI, 300, .inl gT)), (nO, .inl (cI, 128, .inl gO)), (nU, .inl (cI, 128, .inl gU)), (nV, .inl (cI, 16, .inl gV)), (nX, .inl (cJ, 16, .inr (.inl u.2.1))), (nY, .inl (cJ, 16, .inr (.inl u.2.2.1))), (nR, .inl (cJ, 16, .inr (.inl u.2.2.2))), (nC, .inl (cI, 9, .inl gC)), (nS, .inl (cI, 9, .inl gS))] t.heap) (mu_A [(nA, .inr (5, [.int vc, .ref nT, .int vs, .int va, .int vf, .int vr, .ref nO, .ref nU, .ref nV, .long vw, .long vh, .long vt, .long vd, .ref nX, .ref nY, .ref nR, .ref nC, .ref nS])), (nT, .inl (cI, 300, .inl gT)), (nO, .inl (cI, 128, .inl gO)), (nU, .inl (cI, 128, .inl gU)), (nV, .inl (cI, 16, .inl gV)), (nX, .inl (cJ, 16, .inr (.inl gX))), (nY, .inl (cJ, 16, .inr (.inl gY))), (nR, .inl (cJ, 16, .inr (.inl gR))), (nC, .inl (cI, 9, .inl gC)), (nS, .inl (cI, 9, .inl gS))])) 0 0 (mu_A [(nA, .inr (5, [.int vc, .ref nT, .int vs, .int va, .int vf, .int vr, .ref nO, .ref nU, .ref nV, .long vw, .long vh, .long vt, .long vd, .ref nX, .ref nY, .ref nR, .ref nC, .ref nS])), (nT, .inl (cI, 300, .inl gT)), (nO, .inl (cI, 128, .inl gO)), (nU, .inl (cI, 128, .inl gU)), (nV, .inl (cI, 16, .inl gV)), (nX, .inl (cJ, 16, .inr (.inl gX))), (nY, .inl (cJ, 16, .inr (.inl gY))), (nR, .inl (cJ, 16, .inr (.inl gR))), (nC, .inl (cI, 9, .inl gC)), (nS, .inl (cI, 9, .inl gS))]) := by
  refine Met.ofW (cc := mb_M_hole) (maxL := 9) (ret := (some .boolean)) (by decide) rfl ?_
  intro p e s m args below meth c s₁ B hml hv
  obtain ⟨rfl, hP, hK, hD0, hE⟩ := hv
  have hx := B.exec
  have hb := B.bytes
  have hr := B.returns
  have hts := atoms_spec (ws := (.code my_M_hole mb_M_hole 9 (some .boolean) :: gw_l)) B.pre
  have hg : ∀ w ∈ gw_l, w.before _ s = true := fun w h => hts w (List.mem_cons_of_mem _ h)
  have hown : s.vm.findClass mR_M = some m.cls := findClass_of_methodNamed B.named
  have hlocks := B.notSynchronized
  have hD := mu_self hD0
  have hS : va_S (mu_A [(nA, .inr (5, [.int vc, .ref nT, .int vs, .int va, .int vf, .int vr, .ref nO, .ref nU, .ref nV, .long vw, .long vh, .long vt, .long vd, .ref nX, .ref nY, .ref nR, .ref nC, .ref nS])), (nT, .inl (cI, 300, .inl gT)), (nO, .inl (cI, 128, .inl gO)), (nU, .inl (cI, 128, .inl gU)), (nV, .inl (cI, 16, .inl gV)), (nX, .inl (cJ, 16, .inr (.inl gX))), (nY, .inl (cJ, 16, .inr (.inl gY))), (nR, .inl (cJ, 16, .inr (.inl gR))), (nC, .inl (cI, 9, .inl gC)), (nS, .inl (cI, 9, .inl gS))]) s.heap s.heap [] := va_S.rf
  generalize hAe : mu_A [(nA, .inr (5, [.int vc, .ref nT, .int vs, .int va, .int vf, .int vr, .ref nO, .ref nU, .ref nV, .long vw, .long vh, .long vt, .long vd, .ref nX, .ref nY, .ref nR, .ref nC, .ref nS])), (nT, .inl (cI, 300, .inl gT)), (nO, .inl (cI, 128, .inl gO)), (nU, .inl (cI, 128, .inl gU)), (nV, .inl (cI, 16, .inl gV)), (nX, .inl (cJ, 16, .inr (.inl gX))), (nY, .inl (cJ, 16, .inr (.inl gY))), (nR, .inl (cJ, 16, .inr (.inl gR))), (nC, .inl (cI, 9, .inl gC)), (nS, .inl (cI, 9, .inl gS))] = A at hD hS ⊢
  have hl := lv_entry ([.ref nA, .int k, .long x0, .long y0, .long r0]) (n := 9) (Nat.le_of_ble_eq_true rfl)
  rw [lg_entry_eq]
  generalize (lg_sl ([.ref nA, .int k, .long x0, .long y0, .long r0]) ++ List.replicate (9 - (lg_sl ([.ref nA, .int k, .long x0, .long y0, .long r0])).length) Slot.unset).toArray = ls at hl ⊢
  have hl : lv_has ls 9 [(0, .ref nA), (1, .int k), (2, .long x0), (4, .long y0), (6, .long r0)] := hl
  refine lv_lload_n hx hb md_M_hole_0 rfl (lv_at hl 2 rfl) ?_
  refine lv_ldc2 hx hb hown (hg _ wd_699) md_M_hole_1 ?_
  refine lv_ldc2 hx hb hown (hg _ wd_700) md_M_hole_4 ?_
  have hPc1 := hP.sub (ws' := []) [] rfl
  refine pu_i (W.runS (As := [.long x0, .long (-100000), .long 100000]) (rest := []) ⟨hx, hb, hml, hown, hg⟩ (ct_M_isIn l dC dI cC cI cJ x0 (-100000) 100000) (gw_cwS hg wd_620 mv_M_isIn rfl rfl ⟨Nat.le_of_ble_eq_true rfl, Nat.le_of_ble_eq_true rfl⟩) (pu_preS pu_blT hK hPc1 pu_e1) rfl rfl hl.1 rfl (lv_room (Nat.le_of_ble_eq_true rfl)) md_M_hole_7 ⟨Nat.zero_le _, Nat.zero_le _⟩) ?_
  refine lv_if_eq (tgt := 43) hx hb md_M_hole_10 (by decide) (fun c2 => ?_) (fun c2 => ?_)
  · refine lv_iconst (v := 0) hx hb md_M_hole_43 (by decide) ?_
    refine lv_istore (lv' := [(8, .int 0), (0, .ref nA), (1, .int k), (2, .long x0), (4, .long y0), (6, .long r0)]) hx hb md_M_hole_44 hl (by decide) rfl (fun ls hl => ?_)
    refine lv_aload_n hx hb md_M_hole_46 rfl (lv_at hl 1 rfl) ?_
    refine lv_iload_n hx hb md_M_hole_47 rfl (lv_at hl 2 rfl) ?_
    refine lv_if_lt (tgt := 57) hx hb md_M_hole_48 (by decide) (fun c3 => ?_) (fun c3 => ?_)
    · refine lv_iconst (v := 1) hx hb md_M_hole_57 (by decide) ?_
      refine lv_goto (tgt := 71) hx hb md_M_hole_58 (by decide) ?_
      refine va_put (D := (dC, dI)) (ci := 5) (v := .int 1) (ty := .int) (C := mR_M) (T := mT_M) (N := 18) hx hb hg gu_M mF_M mO_M mN_M hown hK hP hD hS 0 rfl rfl 0 (by decide) (hg _ wd_532) (fun _ h9 => h9) rfl (by decide +kernel) rfl rfl (Nat.le_of_ble_eq_true rfl) md_M_hole_71 (fun H locs hP hD hS => ?_)
      have hP : va_P (dC, dI) mC [(nA, .inr (5, [.int 1, .ref nT, .int vs, .int va, .int vf, .int vr, .ref nO, .ref nU, .ref nV, .long vw, .long vh, .long vt, .long vd, .ref nX, .ref nY, .ref nR, .ref nC, .ref nS])), (nT, .inl (cI, 300, .inl gT)), (nO, .inl (cI, 128, .inl gO)), (nU, .inl (cI, 128, .inl gU)), (nV, .inl (cI, 16, .inl gV)), (nX, .inl (cJ, 16, .inr (.inl gX))), (nY, .inl (cJ, 16, .inr (.inl gY))), (nR, .inl (cJ, 16, .inr (.inl gR))), (nC, .inl (cI, 9, .inl gC)), (nS, .inl (cI, 9, .inl gS))] H := hP
      have hD : va_D A [(nA, .inr (5, [.int 1, .ref nT, .int vs, .int va, .int vf, .int vr, .ref nO, .ref nU, .ref nV, .long vw, .long vh, .long vt, .long vd, .ref nX, .ref nY, .ref nR, .ref nC, .ref nS])), (nT, .inl (cI, 300, .inl gT)), (nO, .inl (cI, 128, .inl gO)), (nU, .inl (cI, 128, .inl gU)), (nV, .inl (cI, 16, .inl gV)), (nX, .inl (cJ, 16, .inr (.inl gX))), (nY, .inl (cJ, 16, .inr (.inl gY))), (nR, .inl (cJ, 16, .inr (.inl gR))), (nC, .inl (cI, 9, .inl gC)), (nS, .inl (cI, 9, .inl gS))] := hD
      refine lv_aload_n hx hb md_M_hole_74 rfl (lv_at hl 1 rfl) ?_
      refine va_get (D := (dC, dI)) (ci := 5) (v := .int 1) (C := mR_M) (T := mT_M) (N := 18) hx hb hg gu_M hown hK hP 0 rfl rfl 0 (by decide) (hg _ wd_532) (fun _ h9 => h9) rfl md_M_hole_75 ?_
      refine lv_if_gt (tgt := 116) hx hb md_M_hole_78 (by decide) (fun _ => ?_) (fun c4 => absurd (by decide) c4)
      refine lv_iconst (v := 0) hx hb md_M_hole_116 (by decide) ?_
      exact W.zret (v := 0) hx hb hr rfl (fun t ht hW => ⟨⟨0, (1, gX, gY, gR), rfl, (by rw [fM_hole, if_pos c2, if_pos c3]), by have h9 := hP; rw [← ht] at h9; exact h9⟩, hS.F ht⟩) hS.2.2 md_M_hole_117 hlocks
    · refine lv_iload_n hx hb md_M_hole_51 rfl (lv_at hl 2 rfl) ?_
      refine lv_bipush (v := 16) hx hb md_M_hole_52 (by decide) ?_
      refine lv_icmp_lt (tgt := 61) hx hb md_M_hole_54 (by decide) (fun c5 => ?_) (fun c5 => ?_)
      · have hk := nx_mh2 c3 c5
        refine lv_iload hx hb md_M_hole_61 (lv_at hl 0 rfl) ?_
        refine lv_if_eq (tgt := 70) hx hb md_M_hole_63 (by decide) (fun _ => ?_) (fun c6 => absurd (by decide) c6)
        refine lv_iconst (v := 2) hx hb md_M_hole_70 (by decide) ?_
        refine va_put (D := (dC, dI)) (ci := 5) (v := .int 2) (ty := .int) (C := mR_M) (T := mT_M) (N := 18) hx hb hg gu_M mF_M mO_M mN_M hown hK hP hD hS 0 rfl rfl 0 (by decide) (hg _ wd_532) (fun _ h9 => h9) rfl (by decide +kernel) rfl rfl (Nat.le_of_ble_eq_true rfl) md_M_hole_71 (fun H locs hP hD hS => ?_)
        have hP : va_P (dC, dI) mC [(nA, .inr (5, [.int 2, .ref nT, .int vs, .int va, .int vf, .int vr, .ref nO, .ref nU, .ref nV, .long vw, .long vh, .long vt, .long vd, .ref nX, .ref nY, .ref nR, .ref nC, .ref nS])), (nT, .inl (cI, 300, .inl gT)), (nO, .inl (cI, 128, .inl gO)), (nU, .inl (cI, 128, .inl gU)), (nV, .inl (cI, 16, .inl gV)), (nX, .inl (cJ, 16, .inr (.inl gX))), (nY, .inl (cJ, 16, .inr (.inl gY))), (nR, .inl (cJ, 16, .inr (.inl gR))), (nC, .inl (cI, 9, .inl gC)), (nS, .inl (cI, 9, .inl gS))] H := hP
        have hD : va_D A [(nA, .inr (5, [.int 2, .ref nT, .int vs, .int va, .int vf, .int vr, .ref nO, .ref nU, .ref nV, .long vw, .long vh, .long vt, .long vd, .ref nX, .ref nY, .ref nR, .ref nC, .ref nS])), (nT, .inl (cI, 300, .inl gT)), (nO, .inl (cI, 128, .inl gO)), (nU, .inl (cI, 128, .inl gU)), (nV, .inl (cI, 16, .inl gV)), (nX, .inl (cJ, 16, .inr (.inl gX))), (nY, .inl (cJ, 16, .inr (.inl gY))), (nR, .inl (cJ, 16, .inr (.inl gR))), (nC, .inl (cI, 9, .inl gC)), (nS, .inl (cI, 9, .inl gS))] := hD
        refine lv_aload_n hx hb md_M_hole_74 rfl (lv_at hl 1 rfl) ?_
        refine va_get (D := (dC, dI)) (ci := 5) (v := .int 2) (C := mR_M) (T := mT_M) (N := 18) hx hb hg gu_M hown hK hP 0 rfl rfl 0 (by decide) (hg _ wd_532) (fun _ h9 => h9) rfl md_M_hole_75 ?_
        refine lv_if_gt (tgt := 116) hx hb md_M_hole_78 (by decide) (fun _ => ?_) (fun c7 => absurd (by decide) c7)
        refine lv_iconst (v := 0) hx hb md_M_hole_116 (by decide) ?_
        exact W.zret (v := 0) hx hb hr rfl (fun t ht hW => ⟨⟨0, (2, gX, gY, gR), rfl, (by rw [fM_hole, if_pos c2, if_neg c3, if_pos c5]), by have h9 := hP; rw [← ht] at h9; exact h9⟩, hS.F ht⟩) hS.2.2 md_M_hole_117 hlocks
      · refine lv_iconst (v := 1) hx hb md_M_hole_57 (by decide) ?_
        refine lv_goto (tgt := 71) hx hb md_M_hole_58 (by decide) ?_
        refine va_put (D := (dC, dI)) (ci := 5) (v := .int 1) (ty := .int) (C := mR_M) (T := mT_M) (N := 18) hx hb hg gu_M mF_M mO_M mN_M hown hK hP hD hS 0 rfl rfl 0 (by decide) (hg _ wd_532) (fun _ h9 => h9) rfl (by decide +kernel) rfl rfl (Nat.le_of_ble_eq_true rfl) md_M_hole_71 (fun H locs hP hD hS => ?_)
        have hP : va_P (dC, dI) mC [(nA, .inr (5, [.int 1, .ref nT, .int vs, .int va, .int vf, .int vr, .ref nO, .ref nU, .ref nV, .long vw, .long vh, .long vt, .long vd, .ref nX, .ref nY, .ref nR, .ref nC, .ref nS])), (nT, .inl (cI, 300, .inl gT)), (nO, .inl (cI, 128, .inl gO)), (nU, .inl (cI, 128, .inl gU)), (nV, .inl (cI, 16, .inl gV)), (nX, .inl (cJ, 16, .inr (.inl gX))), (nY, .inl (cJ, 16, .inr (.inl gY))), (nR, .inl (cJ, 16, .inr (.inl gR))), (nC, .inl (cI, 9, .inl gC)), (nS, .inl (cI, 9, .inl gS))] H := hP
        have hD : va_D A [(nA, .inr (5, [.int 1, .ref nT, .int vs, .int va, .int vf, .int vr, .ref nO, .ref nU, .ref nV, .long vw, .long vh, .long vt, .long vd, .ref nX, .ref nY, .ref nR, .ref nC, .ref nS])), (nT, .inl (cI, 300, .inl gT)), (nO, .inl (cI, 128, .inl gO)), (nU, .inl (cI, 128, .inl gU)), (nV, .inl (cI, 16, .inl gV)), (nX, .inl (cJ, 16, .inr (.inl gX))), (nY, .inl (cJ, 16, .inr (.inl gY))), (nR, .inl (cJ, 16, .inr (.inl gR))), (nC, .inl (cI, 9, .inl gC)), (nS, .inl (cI, 9, .inl gS))] := hD
        refine lv_aload_n hx hb md_M_hole_74 rfl (lv_at hl 1 rfl) ?_
        refine va_get (D := (dC, dI)) (ci := 5) (v := .int 1) (C := mR_M) (T := mT_M) (N := 18) hx hb hg gu_M hown hK hP 0 rfl rfl 0 (by decide) (hg _ wd_532) (fun _ h9 => h9) rfl md_M_hole_75 ?_
        refine lv_if_gt (tgt := 116) hx hb md_M_hole_78 (by decide) (fun _ => ?_) (fun c8 => absurd (by decide) c8)
        refine lv_iconst (v := 0) hx hb md_M_hole_116 (by decide) ?_
        exact W.zret (v := 0) hx hb hr rfl (fun t ht hW => ⟨⟨0, (1, gX, gY, gR), rfl, (by rw [fM_hole, if_pos c2, if_neg c3, if_neg c5]), by have h9 := hP; rw [← ht] at h9; exact h9⟩, hS.F ht⟩) hS.2.2 md_M_hole_117 hlocks
  · refine lv_lload hx hb md_M_hole_13 (lv_at hl 3 rfl) ?_
    refine lv_ldc2 hx hb hown (hg _ wd_699) md_M_hole_15 ?_
    refine lv_ldc2 hx hb hown (hg _ wd_700) md_M_hole_18 ?_
    have hPc9 := hP.sub (ws' := []) [] rfl
    refine pu_i (W.runS (As := [.long y0, .long (-100000), .long 100000]) (rest := []) ⟨hx, hb, hml, hown, hg⟩ (ct_M_isIn l dC dI cC cI cJ y0 (-100000) 100000) (gw_cwS hg wd_620 mv_M_isIn rfl rfl ⟨Nat.le_of_ble_eq_true rfl, Nat.le_of_ble_eq_true rfl⟩) (pu_preS pu_blT hK hPc9 pu_e1) rfl rfl hl.1 rfl (lv_room (Nat.le_of_ble_eq_true rfl)) md_M_hole_21 ⟨Nat.zero_le _, Nat.zero_le _⟩) ?_
    refine lv_if_eq (tgt := 43) hx hb md_M_hole_24 (by decide) (fun c10 => ?_) (fun c10 => ?_)
    · refine lv_iconst (v := 0) hx hb md_M_hole_43 (by decide) ?_
      refine lv_istore (lv' := [(8, .int 0), (0, .ref nA), (1, .int k), (2, .long x0), (4, .long y0), (6, .long r0)]) hx hb md_M_hole_44 hl (by decide) rfl (fun ls hl => ?_)
      refine lv_aload_n hx hb md_M_hole_46 rfl (lv_at hl 1 rfl) ?_
      refine lv_iload_n hx hb md_M_hole_47 rfl (lv_at hl 2 rfl) ?_
      refine lv_if_lt (tgt := 57) hx hb md_M_hole_48 (by decide) (fun c11 => ?_) (fun c11 => ?_)
      · refine lv_iconst (v := 1) hx hb md_M_hole_57 (by decide) ?_
        refine lv_goto (tgt := 71) hx hb md_M_hole_58 (by decide) ?_
        refine va_put (D := (dC, dI)) (ci := 5) (v := .int 1) (ty := .int) (C := mR_M) (T := mT_M) (N := 18) hx hb hg gu_M mF_M mO_M mN_M hown hK hP hD hS 0 rfl rfl 0 (by decide) (hg _ wd_532) (fun _ h9 => h9) rfl (by decide +kernel) rfl rfl (Nat.le_of_ble_eq_true rfl) md_M_hole_71 (fun H locs hP hD hS => ?_)
        have hP : va_P (dC, dI) mC [(nA, .inr (5, [.int 1, .ref nT, .int vs, .int va, .int vf, .int vr, .ref nO, .ref nU, .ref nV, .long vw, .long vh, .long vt, .long vd, .ref nX, .ref nY, .ref nR, .ref nC, .ref nS])), (nT, .inl (cI, 300, .inl gT)), (nO, .inl (cI, 128, .inl gO)), (nU, .inl (cI, 128, .inl gU)), (nV, .inl (cI, 16, .inl gV)), (nX, .inl (cJ, 16, .inr (.inl gX))), (nY, .inl (cJ, 16, .inr (.inl gY))), (nR, .inl (cJ, 16, .inr (.inl gR))), (nC, .inl (cI, 9, .inl gC)), (nS, .inl (cI, 9, .inl gS))] H := hP
        have hD : va_D A [(nA, .inr (5, [.int 1, .ref nT, .int vs, .int va, .int vf, .int vr, .ref nO, .ref nU, .ref nV, .long vw, .long vh, .long vt, .long vd, .ref nX, .ref nY, .ref nR, .ref nC, .ref nS])), (nT, .inl (cI, 300, .inl gT)), (nO, .inl (cI, 128, .inl gO)), (nU, .inl (cI, 128, .inl gU)), (nV, .inl (cI, 16, .inl gV)), (nX, .inl (cJ, 16, .inr (.inl gX))), (nY, .inl (cJ, 16, .inr (.inl gY))), (nR, .inl (cJ, 16, .inr (.inl gR))), (nC, .inl (cI, 9, .inl gC)), (nS, .inl (cI, 9, .inl gS))] := hD
        refine lv_aload_n hx hb md_M_hole_74 rfl (lv_at hl 1 rfl) ?_
        refine va_get (D := (dC, dI)) (ci := 5) (v := .int 1) (C := mR_M) (T := mT_M) (N := 18) hx hb hg gu_M hown hK hP 0 rfl rfl 0 (by decide) (hg _ wd_532) (fun _ h9 => h9) rfl md_M_hole_75 ?_
        refine lv_if_gt (tgt := 116) hx hb md_M_hole_78 (by decide) (fun _ => ?_) (fun c12 => absurd (by decide) c12)
        refine lv_iconst (v := 0) hx hb md_M_hole_116 (by decide) ?_
        exact W.zret (v := 0) hx hb hr rfl (fun t ht hW => ⟨⟨0, (1, gX, gY, gR), rfl, (by rw [fM_hole, if_neg c2, if_pos c10, if_pos c11]), by have h9 := hP; rw [← ht] at h9; exact h9⟩, hS.F ht⟩) hS.2.2 md_M_hole_117 hlocks
      · refine lv_iload_n hx hb md_M_hole_51 rfl (lv_at hl 2 rfl) ?_
        refine lv_bipush (v := 16) hx hb md_M_hole_52 (by decide) ?_
        refine lv_icmp_lt (tgt := 61) hx hb md_M_hole_54 (by decide) (fun c13 => ?_) (fun c13 => ?_)
        · have hk := nx_mh2 c11 c13
          refine lv_iload hx hb md_M_hole_61 (lv_at hl 0 rfl) ?_
          refine lv_if_eq (tgt := 70) hx hb md_M_hole_63 (by decide) (fun _ => ?_) (fun c14 => absurd (by decide) c14)
          refine lv_iconst (v := 2) hx hb md_M_hole_70 (by decide) ?_
          refine va_put (D := (dC, dI)) (ci := 5) (v := .int 2) (ty := .int) (C := mR_M) (T := mT_M) (N := 18) hx hb hg gu_M mF_M mO_M mN_M hown hK hP hD hS 0 rfl rfl 0 (by decide) (hg _ wd_532) (fun _ h9 => h9) rfl (by decide +kernel) rfl rfl (Nat.le_of_ble_eq_true rfl) md_M_hole_71 (fun H locs hP hD hS => ?_)
          have hP : va_P (dC, dI) mC [(nA, .inr (5, [.int 2, .ref nT, .int vs, .int va, .int vf, .int vr, .ref nO, .ref nU, .ref nV, .long vw, .long vh, .long vt, .long vd, .ref nX, .ref nY, .ref nR, .ref nC, .ref nS])), (nT, .inl (cI, 300, .inl gT)), (nO, .inl (cI, 128, .inl gO)), (nU, .inl (cI, 128, .inl gU)), (nV, .inl (cI, 16, .inl gV)), (nX, .inl (cJ, 16, .inr (.inl gX))), (nY, .inl (cJ, 16, .inr (.inl gY))), (nR, .inl (cJ, 16, .inr (.inl gR))), (nC, .inl (cI, 9, .inl gC)), (nS, .inl (cI, 9, .inl gS))] H := hP
          have hD : va_D A [(nA, .inr (5, [.int 2, .ref nT, .int vs, .int va, .int vf, .int vr, .ref nO, .ref nU, .ref nV, .long vw, .long vh, .long vt, .long vd, .ref nX, .ref nY, .ref nR, .ref nC, .ref nS])), (nT, .inl (cI, 300, .inl gT)), (nO, .inl (cI, 128, .inl gO)), (nU, .inl (cI, 128, .inl gU)), (nV, .inl (cI, 16, .inl gV)), (nX, .inl (cJ, 16, .inr (.inl gX))), (nY, .inl (cJ, 16, .inr (.inl gY))), (nR, .inl (cJ, 16, .inr (.inl gR))), (nC, .inl (cI, 9, .inl gC)), (nS, .inl (cI, 9, .inl gS))] := hD
          refine lv_aload_n hx hb md_M_hole_74 rfl (lv_at hl 1 rfl) ?_
          refine va_get (D := (dC, dI)) (ci := 5) (v := .int 2) (C := mR_M) (T := mT_M) (N := 18) hx hb hg gu_M hown hK hP 0 rfl rfl 0 (by decide) (hg _ wd_532) (fun _ h9 => h9) rfl md_M_hole_75 ?_
          refine lv_if_gt (tgt := 116) hx hb md_M_hole_78 (by decide) (fun _ => ?_) (fun c15 => absurd (by decide) c15)
          refine lv_iconst (v := 0) hx hb md_M_hole_116 (by decide) ?_
          exact W.zret (v := 0) hx hb hr rfl (fun t ht hW => ⟨⟨0, (2, gX, gY, gR), rfl, (by rw [fM_hole, if_neg c2, if_pos c10, if_neg c11, if_pos c13]), by have h9 := hP; rw [← ht] at h9; exact h9⟩, hS.F ht⟩) hS.2.2 md_M_hole_117 hlocks
        · refine lv_iconst (v := 1) hx hb md_M_hole_57 (by decide) ?_
          refine lv_goto (tgt := 71) hx hb md_M_hole_58 (by decide) ?_
          refine va_put (D := (dC, dI)) (ci := 5) (v := .int 1) (ty := .int) (C := mR_M) (T := mT_M) (N := 18) hx hb hg gu_M mF_M mO_M mN_M hown hK hP hD hS 0 rfl rfl 0 (by decide) (hg _ wd_532) (fun _ h9 => h9) rfl (by decide +kernel) rfl rfl (Nat.le_of_ble_eq_true rfl) md_M_hole_71 (fun H locs hP hD hS => ?_)
          have hP : va_P (dC, dI) mC [(nA, .inr (5, [.int 1, .ref nT, .int vs, .int va, .int vf, .int vr, .ref nO, .ref nU, .ref nV, .long vw, .long vh, .long vt, .long vd, .ref nX, .ref nY, .ref nR, .ref nC, .ref nS])), (nT, .inl (cI, 300, .inl gT)), (nO, .inl (cI, 128, .inl gO)), (nU, .inl (cI, 128, .inl gU)), (nV, .inl (cI, 16, .inl gV)), (nX, .inl (cJ, 16, .inr (.inl gX))), (nY, .inl (cJ, 16, .inr (.inl gY))), (nR, .inl (cJ, 16, .inr (.inl gR))), (nC, .inl (cI, 9, .inl gC)), (nS, .inl (cI, 9, .inl gS))] H := hP
          have hD : va_D A [(nA, .inr (5, [.int 1, .ref nT, .int vs, .int va, .int vf, .int vr, .ref nO, .ref nU, .ref nV, .long vw, .long vh, .long vt, .long vd, .ref nX, .ref nY, .ref nR, .ref nC, .ref nS])), (nT, .inl (cI, 300, .inl gT)), (nO, .inl (cI, 128, .inl gO)), (nU, .inl (cI, 128, .inl gU)), (nV, .inl (cI, 16, .inl gV)), (nX, .inl (cJ, 16, .inr (.inl gX))), (nY, .inl (cJ, 16, .inr (.inl gY))), (nR, .inl (cJ, 16, .inr (.inl gR))), (nC, .inl (cI, 9, .inl gC)), (nS, .inl (cI, 9, .inl gS))] := hD
          refine lv_aload_n hx hb md_M_hole_74 rfl (lv_at hl 1 rfl) ?_
          refine va_get (D := (dC, dI)) (ci := 5) (v := .int 1) (C := mR_M) (T := mT_M) (N := 18) hx hb hg gu_M hown hK hP 0 rfl rfl 0 (by decide) (hg _ wd_532) (fun _ h9 => h9) rfl md_M_hole_75 ?_
          refine lv_if_gt (tgt := 116) hx hb md_M_hole_78 (by decide) (fun _ => ?_) (fun c16 => absurd (by decide) c16)
          refine lv_iconst (v := 0) hx hb md_M_hole_116 (by decide) ?_
          exact W.zret (v := 0) hx hb hr rfl (fun t ht hW => ⟨⟨0, (1, gX, gY, gR), rfl, (by rw [fM_hole, if_neg c2, if_pos c10, if_neg c11, if_neg c13]), by have h9 := hP; rw [← ht] at h9; exact h9⟩, hS.F ht⟩) hS.2.2 md_M_hole_117 hlocks
    · refine lv_lload hx hb md_M_hole_27 (lv_at hl 4 rfl) ?_
      refine lv_lconst (v := 0) hx hb md_M_hole_29 (by decide) ?_
      refine lv_ldc2 hx hb hown (hg _ wd_635) md_M_hole_30 ?_
      have hPc17 := hP.sub (ws' := []) [] rfl
      refine pu_i (W.runS (As := [.long r0, .long 0, .long 1000]) (rest := []) ⟨hx, hb, hml, hown, hg⟩ (ct_M_isIn l dC dI cC cI cJ r0 0 1000) (gw_cwS hg wd_620 mv_M_isIn rfl rfl ⟨Nat.le_of_ble_eq_true rfl, Nat.le_of_ble_eq_true rfl⟩) (pu_preS pu_blT hK hPc17 pu_e1) rfl rfl hl.1 rfl (lv_room (Nat.le_of_ble_eq_true rfl)) md_M_hole_33 ⟨Nat.zero_le _, Nat.zero_le _⟩) ?_
      refine lv_if_eq (tgt := 43) hx hb md_M_hole_36 (by decide) (fun c18 => ?_) (fun c18 => ?_)
      · refine lv_iconst (v := 0) hx hb md_M_hole_43 (by decide) ?_
        refine lv_istore (lv' := [(8, .int 0), (0, .ref nA), (1, .int k), (2, .long x0), (4, .long y0), (6, .long r0)]) hx hb md_M_hole_44 hl (by decide) rfl (fun ls hl => ?_)
        refine lv_aload_n hx hb md_M_hole_46 rfl (lv_at hl 1 rfl) ?_
        refine lv_iload_n hx hb md_M_hole_47 rfl (lv_at hl 2 rfl) ?_
        refine lv_if_lt (tgt := 57) hx hb md_M_hole_48 (by decide) (fun c19 => ?_) (fun c19 => ?_)
        · refine lv_iconst (v := 1) hx hb md_M_hole_57 (by decide) ?_
          refine lv_goto (tgt := 71) hx hb md_M_hole_58 (by decide) ?_
          refine va_put (D := (dC, dI)) (ci := 5) (v := .int 1) (ty := .int) (C := mR_M) (T := mT_M) (N := 18) hx hb hg gu_M mF_M mO_M mN_M hown hK hP hD hS 0 rfl rfl 0 (by decide) (hg _ wd_532) (fun _ h9 => h9) rfl (by decide +kernel) rfl rfl (Nat.le_of_ble_eq_true rfl) md_M_hole_71 (fun H locs hP hD hS => ?_)
          have hP : va_P (dC, dI) mC [(nA, .inr (5, [.int 1, .ref nT, .int vs, .int va, .int vf, .int vr, .ref nO, .ref nU, .ref nV, .long vw, .long vh, .long vt, .long vd, .ref nX, .ref nY, .ref nR, .ref nC, .ref nS])), (nT, .inl (cI, 300, .inl gT)), (nO, .inl (cI, 128, .inl gO)), (nU, .inl (cI, 128, .inl gU)), (nV, .inl (cI, 16, .inl gV)), (nX, .inl (cJ, 16, .inr (.inl gX))), (nY, .inl (cJ, 16, .inr (.inl gY))), (nR, .inl (cJ, 16, .inr (.inl gR))), (nC, .inl (cI, 9, .inl gC)), (nS, .inl (cI, 9, .inl gS))] H := hP
          have hD : va_D A [(nA, .inr (5, [.int 1, .ref nT, .int vs, .int va, .int vf, .int vr, .ref nO, .ref nU, .ref nV, .long vw, .long vh, .long vt, .long vd, .ref nX, .ref nY, .ref nR, .ref nC, .ref nS])), (nT, .inl (cI, 300, .inl gT)), (nO, .inl (cI, 128, .inl gO)), (nU, .inl (cI, 128, .inl gU)), (nV, .inl (cI, 16, .inl gV)), (nX, .inl (cJ, 16, .inr (.inl gX))), (nY, .inl (cJ, 16, .inr (.inl gY))), (nR, .inl (cJ, 16, .inr (.inl gR))), (nC, .inl (cI, 9, .inl gC)), (nS, .inl (cI, 9, .inl gS))] := hD
          refine lv_aload_n hx hb md_M_hole_74 rfl (lv_at hl 1 rfl) ?_
          refine va_get (D := (dC, dI)) (ci := 5) (v := .int 1) (C := mR_M) (T := mT_M) (N := 18) hx hb hg gu_M hown hK hP 0 rfl rfl 0 (by decide) (hg _ wd_532) (fun _ h9 => h9) rfl md_M_hole_75 ?_
          refine lv_if_gt (tgt := 116) hx hb md_M_hole_78 (by decide) (fun _ => ?_) (fun c20 => absurd (by decide) c20)
          refine lv_iconst (v := 0) hx hb md_M_hole_116 (by decide) ?_
          exact W.zret (v := 0) hx hb hr rfl (fun t ht hW => ⟨⟨0, (1, gX, gY, gR), rfl, (by rw [fM_hole, if_neg c2, if_neg c10, if_pos c18, if_pos c19]), by have h9 := hP; rw [← ht] at h9; exact h9⟩, hS.F ht⟩) hS.2.2 md_M_hole_117 hlocks
        · refine lv_iload_n hx hb md_M_hole_51 rfl (lv_at hl 2 rfl) ?_
          refine lv_bipush (v := 16) hx hb md_M_hole_52 (by decide) ?_
          refine lv_icmp_lt (tgt := 61) hx hb md_M_hole_54 (by decide) (fun c21 => ?_) (fun c21 => ?_)
          · have hk := nx_mh2 c19 c21
            refine lv_iload hx hb md_M_hole_61 (lv_at hl 0 rfl) ?_
            refine lv_if_eq (tgt := 70) hx hb md_M_hole_63 (by decide) (fun _ => ?_) (fun c22 => absurd (by decide) c22)
            refine lv_iconst (v := 2) hx hb md_M_hole_70 (by decide) ?_
            refine va_put (D := (dC, dI)) (ci := 5) (v := .int 2) (ty := .int) (C := mR_M) (T := mT_M) (N := 18) hx hb hg gu_M mF_M mO_M mN_M hown hK hP hD hS 0 rfl rfl 0 (by decide) (hg _ wd_532) (fun _ h9 => h9) rfl (by decide +kernel) rfl rfl (Nat.le_of_ble_eq_true rfl) md_M_hole_71 (fun H locs hP hD hS => ?_)
            have hP : va_P (dC, dI) mC [(nA, .inr (5, [.int 2, .ref nT, .int vs, .int va, .int vf, .int vr, .ref nO, .ref nU, .ref nV, .long vw, .long vh, .long vt, .long vd, .ref nX, .ref nY, .ref nR, .ref nC, .ref nS])), (nT, .inl (cI, 300, .inl gT)), (nO, .inl (cI, 128, .inl gO)), (nU, .inl (cI, 128, .inl gU)), (nV, .inl (cI, 16, .inl gV)), (nX, .inl (cJ, 16, .inr (.inl gX))), (nY, .inl (cJ, 16, .inr (.inl gY))), (nR, .inl (cJ, 16, .inr (.inl gR))), (nC, .inl (cI, 9, .inl gC)), (nS, .inl (cI, 9, .inl gS))] H := hP
            have hD : va_D A [(nA, .inr (5, [.int 2, .ref nT, .int vs, .int va, .int vf, .int vr, .ref nO, .ref nU, .ref nV, .long vw, .long vh, .long vt, .long vd, .ref nX, .ref nY, .ref nR, .ref nC, .ref nS])), (nT, .inl (cI, 300, .inl gT)), (nO, .inl (cI, 128, .inl gO)), (nU, .inl (cI, 128, .inl gU)), (nV, .inl (cI, 16, .inl gV)), (nX, .inl (cJ, 16, .inr (.inl gX))), (nY, .inl (cJ, 16, .inr (.inl gY))), (nR, .inl (cJ, 16, .inr (.inl gR))), (nC, .inl (cI, 9, .inl gC)), (nS, .inl (cI, 9, .inl gS))] := hD
            refine lv_aload_n hx hb md_M_hole_74 rfl (lv_at hl 1 rfl) ?_
            refine va_get (D := (dC, dI)) (ci := 5) (v := .int 2) (C := mR_M) (T := mT_M) (N := 18) hx hb hg gu_M hown hK hP 0 rfl rfl 0 (by decide) (hg _ wd_532) (fun _ h9 => h9) rfl md_M_hole_75 ?_
            refine lv_if_gt (tgt := 116) hx hb md_M_hole_78 (by decide) (fun _ => ?_) (fun c23 => absurd (by decide) c23)
            refine lv_iconst (v := 0) hx hb md_M_hole_116 (by decide) ?_
            exact W.zret (v := 0) hx hb hr rfl (fun t ht hW => ⟨⟨0, (2, gX, gY, gR), rfl, (by rw [fM_hole, if_neg c2, if_neg c10, if_pos c18, if_neg c19, if_pos c21]), by have h9 := hP; rw [← ht] at h9; exact h9⟩, hS.F ht⟩) hS.2.2 md_M_hole_117 hlocks
          · refine lv_iconst (v := 1) hx hb md_M_hole_57 (by decide) ?_
            refine lv_goto (tgt := 71) hx hb md_M_hole_58 (by decide) ?_
            refine va_put (D := (dC, dI)) (ci := 5) (v := .int 1) (ty := .int) (C := mR_M) (T := mT_M) (N := 18) hx hb hg gu_M mF_M mO_M mN_M hown hK hP hD hS 0 rfl rfl 0 (by decide) (hg _ wd_532) (fun _ h9 => h9) rfl (by decide +kernel) rfl rfl (Nat.le_of_ble_eq_true rfl) md_M_hole_71 (fun H locs hP hD hS => ?_)
            have hP : va_P (dC, dI) mC [(nA, .inr (5, [.int 1, .ref nT, .int vs, .int va, .int vf, .int vr, .ref nO, .ref nU, .ref nV, .long vw, .long vh, .long vt, .long vd, .ref nX, .ref nY, .ref nR, .ref nC, .ref nS])), (nT, .inl (cI, 300, .inl gT)), (nO, .inl (cI, 128, .inl gO)), (nU, .inl (cI, 128, .inl gU)), (nV, .inl (cI, 16, .inl gV)), (nX, .inl (cJ, 16, .inr (.inl gX))), (nY, .inl (cJ, 16, .inr (.inl gY))), (nR, .inl (cJ, 16, .inr (.inl gR))), (nC, .inl (cI, 9, .inl gC)), (nS, .inl (cI, 9, .inl gS))] H := hP
            have hD : va_D A [(nA, .inr (5, [.int 1, .ref nT, .int vs, .int va, .int vf, .int vr, .ref nO, .ref nU, .ref nV, .long vw, .long vh, .long vt, .long vd, .ref nX, .ref nY, .ref nR, .ref nC, .ref nS])), (nT, .inl (cI, 300, .inl gT)), (nO, .inl (cI, 128, .inl gO)), (nU, .inl (cI, 128, .inl gU)), (nV, .inl (cI, 16, .inl gV)), (nX, .inl (cJ, 16, .inr (.inl gX))), (nY, .inl (cJ, 16, .inr (.inl gY))), (nR, .inl (cJ, 16, .inr (.inl gR))), (nC, .inl (cI, 9, .inl gC)), (nS, .inl (cI, 9, .inl gS))] := hD
            refine lv_aload_n hx hb md_M_hole_74 rfl (lv_at hl 1 rfl) ?_
            refine va_get (D := (dC, dI)) (ci := 5) (v := .int 1) (C := mR_M) (T := mT_M) (N := 18) hx hb hg gu_M hown hK hP 0 rfl rfl 0 (by decide) (hg _ wd_532) (fun _ h9 => h9) rfl md_M_hole_75 ?_
            refine lv_if_gt (tgt := 116) hx hb md_M_hole_78 (by decide) (fun _ => ?_) (fun c24 => absurd (by decide) c24)
            refine lv_iconst (v := 0) hx hb md_M_hole_116 (by decide) ?_
            exact W.zret (v := 0) hx hb hr rfl (fun t ht hW => ⟨⟨0, (1, gX, gY, gR), rfl, (by rw [fM_hole, if_neg c2, if_neg c10, if_pos c18, if_neg c19, if_neg c21]), by have h9 := hP; rw [← ht] at h9; exact h9⟩, hS.F ht⟩) hS.2.2 md_M_hole_117 hlocks
      · refine lv_iconst (v := 1) hx hb md_M_hole_39 (by decide) ?_
        refine lv_goto (tgt := 44) hx hb md_M_hole_40 (by decide) ?_
        refine lv_istore (lv' := [(8, .int 1), (0, .ref nA), (1, .int k), (2, .long x0), (4, .long y0), (6, .long r0)]) hx hb md_M_hole_44 hl (by decide) rfl (fun ls hl => ?_)
        refine lv_aload_n hx hb md_M_hole_46 rfl (lv_at hl 1 rfl) ?_
        refine lv_iload_n hx hb md_M_hole_47 rfl (lv_at hl 2 rfl) ?_
        refine lv_if_lt (tgt := 57) hx hb md_M_hole_48 (by decide) (fun c25 => ?_) (fun c25 => ?_)
        · refine lv_iconst (v := 1) hx hb md_M_hole_57 (by decide) ?_
          refine lv_goto (tgt := 71) hx hb md_M_hole_58 (by decide) ?_
          refine va_put (D := (dC, dI)) (ci := 5) (v := .int 1) (ty := .int) (C := mR_M) (T := mT_M) (N := 18) hx hb hg gu_M mF_M mO_M mN_M hown hK hP hD hS 0 rfl rfl 0 (by decide) (hg _ wd_532) (fun _ h9 => h9) rfl (by decide +kernel) rfl rfl (Nat.le_of_ble_eq_true rfl) md_M_hole_71 (fun H locs hP hD hS => ?_)
          have hP : va_P (dC, dI) mC [(nA, .inr (5, [.int 1, .ref nT, .int vs, .int va, .int vf, .int vr, .ref nO, .ref nU, .ref nV, .long vw, .long vh, .long vt, .long vd, .ref nX, .ref nY, .ref nR, .ref nC, .ref nS])), (nT, .inl (cI, 300, .inl gT)), (nO, .inl (cI, 128, .inl gO)), (nU, .inl (cI, 128, .inl gU)), (nV, .inl (cI, 16, .inl gV)), (nX, .inl (cJ, 16, .inr (.inl gX))), (nY, .inl (cJ, 16, .inr (.inl gY))), (nR, .inl (cJ, 16, .inr (.inl gR))), (nC, .inl (cI, 9, .inl gC)), (nS, .inl (cI, 9, .inl gS))] H := hP
          have hD : va_D A [(nA, .inr (5, [.int 1, .ref nT, .int vs, .int va, .int vf, .int vr, .ref nO, .ref nU, .ref nV, .long vw, .long vh, .long vt, .long vd, .ref nX, .ref nY, .ref nR, .ref nC, .ref nS])), (nT, .inl (cI, 300, .inl gT)), (nO, .inl (cI, 128, .inl gO)), (nU, .inl (cI, 128, .inl gU)), (nV, .inl (cI, 16, .inl gV)), (nX, .inl (cJ, 16, .inr (.inl gX))), (nY, .inl (cJ, 16, .inr (.inl gY))), (nR, .inl (cJ, 16, .inr (.inl gR))), (nC, .inl (cI, 9, .inl gC)), (nS, .inl (cI, 9, .inl gS))] := hD
          refine lv_aload_n hx hb md_M_hole_74 rfl (lv_at hl 1 rfl) ?_
          refine va_get (D := (dC, dI)) (ci := 5) (v := .int 1) (C := mR_M) (T := mT_M) (N := 18) hx hb hg gu_M hown hK hP 0 rfl rfl 0 (by decide) (hg _ wd_532) (fun _ h9 => h9) rfl md_M_hole_75 ?_
          refine lv_if_gt (tgt := 116) hx hb md_M_hole_78 (by decide) (fun _ => ?_) (fun c26 => absurd (by decide) c26)
          refine lv_iconst (v := 0) hx hb md_M_hole_116 (by decide) ?_
          exact W.zret (v := 0) hx hb hr rfl (fun t ht hW => ⟨⟨0, (1, gX, gY, gR), rfl, (by rw [fM_hole, if_neg c2, if_neg c10, if_neg c18, if_pos c25]), by have h9 := hP; rw [← ht] at h9; exact h9⟩, hS.F ht⟩) hS.2.2 md_M_hole_117 hlocks
        · refine lv_iload_n hx hb md_M_hole_51 rfl (lv_at hl 2 rfl) ?_
          refine lv_bipush (v := 16) hx hb md_M_hole_52 (by decide) ?_
          refine lv_icmp_lt (tgt := 61) hx hb md_M_hole_54 (by decide) (fun c27 => ?_) (fun c27 => ?_)
          · have hk := nx_mh2 c25 c27
            refine lv_iload hx hb md_M_hole_61 (lv_at hl 0 rfl) ?_
            refine lv_if_eq (tgt := 70) hx hb md_M_hole_63 (by decide) (fun c28 => absurd c28 (by decide)) (fun _ => ?_)
            refine lv_iconst (v := 0) hx hb md_M_hole_66 (by decide) ?_
            refine lv_goto (tgt := 71) hx hb md_M_hole_67 (by decide) ?_
            refine va_put (D := (dC, dI)) (ci := 5) (v := .int 0) (ty := .int) (C := mR_M) (T := mT_M) (N := 18) hx hb hg gu_M mF_M mO_M mN_M hown hK hP hD hS 0 rfl rfl 0 (by decide) (hg _ wd_532) (fun _ h9 => h9) rfl (by decide +kernel) rfl rfl (Nat.le_of_ble_eq_true rfl) md_M_hole_71 (fun H locs hP hD hS => ?_)
            have hP : va_P (dC, dI) mC [(nA, .inr (5, [.int 0, .ref nT, .int vs, .int va, .int vf, .int vr, .ref nO, .ref nU, .ref nV, .long vw, .long vh, .long vt, .long vd, .ref nX, .ref nY, .ref nR, .ref nC, .ref nS])), (nT, .inl (cI, 300, .inl gT)), (nO, .inl (cI, 128, .inl gO)), (nU, .inl (cI, 128, .inl gU)), (nV, .inl (cI, 16, .inl gV)), (nX, .inl (cJ, 16, .inr (.inl gX))), (nY, .inl (cJ, 16, .inr (.inl gY))), (nR, .inl (cJ, 16, .inr (.inl gR))), (nC, .inl (cI, 9, .inl gC)), (nS, .inl (cI, 9, .inl gS))] H := hP
            have hD : va_D A [(nA, .inr (5, [.int 0, .ref nT, .int vs, .int va, .int vf, .int vr, .ref nO, .ref nU, .ref nV, .long vw, .long vh, .long vt, .long vd, .ref nX, .ref nY, .ref nR, .ref nC, .ref nS])), (nT, .inl (cI, 300, .inl gT)), (nO, .inl (cI, 128, .inl gO)), (nU, .inl (cI, 128, .inl gU)), (nV, .inl (cI, 16, .inl gV)), (nX, .inl (cJ, 16, .inr (.inl gX))), (nY, .inl (cJ, 16, .inr (.inl gY))), (nR, .inl (cJ, 16, .inr (.inl gR))), (nC, .inl (cI, 9, .inl gC)), (nS, .inl (cI, 9, .inl gS))] := hD
            refine lv_aload_n hx hb md_M_hole_74 rfl (lv_at hl 1 rfl) ?_
            refine va_get (D := (dC, dI)) (ci := 5) (v := .int 0) (C := mR_M) (T := mT_M) (N := 18) hx hb hg gu_M hown hK hP 0 rfl rfl 0 (by decide) (hg _ wd_532) (fun _ h9 => h9) rfl md_M_hole_75 ?_
            refine lv_if_gt (tgt := 116) hx hb md_M_hole_78 (by decide) (fun c29 => absurd c29 (by decide)) (fun _ => ?_)
            refine lv_aload_n hx hb md_M_hole_81 rfl (lv_at hl 1 rfl) ?_
            refine va_get (D := (dC, dI)) (ci := 5) (v := .ref nX) (C := mR_M) (T := mT_M) (N := 18) hx hb hg gu_M hown hK hP 0 rfl rfl 13 (by decide) (hg _ wd_545) (fun _ h9 => h9) rfl md_M_hole_82 ?_
            refine lv_iload_n hx hb md_M_hole_85 rfl (lv_at hl 2 rfl) ?_
            refine va_lald hx hb hK hP 5 2 rfl rfl hk md_M_hole_86 ?_
            refine lv_lload_n hx hb md_M_hole_87 rfl (lv_at hl 3 rfl) ?_
            refine lx_ne (tgt := 118) hx hb md_M_hole_88 md_M_hole_89 (by decide) (fun c30 => ?_) (fun c30 => ?_)
            · refine lv_aload_n hx hb md_M_hole_118 rfl (lv_at hl 1 rfl) ?_
              refine va_get (D := (dC, dI)) (ci := 5) (v := .ref nX) (C := mR_M) (T := mT_M) (N := 18) hx hb hg gu_M hown hK hP 0 rfl rfl 13 (by decide) (hg _ wd_545) (fun _ h9 => h9) rfl md_M_hole_119 ?_
              refine lv_iload_n hx hb md_M_hole_122 rfl (lv_at hl 2 rfl) ?_
              refine lv_lload_n hx hb md_M_hole_123 rfl (lv_at hl 3 rfl) ?_
              refine va_last hx hb hK hP hD hS 5 2 rfl rfl hk md_M_hole_124 (fun H locs hP hD hS => ?_)
              have hP : va_P (dC, dI) mC [(nA, .inr (5, [.int 0, .ref nT, .int vs, .int va, .int vf, .int vr, .ref nO, .ref nU, .ref nV, .long vw, .long vh, .long vt, .long vd, .ref nX, .ref nY, .ref nR, .ref nC, .ref nS])), (nT, .inl (cI, 300, .inl gT)), (nO, .inl (cI, 128, .inl gO)), (nU, .inl (cI, 128, .inl gU)), (nV, .inl (cI, 16, .inl gV)), (nX, .inl (cJ, 16, .inr (.inl (vp_updL gX (Int32.toNatClampNeg k) x0)))), (nY, .inl (cJ, 16, .inr (.inl gY))), (nR, .inl (cJ, 16, .inr (.inl gR))), (nC, .inl (cI, 9, .inl gC)), (nS, .inl (cI, 9, .inl gS))] H := hP
              have hD : va_D A [(nA, .inr (5, [.int 0, .ref nT, .int vs, .int va, .int vf, .int vr, .ref nO, .ref nU, .ref nV, .long vw, .long vh, .long vt, .long vd, .ref nX, .ref nY, .ref nR, .ref nC, .ref nS])), (nT, .inl (cI, 300, .inl gT)), (nO, .inl (cI, 128, .inl gO)), (nU, .inl (cI, 128, .inl gU)), (nV, .inl (cI, 16, .inl gV)), (nX, .inl (cJ, 16, .inr (.inl (vp_updL gX (Int32.toNatClampNeg k) x0)))), (nY, .inl (cJ, 16, .inr (.inl gY))), (nR, .inl (cJ, 16, .inr (.inl gR))), (nC, .inl (cI, 9, .inl gC)), (nS, .inl (cI, 9, .inl gS))] := hD
              refine lv_aload_n hx hb md_M_hole_125 rfl (lv_at hl 1 rfl) ?_
              refine va_get (D := (dC, dI)) (ci := 5) (v := .ref nY) (C := mR_M) (T := mT_M) (N := 18) hx hb hg gu_M hown hK hP 0 rfl rfl 14 (by decide) (hg _ wd_546) (fun _ h9 => h9) rfl md_M_hole_126 ?_
              refine lv_iload_n hx hb md_M_hole_129 rfl (lv_at hl 2 rfl) ?_
              refine lv_lload hx hb md_M_hole_130 (lv_at hl 4 rfl) ?_
              refine va_last hx hb hK hP hD hS 6 2 rfl rfl hk md_M_hole_132 (fun H locs hP hD hS => ?_)
              have hP : va_P (dC, dI) mC [(nA, .inr (5, [.int 0, .ref nT, .int vs, .int va, .int vf, .int vr, .ref nO, .ref nU, .ref nV, .long vw, .long vh, .long vt, .long vd, .ref nX, .ref nY, .ref nR, .ref nC, .ref nS])), (nT, .inl (cI, 300, .inl gT)), (nO, .inl (cI, 128, .inl gO)), (nU, .inl (cI, 128, .inl gU)), (nV, .inl (cI, 16, .inl gV)), (nX, .inl (cJ, 16, .inr (.inl (vp_updL gX (Int32.toNatClampNeg k) x0)))), (nY, .inl (cJ, 16, .inr (.inl (vp_updL gY (Int32.toNatClampNeg k) y0)))), (nR, .inl (cJ, 16, .inr (.inl gR))), (nC, .inl (cI, 9, .inl gC)), (nS, .inl (cI, 9, .inl gS))] H := hP
              have hD : va_D A [(nA, .inr (5, [.int 0, .ref nT, .int vs, .int va, .int vf, .int vr, .ref nO, .ref nU, .ref nV, .long vw, .long vh, .long vt, .long vd, .ref nX, .ref nY, .ref nR, .ref nC, .ref nS])), (nT, .inl (cI, 300, .inl gT)), (nO, .inl (cI, 128, .inl gO)), (nU, .inl (cI, 128, .inl gU)), (nV, .inl (cI, 16, .inl gV)), (nX, .inl (cJ, 16, .inr (.inl (vp_updL gX (Int32.toNatClampNeg k) x0)))), (nY, .inl (cJ, 16, .inr (.inl (vp_updL gY (Int32.toNatClampNeg k) y0)))), (nR, .inl (cJ, 16, .inr (.inl gR))), (nC, .inl (cI, 9, .inl gC)), (nS, .inl (cI, 9, .inl gS))] := hD
              refine lv_aload_n hx hb md_M_hole_133 rfl (lv_at hl 1 rfl) ?_
              refine va_get (D := (dC, dI)) (ci := 5) (v := .ref nR) (C := mR_M) (T := mT_M) (N := 18) hx hb hg gu_M hown hK hP 0 rfl rfl 15 (by decide) (hg _ wd_547) (fun _ h9 => h9) rfl md_M_hole_134 ?_
              refine lv_iload_n hx hb md_M_hole_137 rfl (lv_at hl 2 rfl) ?_
              refine lv_lload hx hb md_M_hole_138 (lv_at hl 5 rfl) ?_
              refine va_last hx hb hK hP hD hS 7 2 rfl rfl hk md_M_hole_140 (fun H locs hP hD hS => ?_)
              have hP : va_P (dC, dI) mC [(nA, .inr (5, [.int 0, .ref nT, .int vs, .int va, .int vf, .int vr, .ref nO, .ref nU, .ref nV, .long vw, .long vh, .long vt, .long vd, .ref nX, .ref nY, .ref nR, .ref nC, .ref nS])), (nT, .inl (cI, 300, .inl gT)), (nO, .inl (cI, 128, .inl gO)), (nU, .inl (cI, 128, .inl gU)), (nV, .inl (cI, 16, .inl gV)), (nX, .inl (cJ, 16, .inr (.inl (vp_updL gX (Int32.toNatClampNeg k) x0)))), (nY, .inl (cJ, 16, .inr (.inl (vp_updL gY (Int32.toNatClampNeg k) y0)))), (nR, .inl (cJ, 16, .inr (.inl (vp_updL gR (Int32.toNatClampNeg k) r0)))), (nC, .inl (cI, 9, .inl gC)), (nS, .inl (cI, 9, .inl gS))] H := hP
              have hD : va_D A [(nA, .inr (5, [.int 0, .ref nT, .int vs, .int va, .int vf, .int vr, .ref nO, .ref nU, .ref nV, .long vw, .long vh, .long vt, .long vd, .ref nX, .ref nY, .ref nR, .ref nC, .ref nS])), (nT, .inl (cI, 300, .inl gT)), (nO, .inl (cI, 128, .inl gO)), (nU, .inl (cI, 128, .inl gU)), (nV, .inl (cI, 16, .inl gV)), (nX, .inl (cJ, 16, .inr (.inl (vp_updL gX (Int32.toNatClampNeg k) x0)))), (nY, .inl (cJ, 16, .inr (.inl (vp_updL gY (Int32.toNatClampNeg k) y0)))), (nR, .inl (cJ, 16, .inr (.inl (vp_updL gR (Int32.toNatClampNeg k) r0)))), (nC, .inl (cI, 9, .inl gC)), (nS, .inl (cI, 9, .inl gS))] := hD
              refine lv_iconst (v := 1) hx hb md_M_hole_141 (by decide) ?_
              exact W.zret (v := 1) hx hb hr rfl (fun t ht hW => ⟨⟨1, (0, vp_updL gX (Int32.toNatClampNeg k) x0, vp_updL gY (Int32.toNatClampNeg k) y0, vp_updL gR (Int32.toNatClampNeg k) r0), rfl, (by rw [fM_hole, if_neg c2, if_neg c10, if_neg c18, if_neg c25, if_pos c27, if_neg c30]), by have h9 := hP; rw [← ht] at h9; exact h9⟩, hS.F ht⟩) hS.2.2 md_M_hole_142 hlocks
            · refine lv_aload_n hx hb md_M_hole_92 rfl (lv_at hl 1 rfl) ?_
              refine va_get (D := (dC, dI)) (ci := 5) (v := .ref nY) (C := mR_M) (T := mT_M) (N := 18) hx hb hg gu_M hown hK hP 0 rfl rfl 14 (by decide) (hg _ wd_546) (fun _ h9 => h9) rfl md_M_hole_93 ?_
              refine lv_iload_n hx hb md_M_hole_96 rfl (lv_at hl 2 rfl) ?_
              refine va_lald hx hb hK hP 6 2 rfl rfl hk md_M_hole_97 ?_
              refine lv_lload hx hb md_M_hole_98 (lv_at hl 4 rfl) ?_
              refine lx_ne (tgt := 118) hx hb md_M_hole_100 md_M_hole_101 (by decide) (fun c31 => ?_) (fun c31 => ?_)
              · refine lv_aload_n hx hb md_M_hole_118 rfl (lv_at hl 1 rfl) ?_
                refine va_get (D := (dC, dI)) (ci := 5) (v := .ref nX) (C := mR_M) (T := mT_M) (N := 18) hx hb hg gu_M hown hK hP 0 rfl rfl 13 (by decide) (hg _ wd_545) (fun _ h9 => h9) rfl md_M_hole_119 ?_
                refine lv_iload_n hx hb md_M_hole_122 rfl (lv_at hl 2 rfl) ?_
                refine lv_lload_n hx hb md_M_hole_123 rfl (lv_at hl 3 rfl) ?_
                refine va_last hx hb hK hP hD hS 5 2 rfl rfl hk md_M_hole_124 (fun H locs hP hD hS => ?_)
                have hP : va_P (dC, dI) mC [(nA, .inr (5, [.int 0, .ref nT, .int vs, .int va, .int vf, .int vr, .ref nO, .ref nU, .ref nV, .long vw, .long vh, .long vt, .long vd, .ref nX, .ref nY, .ref nR, .ref nC, .ref nS])), (nT, .inl (cI, 300, .inl gT)), (nO, .inl (cI, 128, .inl gO)), (nU, .inl (cI, 128, .inl gU)), (nV, .inl (cI, 16, .inl gV)), (nX, .inl (cJ, 16, .inr (.inl (vp_updL gX (Int32.toNatClampNeg k) x0)))), (nY, .inl (cJ, 16, .inr (.inl gY))), (nR, .inl (cJ, 16, .inr (.inl gR))), (nC, .inl (cI, 9, .inl gC)), (nS, .inl (cI, 9, .inl gS))] H := hP
                have hD : va_D A [(nA, .inr (5, [.int 0, .ref nT, .int vs, .int va, .int vf, .int vr, .ref nO, .ref nU, .ref nV, .long vw, .long vh, .long vt, .long vd, .ref nX, .ref nY, .ref nR, .ref nC, .ref nS])), (nT, .inl (cI, 300, .inl gT)), (nO, .inl (cI, 128, .inl gO)), (nU, .inl (cI, 128, .inl gU)), (nV, .inl (cI, 16, .inl gV)), (nX, .inl (cJ, 16, .inr (.inl (vp_updL gX (Int32.toNatClampNeg k) x0)))), (nY, .inl (cJ, 16, .inr (.inl gY))), (nR, .inl (cJ, 16, .inr (.inl gR))), (nC, .inl (cI, 9, .inl gC)), (nS, .inl (cI, 9, .inl gS))] := hD
                refine lv_aload_n hx hb md_M_hole_125 rfl (lv_at hl 1 rfl) ?_
                refine va_get (D := (dC, dI)) (ci := 5) (v := .ref nY) (C := mR_M) (T := mT_M) (N := 18) hx hb hg gu_M hown hK hP 0 rfl rfl 14 (by decide) (hg _ wd_546) (fun _ h9 => h9) rfl md_M_hole_126 ?_
                refine lv_iload_n hx hb md_M_hole_129 rfl (lv_at hl 2 rfl) ?_
                refine lv_lload hx hb md_M_hole_130 (lv_at hl 4 rfl) ?_
                refine va_last hx hb hK hP hD hS 6 2 rfl rfl hk md_M_hole_132 (fun H locs hP hD hS => ?_)
                have hP : va_P (dC, dI) mC [(nA, .inr (5, [.int 0, .ref nT, .int vs, .int va, .int vf, .int vr, .ref nO, .ref nU, .ref nV, .long vw, .long vh, .long vt, .long vd, .ref nX, .ref nY, .ref nR, .ref nC, .ref nS])), (nT, .inl (cI, 300, .inl gT)), (nO, .inl (cI, 128, .inl gO)), (nU, .inl (cI, 128, .inl gU)), (nV, .inl (cI, 16, .inl gV)), (nX, .inl (cJ, 16, .inr (.inl (vp_updL gX (Int32.toNatClampNeg k) x0)))), (nY, .inl (cJ, 16, .inr (.inl (vp_updL gY (Int32.toNatClampNeg k) y0)))), (nR, .inl (cJ, 16, .inr (.inl gR))), (nC, .inl (cI, 9, .inl gC)), (nS, .inl (cI, 9, .inl gS))] H := hP
                have hD : va_D A [(nA, .inr (5, [.int 0, .ref nT, .int vs, .int va, .int vf, .int vr, .ref nO, .ref nU, .ref nV, .long vw, .long vh, .long vt, .long vd, .ref nX, .ref nY, .ref nR, .ref nC, .ref nS])), (nT, .inl (cI, 300, .inl gT)), (nO, .inl (cI, 128, .inl gO)), (nU, .inl (cI, 128, .inl gU)), (nV, .inl (cI, 16, .inl gV)), (nX, .inl (cJ, 16, .inr (.inl (vp_updL gX (Int32.toNatClampNeg k) x0)))), (nY, .inl (cJ, 16, .inr (.inl (vp_updL gY (Int32.toNatClampNeg k) y0)))), (nR, .inl (cJ, 16, .inr (.inl gR))), (nC, .inl (cI, 9, .inl gC)), (nS, .inl (cI, 9, .inl gS))] := hD
                refine lv_aload_n hx hb md_M_hole_133 rfl (lv_at hl 1 rfl) ?_
                refine va_get (D := (dC, dI)) (ci := 5) (v := .ref nR) (C := mR_M) (T := mT_M) (N := 18) hx hb hg gu_M hown hK hP 0 rfl rfl 15 (by decide) (hg _ wd_547) (fun _ h9 => h9) rfl md_M_hole_134 ?_
                refine lv_iload_n hx hb md_M_hole_137 rfl (lv_at hl 2 rfl) ?_
                refine lv_lload hx hb md_M_hole_138 (lv_at hl 5 rfl) ?_
                refine va_last hx hb hK hP hD hS 7 2 rfl rfl hk md_M_hole_140 (fun H locs hP hD hS => ?_)
                have hP : va_P (dC, dI) mC [(nA, .inr (5, [.int 0, .ref nT, .int vs, .int va, .int vf, .int vr, .ref nO, .ref nU, .ref nV, .long vw, .long vh, .long vt, .long vd, .ref nX, .ref nY, .ref nR, .ref nC, .ref nS])), (nT, .inl (cI, 300, .inl gT)), (nO, .inl (cI, 128, .inl gO)), (nU, .inl (cI, 128, .inl gU)), (nV, .inl (cI, 16, .inl gV)), (nX, .inl (cJ, 16, .inr (.inl (vp_updL gX (Int32.toNatClampNeg k) x0)))), (nY, .inl (cJ, 16, .inr (.inl (vp_updL gY (Int32.toNatClampNeg k) y0)))), (nR, .inl (cJ, 16, .inr (.inl (vp_updL gR (Int32.toNatClampNeg k) r0)))), (nC, .inl (cI, 9, .inl gC)), (nS, .inl (cI, 9, .inl gS))] H := hP
                have hD : va_D A [(nA, .inr (5, [.int 0, .ref nT, .int vs, .int va, .int vf, .int vr, .ref nO, .ref nU, .ref nV, .long vw, .long vh, .long vt, .long vd, .ref nX, .ref nY, .ref nR, .ref nC, .ref nS])), (nT, .inl (cI, 300, .inl gT)), (nO, .inl (cI, 128, .inl gO)), (nU, .inl (cI, 128, .inl gU)), (nV, .inl (cI, 16, .inl gV)), (nX, .inl (cJ, 16, .inr (.inl (vp_updL gX (Int32.toNatClampNeg k) x0)))), (nY, .inl (cJ, 16, .inr (.inl (vp_updL gY (Int32.toNatClampNeg k) y0)))), (nR, .inl (cJ, 16, .inr (.inl (vp_updL gR (Int32.toNatClampNeg k) r0)))), (nC, .inl (cI, 9, .inl gC)), (nS, .inl (cI, 9, .inl gS))] := hD
                refine lv_iconst (v := 1) hx hb md_M_hole_141 (by decide) ?_
                exact W.zret (v := 1) hx hb hr rfl (fun t ht hW => ⟨⟨1, (0, vp_updL gX (Int32.toNatClampNeg k) x0, vp_updL gY (Int32.toNatClampNeg k) y0, vp_updL gR (Int32.toNatClampNeg k) r0), rfl, (by rw [fM_hole, if_neg c2, if_neg c10, if_neg c18, if_neg c25, if_pos c27, if_pos c30, if_neg c31]), by have h9 := hP; rw [← ht] at h9; exact h9⟩, hS.F ht⟩) hS.2.2 md_M_hole_142 hlocks
              · refine lv_aload_n hx hb md_M_hole_104 rfl (lv_at hl 1 rfl) ?_
                refine va_get (D := (dC, dI)) (ci := 5) (v := .ref nR) (C := mR_M) (T := mT_M) (N := 18) hx hb hg gu_M hown hK hP 0 rfl rfl 15 (by decide) (hg _ wd_547) (fun _ h9 => h9) rfl md_M_hole_105 ?_
                refine lv_iload_n hx hb md_M_hole_108 rfl (lv_at hl 2 rfl) ?_
                refine va_lald hx hb hK hP 7 2 rfl rfl hk md_M_hole_109 ?_
                refine lv_lload hx hb md_M_hole_110 (lv_at hl 5 rfl) ?_
                refine lx_ne (tgt := 118) hx hb md_M_hole_112 md_M_hole_113 (by decide) (fun c32 => ?_) (fun c32 => ?_)
                · refine lv_aload_n hx hb md_M_hole_118 rfl (lv_at hl 1 rfl) ?_
                  refine va_get (D := (dC, dI)) (ci := 5) (v := .ref nX) (C := mR_M) (T := mT_M) (N := 18) hx hb hg gu_M hown hK hP 0 rfl rfl 13 (by decide) (hg _ wd_545) (fun _ h9 => h9) rfl md_M_hole_119 ?_
                  refine lv_iload_n hx hb md_M_hole_122 rfl (lv_at hl 2 rfl) ?_
                  refine lv_lload_n hx hb md_M_hole_123 rfl (lv_at hl 3 rfl) ?_
                  refine va_last hx hb hK hP hD hS 5 2 rfl rfl hk md_M_hole_124 (fun H locs hP hD hS => ?_)
                  have hP : va_P (dC, dI) mC [(nA, .inr (5, [.int 0, .ref nT, .int vs, .int va, .int vf, .int vr, .ref nO, .ref nU, .ref nV, .long vw, .long vh, .long vt, .long vd, .ref nX, .ref nY, .ref nR, .ref nC, .ref nS])), (nT, .inl (cI, 300, .inl gT)), (nO, .inl (cI, 128, .inl gO)), (nU, .inl (cI, 128, .inl gU)), (nV, .inl (cI, 16, .inl gV)), (nX, .inl (cJ, 16, .inr (.inl (vp_updL gX (Int32.toNatClampNeg k) x0)))), (nY, .inl (cJ, 16, .inr (.inl gY))), (nR, .inl (cJ, 16, .inr (.inl gR))), (nC, .inl (cI, 9, .inl gC)), (nS, .inl (cI, 9, .inl gS))] H := hP
                  have hD : va_D A [(nA, .inr (5, [.int 0, .ref nT, .int vs, .int va, .int vf, .int vr, .ref nO, .ref nU, .ref nV, .long vw, .long vh, .long vt, .long vd, .ref nX, .ref nY, .ref nR, .ref nC, .ref nS])), (nT, .inl (cI, 300, .inl gT)), (nO, .inl (cI, 128, .inl gO)), (nU, .inl (cI, 128, .inl gU)), (nV, .inl (cI, 16, .inl gV)), (nX, .inl (cJ, 16, .inr (.inl (vp_updL gX (Int32.toNatClampNeg k) x0)))), (nY, .inl (cJ, 16, .inr (.inl gY))), (nR, .inl (cJ, 16, .inr (.inl gR))), (nC, .inl (cI, 9, .inl gC)), (nS, .inl (cI, 9, .inl gS))] := hD
                  refine lv_aload_n hx hb md_M_hole_125 rfl (lv_at hl 1 rfl) ?_
                  refine va_get (D := (dC, dI)) (ci := 5) (v := .ref nY) (C := mR_M) (T := mT_M) (N := 18) hx hb hg gu_M hown hK hP 0 rfl rfl 14 (by decide) (hg _ wd_546) (fun _ h9 => h9) rfl md_M_hole_126 ?_
                  refine lv_iload_n hx hb md_M_hole_129 rfl (lv_at hl 2 rfl) ?_
                  refine lv_lload hx hb md_M_hole_130 (lv_at hl 4 rfl) ?_
                  refine va_last hx hb hK hP hD hS 6 2 rfl rfl hk md_M_hole_132 (fun H locs hP hD hS => ?_)
                  have hP : va_P (dC, dI) mC [(nA, .inr (5, [.int 0, .ref nT, .int vs, .int va, .int vf, .int vr, .ref nO, .ref nU, .ref nV, .long vw, .long vh, .long vt, .long vd, .ref nX, .ref nY, .ref nR, .ref nC, .ref nS])), (nT, .inl (cI, 300, .inl gT)), (nO, .inl (cI, 128, .inl gO)), (nU, .inl (cI, 128, .inl gU)), (nV, .inl (cI, 16, .inl gV)), (nX, .inl (cJ, 16, .inr (.inl (vp_updL gX (Int32.toNatClampNeg k) x0)))), (nY, .inl (cJ, 16, .inr (.inl (vp_updL gY (Int32.toNatClampNeg k) y0)))), (nR, .inl (cJ, 16, .inr (.inl gR))), (nC, .inl (cI, 9, .inl gC)), (nS, .inl (cI, 9, .inl gS))] H := hP
                  have hD : va_D A [(nA, .inr (5, [.int 0, .ref nT, .int vs, .int va, .int vf, .int vr, .ref nO, .ref nU, .ref nV, .long vw, .long vh, .long vt, .long vd, .ref nX, .ref nY, .ref nR, .ref nC, .ref nS])), (nT, .inl (cI, 300, .inl gT)), (nO, .inl (cI, 128, .inl gO)), (nU, .inl (cI, 128, .inl gU)), (nV, .inl (cI, 16, .inl gV)), (nX, .inl (cJ, 16, .inr (.inl (vp_updL gX (Int32.toNatClampNeg k) x0)))), (nY, .inl (cJ, 16, .inr (.inl (vp_updL gY (Int32.toNatClampNeg k) y0)))), (nR, .inl (cJ, 16, .inr (.inl gR))), (nC, .inl (cI, 9, .inl gC)), (nS, .inl (cI, 9, .inl gS))] := hD
                  refine lv_aload_n hx hb md_M_hole_133 rfl (lv_at hl 1 rfl) ?_
                  refine va_get (D := (dC, dI)) (ci := 5) (v := .ref nR) (C := mR_M) (T := mT_M) (N := 18) hx hb hg gu_M hown hK hP 0 rfl rfl 15 (by decide) (hg _ wd_547) (fun _ h9 => h9) rfl md_M_hole_134 ?_
                  refine lv_iload_n hx hb md_M_hole_137 rfl (lv_at hl 2 rfl) ?_
                  refine lv_lload hx hb md_M_hole_138 (lv_at hl 5 rfl) ?_
                  refine va_last hx hb hK hP hD hS 7 2 rfl rfl hk md_M_hole_140 (fun H locs hP hD hS => ?_)
                  have hP : va_P (dC, dI) mC [(nA, .inr (5, [.int 0, .ref nT, .int vs, .int va, .int vf, .int vr, .ref nO, .ref nU, .ref nV, .long vw, .long vh, .long vt, .long vd, .ref nX, .ref nY, .ref nR, .ref nC, .ref nS])), (nT, .inl (cI, 300, .inl gT)), (nO, .inl (cI, 128, .inl gO)), (nU, .inl (cI, 128, .inl gU)), (nV, .inl (cI, 16, .inl gV)), (nX, .inl (cJ, 16, .inr (.inl (vp_updL gX (Int32.toNatClampNeg k) x0)))), (nY, .inl (cJ, 16, .inr (.inl (vp_updL gY (Int32.toNatClampNeg k) y0)))), (nR, .inl (cJ, 16, .inr (.inl (vp_updL gR (Int32.toNatClampNeg k) r0)))), (nC, .inl (cI, 9, .inl gC)), (nS, .inl (cI, 9, .inl gS))] H := hP
                  have hD : va_D A [(nA, .inr (5, [.int 0, .ref nT, .int vs, .int va, .int vf, .int vr, .ref nO, .ref nU, .ref nV, .long vw, .long vh, .long vt, .long vd, .ref nX, .ref nY, .ref nR, .ref nC, .ref nS])), (nT, .inl (cI, 300, .inl gT)), (nO, .inl (cI, 128, .inl gO)), (nU, .inl (cI, 128, .inl gU)), (nV, .inl (cI, 16, .inl gV)), (nX, .inl (cJ, 16, .inr (.inl (vp_updL gX (Int32.toNatClampNeg k) x0)))), (nY, .inl (cJ, 16, .inr (.inl (vp_updL gY (Int32.toNatClampNeg k) y0)))), (nR, .inl (cJ, 16, .inr (.inl (vp_updL gR (Int32.toNatClampNeg k) r0)))), (nC, .inl (cI, 9, .inl gC)), (nS, .inl (cI, 9, .inl gS))] := hD
                  refine lv_iconst (v := 1) hx hb md_M_hole_141 (by decide) ?_
                  exact W.zret (v := 1) hx hb hr rfl (fun t ht hW => ⟨⟨1, (0, vp_updL gX (Int32.toNatClampNeg k) x0, vp_updL gY (Int32.toNatClampNeg k) y0, vp_updL gR (Int32.toNatClampNeg k) r0), rfl, (by rw [fM_hole, if_neg c2, if_neg c10, if_neg c18, if_neg c25, if_pos c27, if_pos c30, if_pos c31, if_neg c32]), by have h9 := hP; rw [← ht] at h9; exact h9⟩, hS.F ht⟩) hS.2.2 md_M_hole_142 hlocks
                · refine lv_iconst (v := 0) hx hb md_M_hole_116 (by decide) ?_
                  exact W.zret (v := 0) hx hb hr rfl (fun t ht hW => ⟨⟨0, (0, gX, gY, gR), rfl, (by rw [fM_hole, if_neg c2, if_neg c10, if_neg c18, if_neg c25, if_pos c27, if_pos c30, if_pos c31, if_pos c32]), by have h9 := hP; rw [← ht] at h9; exact h9⟩, hS.F ht⟩) hS.2.2 md_M_hole_117 hlocks
          · refine lv_iconst (v := 1) hx hb md_M_hole_57 (by decide) ?_
            refine lv_goto (tgt := 71) hx hb md_M_hole_58 (by decide) ?_
            refine va_put (D := (dC, dI)) (ci := 5) (v := .int 1) (ty := .int) (C := mR_M) (T := mT_M) (N := 18) hx hb hg gu_M mF_M mO_M mN_M hown hK hP hD hS 0 rfl rfl 0 (by decide) (hg _ wd_532) (fun _ h9 => h9) rfl (by decide +kernel) rfl rfl (Nat.le_of_ble_eq_true rfl) md_M_hole_71 (fun H locs hP hD hS => ?_)
            have hP : va_P (dC, dI) mC [(nA, .inr (5, [.int 1, .ref nT, .int vs, .int va, .int vf, .int vr, .ref nO, .ref nU, .ref nV, .long vw, .long vh, .long vt, .long vd, .ref nX, .ref nY, .ref nR, .ref nC, .ref nS])), (nT, .inl (cI, 300, .inl gT)), (nO, .inl (cI, 128, .inl gO)), (nU, .inl (cI, 128, .inl gU)), (nV, .inl (cI, 16, .inl gV)), (nX, .inl (cJ, 16, .inr (.inl gX))), (nY, .inl (cJ, 16, .inr (.inl gY))), (nR, .inl (cJ, 16, .inr (.inl gR))), (nC, .inl (cI, 9, .inl gC)), (nS, .inl (cI, 9, .inl gS))] H := hP
            have hD : va_D A [(nA, .inr (5, [.int 1, .ref nT, .int vs, .int va, .int vf, .int vr, .ref nO, .ref nU, .ref nV, .long vw, .long vh, .long vt, .long vd, .ref nX, .ref nY, .ref nR, .ref nC, .ref nS])), (nT, .inl (cI, 300, .inl gT)), (nO, .inl (cI, 128, .inl gO)), (nU, .inl (cI, 128, .inl gU)), (nV, .inl (cI, 16, .inl gV)), (nX, .inl (cJ, 16, .inr (.inl gX))), (nY, .inl (cJ, 16, .inr (.inl gY))), (nR, .inl (cJ, 16, .inr (.inl gR))), (nC, .inl (cI, 9, .inl gC)), (nS, .inl (cI, 9, .inl gS))] := hD
            refine lv_aload_n hx hb md_M_hole_74 rfl (lv_at hl 1 rfl) ?_
            refine va_get (D := (dC, dI)) (ci := 5) (v := .int 1) (C := mR_M) (T := mT_M) (N := 18) hx hb hg gu_M hown hK hP 0 rfl rfl 0 (by decide) (hg _ wd_532) (fun _ h9 => h9) rfl md_M_hole_75 ?_
            refine lv_if_gt (tgt := 116) hx hb md_M_hole_78 (by decide) (fun _ => ?_) (fun c33 => absurd (by decide) c33)
            refine lv_iconst (v := 0) hx hb md_M_hole_116 (by decide) ?_
            exact W.zret (v := 0) hx hb hr rfl (fun t ht hW => ⟨⟨0, (1, gX, gY, gR), rfl, (by rw [fM_hole, if_neg c2, if_neg c10, if_neg c18, if_neg c25, if_neg c27]), by have h9 := hP; rw [← ht] at h9; exact h9⟩, hS.F ht⟩) hS.2.2 md_M_hole_117 hlocks

def fM_meet (gX : Nat → Int64) (gY : Nat → Int64) (gR : Nat → Int64) (a : Int32) (b : Int32) : Int32 × Int32 := if a < 0 then (0, 1) else (if 16 ≤ a then (0, 1) else (if b < 0 then (0, 1) else (if b < 16 then (if (fM_meets gX gY gR a b) = 0 then (0, 0) else (1, 0)) else (0, 1))))
theorem zM_meet (gX : Nat → Int64) (gY : Nat → Int64) (gR : Nat → Int64) (a : Int32) (b : Int32) : narrow .boolean (.int (fM_meet gX gY gR a b).1) = .int (fM_meet gX gY gR a b).1 := by
  unfold fM_meet
  repeat' split
  all_goals (dsimp only; rfl)
set_option maxHeartbeats 1000000 in
set_option maxRecDepth 100000 in
theorem ct_M_meet (l : Launch) (dC : Nat → ClassId) (dI : Nat → Nat → Nat) (cC cI cJ : ClassId) (nA : Nat) (nT : Nat) (nO : Nat) (nU : Nat) (nV : Nat) (nX : Nat) (nY : Nat) (nR : Nat) (nC : Nat) (nS : Nat) (gT : Nat → Int32) (gO : Nat → Int32) (gU : Nat → Int32) (gV : Nat → Int32) (gX : Nat → Int64) (gY : Nat → Int64) (gR : Nat → Int64) (gC : Nat → Int32) (gS : Nat → Int32) (vc : Int32) (vs : Int32) (va : Int32) (vf : Int32) (vr : Int32) (vw : Int64) (vh : Int64) (vt : Int64) (vd : Int64) (a : Int32) (b : Int32)   : Met l my_M_meet (.code my_M_meet mb_M_meet 3 (some .boolean) :: gw_l) ({ frames := 1, cells := 0, slots := 0, locals := 28 }) (mu_Pc (dC, dI) mC [(cC, .char), (cI, .int), (cJ, .long)] [(nA, .inr (5, [.int vc, .ref nT, .int vs, .int va, .int vf, .int vr, .ref nO, .ref nU, .ref nV, .long vw, .long vh, .long vt, .long vd, .ref nX, .ref nY, .ref nR, .ref nC, .ref nS])), (nT, .inl (cI, 300, .inl gT)), (nO, .inl (cI, 128, .inl gO)), (nU, .inl (cI, 128, .inl gU)), (nV, .inl (cI, 16, .inl gV)), (nX, .inl (cJ, 16, .inr (.inl gX))), (nY, .inl (cJ, 16, .inr (.inl gY))), (nR, .inl (cJ, 16, .inr (.inl gR))), (nC, .inl (cI, 9, .inl gC)), (nS, .inl (cI, 9, .inl gS))] (fun _ => True) [.ref nA, .int a, .int b]) (va_Qi (fun (r : Int32) (u : Int32) => (r, u) = fM_meet gX gY gR a b) (fun u t => va_P (dC, dI) mC [(nA, .inr (5, [.int u, .ref nT, .int vs, .int va, .int vf, .int vr, .ref nO, .ref nU, .ref nV, .long vw, .long vh, .long vt, .long vd, .ref nX, .ref nY, .ref nR, .ref nC, .ref nS])), (nT, .inl (cI, 300, .inl gT)), (nO, .inl (cI, 128, .inl gO)), (nU, .inl (cI, 128, .inl gU)), (nV, .inl (cI, 16, .inl gV)), (nX, .inl (cJ, 16, .inr (.inl gX))), (nY, .inl (cJ, 16, .inr (.inl gY))), (nR, .inl (cJ, 16, .inr (.inl gR))), (nC, .inl (cI, 9, .inl gC)), (nS, .inl (cI, 9, .inl gS))] t.heap) (mu_A [(nA, .inr (5, [.int vc, .ref nT, .int vs, .int va, .int vf, .int vr, .ref nO, .ref nU, .ref nV, .long vw, .long vh, .long vt, .long vd, .ref nX, .ref nY, .ref nR, .ref nC, .ref nS])), (nT, .inl (cI, 300, .inl gT)), (nO, .inl (cI, 128, .inl gO)), (nU, .inl (cI, 128, .inl gU)), (nV, .inl (cI, 16, .inl gV)), (nX, .inl (cJ, 16, .inr (.inl gX))), (nY, .inl (cJ, 16, .inr (.inl gY))), (nR, .inl (cJ, 16, .inr (.inl gR))), (nC, .inl (cI, 9, .inl gC)), (nS, .inl (cI, 9, .inl gS))])) 0 0 (mu_A [(nA, .inr (5, [.int vc, .ref nT, .int vs, .int va, .int vf, .int vr, .ref nO, .ref nU, .ref nV, .long vw, .long vh, .long vt, .long vd, .ref nX, .ref nY, .ref nR, .ref nC, .ref nS])), (nT, .inl (cI, 300, .inl gT)), (nO, .inl (cI, 128, .inl gO)), (nU, .inl (cI, 128, .inl gU)), (nV, .inl (cI, 16, .inl gV)), (nX, .inl (cJ, 16, .inr (.inl gX))), (nY, .inl (cJ, 16, .inr (.inl gY))), (nR, .inl (cJ, 16, .inr (.inl gR))), (nC, .inl (cI, 9, .inl gC)), (nS, .inl (cI, 9, .inl gS))]) := by
  refine Met.ofW (cc := mb_M_meet) (maxL := 3) (ret := (some .boolean)) (by decide) rfl ?_
  intro p e s m args below meth c s₁ B hml hv
  obtain ⟨rfl, hP, hK, hD0, hE⟩ := hv
  have hx := B.exec
  have hb := B.bytes
  have hr := B.returns
  have hts := atoms_spec (ws := (.code my_M_meet mb_M_meet 3 (some .boolean) :: gw_l)) B.pre
  have hg : ∀ w ∈ gw_l, w.before _ s = true := fun w h => hts w (List.mem_cons_of_mem _ h)
  have hown : s.vm.findClass mR_M = some m.cls := findClass_of_methodNamed B.named
  have hlocks := B.notSynchronized
  have hD := mu_self hD0
  have hS : va_S (mu_A [(nA, .inr (5, [.int vc, .ref nT, .int vs, .int va, .int vf, .int vr, .ref nO, .ref nU, .ref nV, .long vw, .long vh, .long vt, .long vd, .ref nX, .ref nY, .ref nR, .ref nC, .ref nS])), (nT, .inl (cI, 300, .inl gT)), (nO, .inl (cI, 128, .inl gO)), (nU, .inl (cI, 128, .inl gU)), (nV, .inl (cI, 16, .inl gV)), (nX, .inl (cJ, 16, .inr (.inl gX))), (nY, .inl (cJ, 16, .inr (.inl gY))), (nR, .inl (cJ, 16, .inr (.inl gR))), (nC, .inl (cI, 9, .inl gC)), (nS, .inl (cI, 9, .inl gS))]) s.heap s.heap [] := va_S.rf
  generalize hAe : mu_A [(nA, .inr (5, [.int vc, .ref nT, .int vs, .int va, .int vf, .int vr, .ref nO, .ref nU, .ref nV, .long vw, .long vh, .long vt, .long vd, .ref nX, .ref nY, .ref nR, .ref nC, .ref nS])), (nT, .inl (cI, 300, .inl gT)), (nO, .inl (cI, 128, .inl gO)), (nU, .inl (cI, 128, .inl gU)), (nV, .inl (cI, 16, .inl gV)), (nX, .inl (cJ, 16, .inr (.inl gX))), (nY, .inl (cJ, 16, .inr (.inl gY))), (nR, .inl (cJ, 16, .inr (.inl gR))), (nC, .inl (cI, 9, .inl gC)), (nS, .inl (cI, 9, .inl gS))] = A at hD hS ⊢
  have hl := lv_entry ([.ref nA, .int a, .int b]) (n := 3) (Nat.le_of_ble_eq_true rfl)
  rw [lg_entry_eq]
  generalize (lg_sl ([.ref nA, .int a, .int b]) ++ List.replicate (3 - (lg_sl ([.ref nA, .int a, .int b])).length) Slot.unset).toArray = ls at hl ⊢
  have hl : lv_has ls 3 [(0, .ref nA), (1, .int a), (2, .int b)] := hl
  refine lv_aload_n hx hb md_M_meet_0 rfl (lv_at hl 0 rfl) ?_
  refine lv_iload_n hx hb md_M_meet_1 rfl (lv_at hl 1 rfl) ?_
  refine lv_if_lt (tgt := 21) hx hb md_M_meet_2 (by decide) (fun c1 => ?_) (fun c1 => ?_)
  · refine lv_iconst (v := 1) hx hb md_M_meet_21 (by decide) ?_
    refine lv_goto (tgt := 26) hx hb md_M_meet_22 (by decide) ?_
    refine va_put (D := (dC, dI)) (ci := 5) (v := .int 1) (ty := .int) (C := mR_M) (T := mT_M) (N := 18) hx hb hg gu_M mF_M mO_M mN_M hown hK hP hD hS 0 rfl rfl 0 (by decide) (hg _ wd_532) (fun _ h9 => h9) rfl (by decide +kernel) rfl rfl (Nat.le_of_ble_eq_true rfl) md_M_meet_26 (fun H locs hP hD hS => ?_)
    have hP : va_P (dC, dI) mC [(nA, .inr (5, [.int 1, .ref nT, .int vs, .int va, .int vf, .int vr, .ref nO, .ref nU, .ref nV, .long vw, .long vh, .long vt, .long vd, .ref nX, .ref nY, .ref nR, .ref nC, .ref nS])), (nT, .inl (cI, 300, .inl gT)), (nO, .inl (cI, 128, .inl gO)), (nU, .inl (cI, 128, .inl gU)), (nV, .inl (cI, 16, .inl gV)), (nX, .inl (cJ, 16, .inr (.inl gX))), (nY, .inl (cJ, 16, .inr (.inl gY))), (nR, .inl (cJ, 16, .inr (.inl gR))), (nC, .inl (cI, 9, .inl gC)), (nS, .inl (cI, 9, .inl gS))] H := hP
    have hD : va_D A [(nA, .inr (5, [.int 1, .ref nT, .int vs, .int va, .int vf, .int vr, .ref nO, .ref nU, .ref nV, .long vw, .long vh, .long vt, .long vd, .ref nX, .ref nY, .ref nR, .ref nC, .ref nS])), (nT, .inl (cI, 300, .inl gT)), (nO, .inl (cI, 128, .inl gO)), (nU, .inl (cI, 128, .inl gU)), (nV, .inl (cI, 16, .inl gV)), (nX, .inl (cJ, 16, .inr (.inl gX))), (nY, .inl (cJ, 16, .inr (.inl gY))), (nR, .inl (cJ, 16, .inr (.inl gR))), (nC, .inl (cI, 9, .inl gC)), (nS, .inl (cI, 9, .inl gS))] := hD
    refine lv_aload_n hx hb md_M_meet_29 rfl (lv_at hl 0 rfl) ?_
    refine va_get (D := (dC, dI)) (ci := 5) (v := .int 1) (C := mR_M) (T := mT_M) (N := 18) hx hb hg gu_M hown hK hP 0 rfl rfl 0 (by decide) (hg _ wd_532) (fun _ h9 => h9) rfl md_M_meet_30 ?_
    refine lv_if_ne (tgt := 49) hx hb md_M_meet_33 (by decide) (fun _ => ?_) (fun c2 => absurd c2 (by decide))
    refine lv_iconst (v := 0) hx hb md_M_meet_49 (by decide) ?_
    exact W.zret (v := 0) hx hb hr rfl (fun t ht hW => ⟨⟨0, (1), rfl, (by rw [fM_meet, if_pos c1]), by have h9 := hP; rw [← ht] at h9; exact h9⟩, hS.F ht⟩) hS.2.2 md_M_meet_50 hlocks
  · refine lv_iload_n hx hb md_M_meet_5 rfl (lv_at hl 1 rfl) ?_
    refine lv_bipush (v := 16) hx hb md_M_meet_6 (by decide) ?_
    refine lv_icmp_ge (tgt := 21) hx hb md_M_meet_8 (by decide) (fun c3 => ?_) (fun c3 => ?_)
    · refine lv_iconst (v := 1) hx hb md_M_meet_21 (by decide) ?_
      refine lv_goto (tgt := 26) hx hb md_M_meet_22 (by decide) ?_
      refine va_put (D := (dC, dI)) (ci := 5) (v := .int 1) (ty := .int) (C := mR_M) (T := mT_M) (N := 18) hx hb hg gu_M mF_M mO_M mN_M hown hK hP hD hS 0 rfl rfl 0 (by decide) (hg _ wd_532) (fun _ h9 => h9) rfl (by decide +kernel) rfl rfl (Nat.le_of_ble_eq_true rfl) md_M_meet_26 (fun H locs hP hD hS => ?_)
      have hP : va_P (dC, dI) mC [(nA, .inr (5, [.int 1, .ref nT, .int vs, .int va, .int vf, .int vr, .ref nO, .ref nU, .ref nV, .long vw, .long vh, .long vt, .long vd, .ref nX, .ref nY, .ref nR, .ref nC, .ref nS])), (nT, .inl (cI, 300, .inl gT)), (nO, .inl (cI, 128, .inl gO)), (nU, .inl (cI, 128, .inl gU)), (nV, .inl (cI, 16, .inl gV)), (nX, .inl (cJ, 16, .inr (.inl gX))), (nY, .inl (cJ, 16, .inr (.inl gY))), (nR, .inl (cJ, 16, .inr (.inl gR))), (nC, .inl (cI, 9, .inl gC)), (nS, .inl (cI, 9, .inl gS))] H := hP
      have hD : va_D A [(nA, .inr (5, [.int 1, .ref nT, .int vs, .int va, .int vf, .int vr, .ref nO, .ref nU, .ref nV, .long vw, .long vh, .long vt, .long vd, .ref nX, .ref nY, .ref nR, .ref nC, .ref nS])), (nT, .inl (cI, 300, .inl gT)), (nO, .inl (cI, 128, .inl gO)), (nU, .inl (cI, 128, .inl gU)), (nV, .inl (cI, 16, .inl gV)), (nX, .inl (cJ, 16, .inr (.inl gX))), (nY, .inl (cJ, 16, .inr (.inl gY))), (nR, .inl (cJ, 16, .inr (.inl gR))), (nC, .inl (cI, 9, .inl gC)), (nS, .inl (cI, 9, .inl gS))] := hD
      refine lv_aload_n hx hb md_M_meet_29 rfl (lv_at hl 0 rfl) ?_
      refine va_get (D := (dC, dI)) (ci := 5) (v := .int 1) (C := mR_M) (T := mT_M) (N := 18) hx hb hg gu_M hown hK hP 0 rfl rfl 0 (by decide) (hg _ wd_532) (fun _ h9 => h9) rfl md_M_meet_30 ?_
      refine lv_if_ne (tgt := 49) hx hb md_M_meet_33 (by decide) (fun _ => ?_) (fun c4 => absurd c4 (by decide))
      refine lv_iconst (v := 0) hx hb md_M_meet_49 (by decide) ?_
      exact W.zret (v := 0) hx hb hr rfl (fun t ht hW => ⟨⟨0, (1), rfl, (by rw [fM_meet, if_neg c1, if_pos c3]), by have h9 := hP; rw [← ht] at h9; exact h9⟩, hS.F ht⟩) hS.2.2 md_M_meet_50 hlocks
    · refine lv_iload_n hx hb md_M_meet_11 rfl (lv_at hl 2 rfl) ?_
      refine lv_if_lt (tgt := 21) hx hb md_M_meet_12 (by decide) (fun c5 => ?_) (fun c5 => ?_)
      · refine lv_iconst (v := 1) hx hb md_M_meet_21 (by decide) ?_
        refine lv_goto (tgt := 26) hx hb md_M_meet_22 (by decide) ?_
        refine va_put (D := (dC, dI)) (ci := 5) (v := .int 1) (ty := .int) (C := mR_M) (T := mT_M) (N := 18) hx hb hg gu_M mF_M mO_M mN_M hown hK hP hD hS 0 rfl rfl 0 (by decide) (hg _ wd_532) (fun _ h9 => h9) rfl (by decide +kernel) rfl rfl (Nat.le_of_ble_eq_true rfl) md_M_meet_26 (fun H locs hP hD hS => ?_)
        have hP : va_P (dC, dI) mC [(nA, .inr (5, [.int 1, .ref nT, .int vs, .int va, .int vf, .int vr, .ref nO, .ref nU, .ref nV, .long vw, .long vh, .long vt, .long vd, .ref nX, .ref nY, .ref nR, .ref nC, .ref nS])), (nT, .inl (cI, 300, .inl gT)), (nO, .inl (cI, 128, .inl gO)), (nU, .inl (cI, 128, .inl gU)), (nV, .inl (cI, 16, .inl gV)), (nX, .inl (cJ, 16, .inr (.inl gX))), (nY, .inl (cJ, 16, .inr (.inl gY))), (nR, .inl (cJ, 16, .inr (.inl gR))), (nC, .inl (cI, 9, .inl gC)), (nS, .inl (cI, 9, .inl gS))] H := hP
        have hD : va_D A [(nA, .inr (5, [.int 1, .ref nT, .int vs, .int va, .int vf, .int vr, .ref nO, .ref nU, .ref nV, .long vw, .long vh, .long vt, .long vd, .ref nX, .ref nY, .ref nR, .ref nC, .ref nS])), (nT, .inl (cI, 300, .inl gT)), (nO, .inl (cI, 128, .inl gO)), (nU, .inl (cI, 128, .inl gU)), (nV, .inl (cI, 16, .inl gV)), (nX, .inl (cJ, 16, .inr (.inl gX))), (nY, .inl (cJ, 16, .inr (.inl gY))), (nR, .inl (cJ, 16, .inr (.inl gR))), (nC, .inl (cI, 9, .inl gC)), (nS, .inl (cI, 9, .inl gS))] := hD
        refine lv_aload_n hx hb md_M_meet_29 rfl (lv_at hl 0 rfl) ?_
        refine va_get (D := (dC, dI)) (ci := 5) (v := .int 1) (C := mR_M) (T := mT_M) (N := 18) hx hb hg gu_M hown hK hP 0 rfl rfl 0 (by decide) (hg _ wd_532) (fun _ h9 => h9) rfl md_M_meet_30 ?_
        refine lv_if_ne (tgt := 49) hx hb md_M_meet_33 (by decide) (fun _ => ?_) (fun c6 => absurd c6 (by decide))
        refine lv_iconst (v := 0) hx hb md_M_meet_49 (by decide) ?_
        exact W.zret (v := 0) hx hb hr rfl (fun t ht hW => ⟨⟨0, (1), rfl, (by rw [fM_meet, if_neg c1, if_neg c3, if_pos c5]), by have h9 := hP; rw [← ht] at h9; exact h9⟩, hS.F ht⟩) hS.2.2 md_M_meet_50 hlocks
      · refine lv_iload_n hx hb md_M_meet_15 rfl (lv_at hl 2 rfl) ?_
        refine lv_bipush (v := 16) hx hb md_M_meet_16 (by decide) ?_
        refine lv_icmp_lt (tgt := 25) hx hb md_M_meet_18 (by decide) (fun c7 => ?_) (fun c7 => ?_)
        · have ha := nx_mh c1 c3
          have hb9 := nx_mh2 c5 c7
          refine lv_iconst (v := 0) hx hb md_M_meet_25 (by decide) ?_
          refine va_put (D := (dC, dI)) (ci := 5) (v := .int 0) (ty := .int) (C := mR_M) (T := mT_M) (N := 18) hx hb hg gu_M mF_M mO_M mN_M hown hK hP hD hS 0 rfl rfl 0 (by decide) (hg _ wd_532) (fun _ h9 => h9) rfl (by decide +kernel) rfl rfl (Nat.le_of_ble_eq_true rfl) md_M_meet_26 (fun H locs hP hD hS => ?_)
          have hP : va_P (dC, dI) mC [(nA, .inr (5, [.int 0, .ref nT, .int vs, .int va, .int vf, .int vr, .ref nO, .ref nU, .ref nV, .long vw, .long vh, .long vt, .long vd, .ref nX, .ref nY, .ref nR, .ref nC, .ref nS])), (nT, .inl (cI, 300, .inl gT)), (nO, .inl (cI, 128, .inl gO)), (nU, .inl (cI, 128, .inl gU)), (nV, .inl (cI, 16, .inl gV)), (nX, .inl (cJ, 16, .inr (.inl gX))), (nY, .inl (cJ, 16, .inr (.inl gY))), (nR, .inl (cJ, 16, .inr (.inl gR))), (nC, .inl (cI, 9, .inl gC)), (nS, .inl (cI, 9, .inl gS))] H := hP
          have hD : va_D A [(nA, .inr (5, [.int 0, .ref nT, .int vs, .int va, .int vf, .int vr, .ref nO, .ref nU, .ref nV, .long vw, .long vh, .long vt, .long vd, .ref nX, .ref nY, .ref nR, .ref nC, .ref nS])), (nT, .inl (cI, 300, .inl gT)), (nO, .inl (cI, 128, .inl gO)), (nU, .inl (cI, 128, .inl gU)), (nV, .inl (cI, 16, .inl gV)), (nX, .inl (cJ, 16, .inr (.inl gX))), (nY, .inl (cJ, 16, .inr (.inl gY))), (nR, .inl (cJ, 16, .inr (.inl gR))), (nC, .inl (cI, 9, .inl gC)), (nS, .inl (cI, 9, .inl gS))] := hD
          refine lv_aload_n hx hb md_M_meet_29 rfl (lv_at hl 0 rfl) ?_
          refine va_get (D := (dC, dI)) (ci := 5) (v := .int 0) (C := mR_M) (T := mT_M) (N := 18) hx hb hg gu_M hown hK hP 0 rfl rfl 0 (by decide) (hg _ wd_532) (fun _ h9 => h9) rfl md_M_meet_30 ?_
          refine lv_if_ne (tgt := 49) hx hb md_M_meet_33 (by decide) (fun c8 => absurd (by decide) c8) (fun _ => ?_)
          refine lv_aload_n hx hb md_M_meet_36 rfl (lv_at hl 0 rfl) ?_
          refine lv_iload_n hx hb md_M_meet_37 rfl (lv_at hl 1 rfl) ?_
          refine lv_iload_n hx hb md_M_meet_38 rfl (lv_at hl 2 rfl) ?_
          have hPc9 := hP.sub (ws' := [(nA, .inr (5, [.int 0, .ref nT, .int vs, .int va, .int vf, .int vr, .ref nO, .ref nU, .ref nV, .long vw, .long vh, .long vt, .long vd, .ref nX, .ref nY, .ref nR, .ref nC, .ref nS])), (nT, .inl (cI, 300, .inl gT)), (nO, .inl (cI, 128, .inl gO)), (nU, .inl (cI, 128, .inl gU)), (nV, .inl (cI, 16, .inl gV)), (nX, .inl (cJ, 16, .inr (.inl gX))), (nY, .inl (cJ, 16, .inr (.inl gY))), (nR, .inl (cJ, 16, .inr (.inl gR))), (nC, .inl (cI, 9, .inl gC)), (nS, .inl (cI, 9, .inl gS))]) [0, 1, 2, 3, 4, 5, 6, 7, 8, 9] rfl
          refine pu_i (W.runV (As := [.int a, .int b]) (rest := []) ⟨hx, hb, hml, hown, hg⟩ (ct_M_meets l dC dI cC cI cJ nA nT nO nU nV nX nY nR nC nS gT gO gU gV gX gY gR gC gS 0 vs va vf vr vw vh vt vd a b ha hb9) (gw_cwV hg wd_705 mv_M_meets rfl rfl ⟨Nat.le_of_ble_eq_true rfl, Nat.le_of_ble_eq_true rfl⟩) (pu_preV (ci := 5) (q0 := 0) pu_blT hK hPc9 pu_e1 rfl rfl) rfl rfl hl.1 rfl (lv_room (Nat.le_of_ble_eq_true rfl)) md_M_meet_39 ⟨Nat.zero_le _, Nat.zero_le _⟩) ?_
          refine lv_if_eq (tgt := 49) hx hb md_M_meet_42 (by decide) (fun c10 => ?_) (fun c10 => ?_)
          · refine lv_iconst (v := 0) hx hb md_M_meet_49 (by decide) ?_
            exact W.zret (v := 0) hx hb hr rfl (fun t ht hW => ⟨⟨0, (0), rfl, (by rw [fM_meet, if_neg c1, if_neg c3, if_neg c5, if_pos c7, if_pos c10]), by have h9 := hP; rw [← ht] at h9; exact h9⟩, hS.F ht⟩) hS.2.2 md_M_meet_50 hlocks
          · refine lv_iconst (v := 1) hx hb md_M_meet_45 (by decide) ?_
            refine lv_goto (tgt := 50) hx hb md_M_meet_46 (by decide) ?_
            exact W.zret (v := 1) hx hb hr rfl (fun t ht hW => ⟨⟨1, (0), rfl, (by rw [fM_meet, if_neg c1, if_neg c3, if_neg c5, if_pos c7, if_neg c10]), by have h9 := hP; rw [← ht] at h9; exact h9⟩, hS.F ht⟩) hS.2.2 md_M_meet_50 hlocks
        · refine lv_iconst (v := 1) hx hb md_M_meet_21 (by decide) ?_
          refine lv_goto (tgt := 26) hx hb md_M_meet_22 (by decide) ?_
          refine va_put (D := (dC, dI)) (ci := 5) (v := .int 1) (ty := .int) (C := mR_M) (T := mT_M) (N := 18) hx hb hg gu_M mF_M mO_M mN_M hown hK hP hD hS 0 rfl rfl 0 (by decide) (hg _ wd_532) (fun _ h9 => h9) rfl (by decide +kernel) rfl rfl (Nat.le_of_ble_eq_true rfl) md_M_meet_26 (fun H locs hP hD hS => ?_)
          have hP : va_P (dC, dI) mC [(nA, .inr (5, [.int 1, .ref nT, .int vs, .int va, .int vf, .int vr, .ref nO, .ref nU, .ref nV, .long vw, .long vh, .long vt, .long vd, .ref nX, .ref nY, .ref nR, .ref nC, .ref nS])), (nT, .inl (cI, 300, .inl gT)), (nO, .inl (cI, 128, .inl gO)), (nU, .inl (cI, 128, .inl gU)), (nV, .inl (cI, 16, .inl gV)), (nX, .inl (cJ, 16, .inr (.inl gX))), (nY, .inl (cJ, 16, .inr (.inl gY))), (nR, .inl (cJ, 16, .inr (.inl gR))), (nC, .inl (cI, 9, .inl gC)), (nS, .inl (cI, 9, .inl gS))] H := hP
          have hD : va_D A [(nA, .inr (5, [.int 1, .ref nT, .int vs, .int va, .int vf, .int vr, .ref nO, .ref nU, .ref nV, .long vw, .long vh, .long vt, .long vd, .ref nX, .ref nY, .ref nR, .ref nC, .ref nS])), (nT, .inl (cI, 300, .inl gT)), (nO, .inl (cI, 128, .inl gO)), (nU, .inl (cI, 128, .inl gU)), (nV, .inl (cI, 16, .inl gV)), (nX, .inl (cJ, 16, .inr (.inl gX))), (nY, .inl (cJ, 16, .inr (.inl gY))), (nR, .inl (cJ, 16, .inr (.inl gR))), (nC, .inl (cI, 9, .inl gC)), (nS, .inl (cI, 9, .inl gS))] := hD
          refine lv_aload_n hx hb md_M_meet_29 rfl (lv_at hl 0 rfl) ?_
          refine va_get (D := (dC, dI)) (ci := 5) (v := .int 1) (C := mR_M) (T := mT_M) (N := 18) hx hb hg gu_M hown hK hP 0 rfl rfl 0 (by decide) (hg _ wd_532) (fun _ h9 => h9) rfl md_M_meet_30 ?_
          refine lv_if_ne (tgt := 49) hx hb md_M_meet_33 (by decide) (fun _ => ?_) (fun c11 => absurd c11 (by decide))
          refine lv_iconst (v := 0) hx hb md_M_meet_49 (by decide) ?_
          exact W.zret (v := 0) hx hb hr rfl (fun t ht hW => ⟨⟨0, (1), rfl, (by rw [fM_meet, if_neg c1, if_neg c3, if_neg c5, if_neg c7]), by have h9 := hP; rw [← ht] at h9; exact h9⟩, hS.F ht⟩) hS.2.2 md_M_meet_50 hlocks

def fM_corner (gC : Nat → Int32) (gS : Nat → Int32) (vw : Int64) (vt : Int64) (corner : Int32) (turn : Int32) (axis : Int32) : Int64 × Int32 := if corner < 0 then (0, 1) else (if 3 < corner then (0, 1) else (if turn < 0 then (0, 1) else (if 8 < turn then (0, 1) else (if axis < 0 then (0, 1) else (if axis ≤ 1 then (fM_placeOf gC gS vw vt corner turn axis, 0) else (0, 1))))))
set_option maxHeartbeats 1000000 in
set_option maxRecDepth 100000 in
theorem ct_M_corner (l : Launch) (dC : Nat → ClassId) (dI : Nat → Nat → Nat) (cC cI cJ : ClassId) (nA : Nat) (nT : Nat) (nO : Nat) (nU : Nat) (nV : Nat) (nX : Nat) (nY : Nat) (nR : Nat) (nC : Nat) (nS : Nat) (gT : Nat → Int32) (gO : Nat → Int32) (gU : Nat → Int32) (gV : Nat → Int32) (gX : Nat → Int64) (gY : Nat → Int64) (gR : Nat → Int64) (gC : Nat → Int32) (gS : Nat → Int32) (vc : Int32) (vs : Int32) (va : Int32) (vf : Int32) (vr : Int32) (vw : Int64) (vh : Int64) (vt : Int64) (vd : Int64) (corner : Int32) (turn : Int32) (axis : Int32)   : Met l my_M_corner (.code my_M_corner mb_M_corner 4 (some .long) :: gw_l) ({ frames := 1, cells := 0, slots := 0, locals := 27 }) (mu_Pc (dC, dI) mC [(cC, .char), (cI, .int), (cJ, .long)] [(nA, .inr (5, [.int vc, .ref nT, .int vs, .int va, .int vf, .int vr, .ref nO, .ref nU, .ref nV, .long vw, .long vh, .long vt, .long vd, .ref nX, .ref nY, .ref nR, .ref nC, .ref nS])), (nT, .inl (cI, 300, .inl gT)), (nO, .inl (cI, 128, .inl gO)), (nU, .inl (cI, 128, .inl gU)), (nV, .inl (cI, 16, .inl gV)), (nX, .inl (cJ, 16, .inr (.inl gX))), (nY, .inl (cJ, 16, .inr (.inl gY))), (nR, .inl (cJ, 16, .inr (.inl gR))), (nC, .inl (cI, 9, .inl gC)), (nS, .inl (cI, 9, .inl gS))] (fun _ => True) [.ref nA, .int corner, .int turn, .int axis]) (va_Ql (fun (r : Int64) (u : Int32) => (r, u) = fM_corner gC gS vw vt corner turn axis) (fun u t => va_P (dC, dI) mC [(nA, .inr (5, [.int u, .ref nT, .int vs, .int va, .int vf, .int vr, .ref nO, .ref nU, .ref nV, .long vw, .long vh, .long vt, .long vd, .ref nX, .ref nY, .ref nR, .ref nC, .ref nS])), (nT, .inl (cI, 300, .inl gT)), (nO, .inl (cI, 128, .inl gO)), (nU, .inl (cI, 128, .inl gU)), (nV, .inl (cI, 16, .inl gV)), (nX, .inl (cJ, 16, .inr (.inl gX))), (nY, .inl (cJ, 16, .inr (.inl gY))), (nR, .inl (cJ, 16, .inr (.inl gR))), (nC, .inl (cI, 9, .inl gC)), (nS, .inl (cI, 9, .inl gS))] t.heap) (mu_A [(nA, .inr (5, [.int vc, .ref nT, .int vs, .int va, .int vf, .int vr, .ref nO, .ref nU, .ref nV, .long vw, .long vh, .long vt, .long vd, .ref nX, .ref nY, .ref nR, .ref nC, .ref nS])), (nT, .inl (cI, 300, .inl gT)), (nO, .inl (cI, 128, .inl gO)), (nU, .inl (cI, 128, .inl gU)), (nV, .inl (cI, 16, .inl gV)), (nX, .inl (cJ, 16, .inr (.inl gX))), (nY, .inl (cJ, 16, .inr (.inl gY))), (nR, .inl (cJ, 16, .inr (.inl gR))), (nC, .inl (cI, 9, .inl gC)), (nS, .inl (cI, 9, .inl gS))])) 0 0 (mu_A [(nA, .inr (5, [.int vc, .ref nT, .int vs, .int va, .int vf, .int vr, .ref nO, .ref nU, .ref nV, .long vw, .long vh, .long vt, .long vd, .ref nX, .ref nY, .ref nR, .ref nC, .ref nS])), (nT, .inl (cI, 300, .inl gT)), (nO, .inl (cI, 128, .inl gO)), (nU, .inl (cI, 128, .inl gU)), (nV, .inl (cI, 16, .inl gV)), (nX, .inl (cJ, 16, .inr (.inl gX))), (nY, .inl (cJ, 16, .inr (.inl gY))), (nR, .inl (cJ, 16, .inr (.inl gR))), (nC, .inl (cI, 9, .inl gC)), (nS, .inl (cI, 9, .inl gS))]) := by
  refine Met.ofW (cc := mb_M_corner) (maxL := 4) (ret := (some .long)) (by decide) rfl ?_
  intro p e s m args below meth c s₁ B hml hv
  obtain ⟨rfl, hP, hK, hD0, hE⟩ := hv
  have hx := B.exec
  have hb := B.bytes
  have hr := B.returns
  have hts := atoms_spec (ws := (.code my_M_corner mb_M_corner 4 (some .long) :: gw_l)) B.pre
  have hg : ∀ w ∈ gw_l, w.before _ s = true := fun w h => hts w (List.mem_cons_of_mem _ h)
  have hown : s.vm.findClass mR_M = some m.cls := findClass_of_methodNamed B.named
  have hlocks := B.notSynchronized
  have hD := mu_self hD0
  have hS : va_S (mu_A [(nA, .inr (5, [.int vc, .ref nT, .int vs, .int va, .int vf, .int vr, .ref nO, .ref nU, .ref nV, .long vw, .long vh, .long vt, .long vd, .ref nX, .ref nY, .ref nR, .ref nC, .ref nS])), (nT, .inl (cI, 300, .inl gT)), (nO, .inl (cI, 128, .inl gO)), (nU, .inl (cI, 128, .inl gU)), (nV, .inl (cI, 16, .inl gV)), (nX, .inl (cJ, 16, .inr (.inl gX))), (nY, .inl (cJ, 16, .inr (.inl gY))), (nR, .inl (cJ, 16, .inr (.inl gR))), (nC, .inl (cI, 9, .inl gC)), (nS, .inl (cI, 9, .inl gS))]) s.heap s.heap [] := va_S.rf
  generalize hAe : mu_A [(nA, .inr (5, [.int vc, .ref nT, .int vs, .int va, .int vf, .int vr, .ref nO, .ref nU, .ref nV, .long vw, .long vh, .long vt, .long vd, .ref nX, .ref nY, .ref nR, .ref nC, .ref nS])), (nT, .inl (cI, 300, .inl gT)), (nO, .inl (cI, 128, .inl gO)), (nU, .inl (cI, 128, .inl gU)), (nV, .inl (cI, 16, .inl gV)), (nX, .inl (cJ, 16, .inr (.inl gX))), (nY, .inl (cJ, 16, .inr (.inl gY))), (nR, .inl (cJ, 16, .inr (.inl gR))), (nC, .inl (cI, 9, .inl gC)), (nS, .inl (cI, 9, .inl gS))] = A at hD hS ⊢
  have hl := lv_entry ([.ref nA, .int corner, .int turn, .int axis]) (n := 4) (Nat.le_of_ble_eq_true rfl)
  rw [lg_entry_eq]
  generalize (lg_sl ([.ref nA, .int corner, .int turn, .int axis]) ++ List.replicate (4 - (lg_sl ([.ref nA, .int corner, .int turn, .int axis])).length) Slot.unset).toArray = ls at hl ⊢
  have hl : lv_has ls 4 [(0, .ref nA), (1, .int corner), (2, .int turn), (3, .int axis)] := hl
  refine lv_aload_n hx hb md_M_corner_0 rfl (lv_at hl 0 rfl) ?_
  refine lv_iload_n hx hb md_M_corner_1 rfl (lv_at hl 1 rfl) ?_
  refine lv_if_lt (tgt := 29) hx hb md_M_corner_2 (by decide) (fun c1 => ?_) (fun c1 => ?_)
  · refine lv_iconst (v := 1) hx hb md_M_corner_29 (by decide) ?_
    refine lv_goto (tgt := 34) hx hb md_M_corner_30 (by decide) ?_
    refine va_put (D := (dC, dI)) (ci := 5) (v := .int 1) (ty := .int) (C := mR_M) (T := mT_M) (N := 18) hx hb hg gu_M mF_M mO_M mN_M hown hK hP hD hS 0 rfl rfl 0 (by decide) (hg _ wd_532) (fun _ h9 => h9) rfl (by decide +kernel) rfl rfl (Nat.le_of_ble_eq_true rfl) md_M_corner_34 (fun H locs hP hD hS => ?_)
    have hP : va_P (dC, dI) mC [(nA, .inr (5, [.int 1, .ref nT, .int vs, .int va, .int vf, .int vr, .ref nO, .ref nU, .ref nV, .long vw, .long vh, .long vt, .long vd, .ref nX, .ref nY, .ref nR, .ref nC, .ref nS])), (nT, .inl (cI, 300, .inl gT)), (nO, .inl (cI, 128, .inl gO)), (nU, .inl (cI, 128, .inl gU)), (nV, .inl (cI, 16, .inl gV)), (nX, .inl (cJ, 16, .inr (.inl gX))), (nY, .inl (cJ, 16, .inr (.inl gY))), (nR, .inl (cJ, 16, .inr (.inl gR))), (nC, .inl (cI, 9, .inl gC)), (nS, .inl (cI, 9, .inl gS))] H := hP
    have hD : va_D A [(nA, .inr (5, [.int 1, .ref nT, .int vs, .int va, .int vf, .int vr, .ref nO, .ref nU, .ref nV, .long vw, .long vh, .long vt, .long vd, .ref nX, .ref nY, .ref nR, .ref nC, .ref nS])), (nT, .inl (cI, 300, .inl gT)), (nO, .inl (cI, 128, .inl gO)), (nU, .inl (cI, 128, .inl gU)), (nV, .inl (cI, 16, .inl gV)), (nX, .inl (cJ, 16, .inr (.inl gX))), (nY, .inl (cJ, 16, .inr (.inl gY))), (nR, .inl (cJ, 16, .inr (.inl gR))), (nC, .inl (cI, 9, .inl gC)), (nS, .inl (cI, 9, .inl gS))] := hD
    refine lv_aload_n hx hb md_M_corner_37 rfl (lv_at hl 0 rfl) ?_
    refine va_get (D := (dC, dI)) (ci := 5) (v := .int 1) (C := mR_M) (T := mT_M) (N := 18) hx hb hg gu_M hown hK hP 0 rfl rfl 0 (by decide) (hg _ wd_532) (fun _ h9 => h9) rfl md_M_corner_38 ?_
    refine lv_if_le (tgt := 48) hx hb md_M_corner_41 (by decide) (fun c2 => absurd c2 (by decide)) (fun _ => ?_)
    refine lv_lconst (v := 0) hx hb md_M_corner_44 (by decide) ?_
    refine lv_goto (tgt := 55) hx hb md_M_corner_45 (by decide) ?_
    exact W.lret (v := 0) hx hb hr (fun t ht hW => ⟨⟨0, (1), rfl, (by rw [fM_corner, if_pos c1]), by have h9 := hP; rw [← ht] at h9; exact h9⟩, hS.F ht⟩) hS.2.2 md_M_corner_55 hlocks
  · refine lv_iload_n hx hb md_M_corner_5 rfl (lv_at hl 1 rfl) ?_
    refine lv_iconst (v := 3) hx hb md_M_corner_6 (by decide) ?_
    refine lv_icmp_gt (tgt := 29) hx hb md_M_corner_7 (by decide) (fun c3 => ?_) (fun c3 => ?_)
    · refine lv_iconst (v := 1) hx hb md_M_corner_29 (by decide) ?_
      refine lv_goto (tgt := 34) hx hb md_M_corner_30 (by decide) ?_
      refine va_put (D := (dC, dI)) (ci := 5) (v := .int 1) (ty := .int) (C := mR_M) (T := mT_M) (N := 18) hx hb hg gu_M mF_M mO_M mN_M hown hK hP hD hS 0 rfl rfl 0 (by decide) (hg _ wd_532) (fun _ h9 => h9) rfl (by decide +kernel) rfl rfl (Nat.le_of_ble_eq_true rfl) md_M_corner_34 (fun H locs hP hD hS => ?_)
      have hP : va_P (dC, dI) mC [(nA, .inr (5, [.int 1, .ref nT, .int vs, .int va, .int vf, .int vr, .ref nO, .ref nU, .ref nV, .long vw, .long vh, .long vt, .long vd, .ref nX, .ref nY, .ref nR, .ref nC, .ref nS])), (nT, .inl (cI, 300, .inl gT)), (nO, .inl (cI, 128, .inl gO)), (nU, .inl (cI, 128, .inl gU)), (nV, .inl (cI, 16, .inl gV)), (nX, .inl (cJ, 16, .inr (.inl gX))), (nY, .inl (cJ, 16, .inr (.inl gY))), (nR, .inl (cJ, 16, .inr (.inl gR))), (nC, .inl (cI, 9, .inl gC)), (nS, .inl (cI, 9, .inl gS))] H := hP
      have hD : va_D A [(nA, .inr (5, [.int 1, .ref nT, .int vs, .int va, .int vf, .int vr, .ref nO, .ref nU, .ref nV, .long vw, .long vh, .long vt, .long vd, .ref nX, .ref nY, .ref nR, .ref nC, .ref nS])), (nT, .inl (cI, 300, .inl gT)), (nO, .inl (cI, 128, .inl gO)), (nU, .inl (cI, 128, .inl gU)), (nV, .inl (cI, 16, .inl gV)), (nX, .inl (cJ, 16, .inr (.inl gX))), (nY, .inl (cJ, 16, .inr (.inl gY))), (nR, .inl (cJ, 16, .inr (.inl gR))), (nC, .inl (cI, 9, .inl gC)), (nS, .inl (cI, 9, .inl gS))] := hD
      refine lv_aload_n hx hb md_M_corner_37 rfl (lv_at hl 0 rfl) ?_
      refine va_get (D := (dC, dI)) (ci := 5) (v := .int 1) (C := mR_M) (T := mT_M) (N := 18) hx hb hg gu_M hown hK hP 0 rfl rfl 0 (by decide) (hg _ wd_532) (fun _ h9 => h9) rfl md_M_corner_38 ?_
      refine lv_if_le (tgt := 48) hx hb md_M_corner_41 (by decide) (fun c4 => absurd c4 (by decide)) (fun _ => ?_)
      refine lv_lconst (v := 0) hx hb md_M_corner_44 (by decide) ?_
      refine lv_goto (tgt := 55) hx hb md_M_corner_45 (by decide) ?_
      exact W.lret (v := 0) hx hb hr (fun t ht hW => ⟨⟨0, (1), rfl, (by rw [fM_corner, if_neg c1, if_pos c3]), by have h9 := hP; rw [← ht] at h9; exact h9⟩, hS.F ht⟩) hS.2.2 md_M_corner_55 hlocks
    · refine lv_iload_n hx hb md_M_corner_10 rfl (lv_at hl 2 rfl) ?_
      refine lv_if_lt (tgt := 29) hx hb md_M_corner_11 (by decide) (fun c5 => ?_) (fun c5 => ?_)
      · refine lv_iconst (v := 1) hx hb md_M_corner_29 (by decide) ?_
        refine lv_goto (tgt := 34) hx hb md_M_corner_30 (by decide) ?_
        refine va_put (D := (dC, dI)) (ci := 5) (v := .int 1) (ty := .int) (C := mR_M) (T := mT_M) (N := 18) hx hb hg gu_M mF_M mO_M mN_M hown hK hP hD hS 0 rfl rfl 0 (by decide) (hg _ wd_532) (fun _ h9 => h9) rfl (by decide +kernel) rfl rfl (Nat.le_of_ble_eq_true rfl) md_M_corner_34 (fun H locs hP hD hS => ?_)
        have hP : va_P (dC, dI) mC [(nA, .inr (5, [.int 1, .ref nT, .int vs, .int va, .int vf, .int vr, .ref nO, .ref nU, .ref nV, .long vw, .long vh, .long vt, .long vd, .ref nX, .ref nY, .ref nR, .ref nC, .ref nS])), (nT, .inl (cI, 300, .inl gT)), (nO, .inl (cI, 128, .inl gO)), (nU, .inl (cI, 128, .inl gU)), (nV, .inl (cI, 16, .inl gV)), (nX, .inl (cJ, 16, .inr (.inl gX))), (nY, .inl (cJ, 16, .inr (.inl gY))), (nR, .inl (cJ, 16, .inr (.inl gR))), (nC, .inl (cI, 9, .inl gC)), (nS, .inl (cI, 9, .inl gS))] H := hP
        have hD : va_D A [(nA, .inr (5, [.int 1, .ref nT, .int vs, .int va, .int vf, .int vr, .ref nO, .ref nU, .ref nV, .long vw, .long vh, .long vt, .long vd, .ref nX, .ref nY, .ref nR, .ref nC, .ref nS])), (nT, .inl (cI, 300, .inl gT)), (nO, .inl (cI, 128, .inl gO)), (nU, .inl (cI, 128, .inl gU)), (nV, .inl (cI, 16, .inl gV)), (nX, .inl (cJ, 16, .inr (.inl gX))), (nY, .inl (cJ, 16, .inr (.inl gY))), (nR, .inl (cJ, 16, .inr (.inl gR))), (nC, .inl (cI, 9, .inl gC)), (nS, .inl (cI, 9, .inl gS))] := hD
        refine lv_aload_n hx hb md_M_corner_37 rfl (lv_at hl 0 rfl) ?_
        refine va_get (D := (dC, dI)) (ci := 5) (v := .int 1) (C := mR_M) (T := mT_M) (N := 18) hx hb hg gu_M hown hK hP 0 rfl rfl 0 (by decide) (hg _ wd_532) (fun _ h9 => h9) rfl md_M_corner_38 ?_
        refine lv_if_le (tgt := 48) hx hb md_M_corner_41 (by decide) (fun c6 => absurd c6 (by decide)) (fun _ => ?_)
        refine lv_lconst (v := 0) hx hb md_M_corner_44 (by decide) ?_
        refine lv_goto (tgt := 55) hx hb md_M_corner_45 (by decide) ?_
        exact W.lret (v := 0) hx hb hr (fun t ht hW => ⟨⟨0, (1), rfl, (by rw [fM_corner, if_neg c1, if_neg c3, if_pos c5]), by have h9 := hP; rw [← ht] at h9; exact h9⟩, hS.F ht⟩) hS.2.2 md_M_corner_55 hlocks
      · refine lv_iload_n hx hb md_M_corner_14 rfl (lv_at hl 2 rfl) ?_
        refine lv_bipush (v := 8) hx hb md_M_corner_15 (by decide) ?_
        refine lv_icmp_gt (tgt := 29) hx hb md_M_corner_17 (by decide) (fun c7 => ?_) (fun c7 => ?_)
        · refine lv_iconst (v := 1) hx hb md_M_corner_29 (by decide) ?_
          refine lv_goto (tgt := 34) hx hb md_M_corner_30 (by decide) ?_
          refine va_put (D := (dC, dI)) (ci := 5) (v := .int 1) (ty := .int) (C := mR_M) (T := mT_M) (N := 18) hx hb hg gu_M mF_M mO_M mN_M hown hK hP hD hS 0 rfl rfl 0 (by decide) (hg _ wd_532) (fun _ h9 => h9) rfl (by decide +kernel) rfl rfl (Nat.le_of_ble_eq_true rfl) md_M_corner_34 (fun H locs hP hD hS => ?_)
          have hP : va_P (dC, dI) mC [(nA, .inr (5, [.int 1, .ref nT, .int vs, .int va, .int vf, .int vr, .ref nO, .ref nU, .ref nV, .long vw, .long vh, .long vt, .long vd, .ref nX, .ref nY, .ref nR, .ref nC, .ref nS])), (nT, .inl (cI, 300, .inl gT)), (nO, .inl (cI, 128, .inl gO)), (nU, .inl (cI, 128, .inl gU)), (nV, .inl (cI, 16, .inl gV)), (nX, .inl (cJ, 16, .inr (.inl gX))), (nY, .inl (cJ, 16, .inr (.inl gY))), (nR, .inl (cJ, 16, .inr (.inl gR))), (nC, .inl (cI, 9, .inl gC)), (nS, .inl (cI, 9, .inl gS))] H := hP
          have hD : va_D A [(nA, .inr (5, [.int 1, .ref nT, .int vs, .int va, .int vf, .int vr, .ref nO, .ref nU, .ref nV, .long vw, .long vh, .long vt, .long vd, .ref nX, .ref nY, .ref nR, .ref nC, .ref nS])), (nT, .inl (cI, 300, .inl gT)), (nO, .inl (cI, 128, .inl gO)), (nU, .inl (cI, 128, .inl gU)), (nV, .inl (cI, 16, .inl gV)), (nX, .inl (cJ, 16, .inr (.inl gX))), (nY, .inl (cJ, 16, .inr (.inl gY))), (nR, .inl (cJ, 16, .inr (.inl gR))), (nC, .inl (cI, 9, .inl gC)), (nS, .inl (cI, 9, .inl gS))] := hD
          refine lv_aload_n hx hb md_M_corner_37 rfl (lv_at hl 0 rfl) ?_
          refine va_get (D := (dC, dI)) (ci := 5) (v := .int 1) (C := mR_M) (T := mT_M) (N := 18) hx hb hg gu_M hown hK hP 0 rfl rfl 0 (by decide) (hg _ wd_532) (fun _ h9 => h9) rfl md_M_corner_38 ?_
          refine lv_if_le (tgt := 48) hx hb md_M_corner_41 (by decide) (fun c8 => absurd c8 (by decide)) (fun _ => ?_)
          refine lv_lconst (v := 0) hx hb md_M_corner_44 (by decide) ?_
          refine lv_goto (tgt := 55) hx hb md_M_corner_45 (by decide) ?_
          exact W.lret (v := 0) hx hb hr (fun t ht hW => ⟨⟨0, (1), rfl, (by rw [fM_corner, if_neg c1, if_neg c3, if_neg c5, if_pos c7]), by have h9 := hP; rw [← ht] at h9; exact h9⟩, hS.F ht⟩) hS.2.2 md_M_corner_55 hlocks
        · refine lv_iload_n hx hb md_M_corner_20 rfl (lv_at hl 3 rfl) ?_
          refine lv_if_lt (tgt := 29) hx hb md_M_corner_21 (by decide) (fun c9 => ?_) (fun c9 => ?_)
          · refine lv_iconst (v := 1) hx hb md_M_corner_29 (by decide) ?_
            refine lv_goto (tgt := 34) hx hb md_M_corner_30 (by decide) ?_
            refine va_put (D := (dC, dI)) (ci := 5) (v := .int 1) (ty := .int) (C := mR_M) (T := mT_M) (N := 18) hx hb hg gu_M mF_M mO_M mN_M hown hK hP hD hS 0 rfl rfl 0 (by decide) (hg _ wd_532) (fun _ h9 => h9) rfl (by decide +kernel) rfl rfl (Nat.le_of_ble_eq_true rfl) md_M_corner_34 (fun H locs hP hD hS => ?_)
            have hP : va_P (dC, dI) mC [(nA, .inr (5, [.int 1, .ref nT, .int vs, .int va, .int vf, .int vr, .ref nO, .ref nU, .ref nV, .long vw, .long vh, .long vt, .long vd, .ref nX, .ref nY, .ref nR, .ref nC, .ref nS])), (nT, .inl (cI, 300, .inl gT)), (nO, .inl (cI, 128, .inl gO)), (nU, .inl (cI, 128, .inl gU)), (nV, .inl (cI, 16, .inl gV)), (nX, .inl (cJ, 16, .inr (.inl gX))), (nY, .inl (cJ, 16, .inr (.inl gY))), (nR, .inl (cJ, 16, .inr (.inl gR))), (nC, .inl (cI, 9, .inl gC)), (nS, .inl (cI, 9, .inl gS))] H := hP
            have hD : va_D A [(nA, .inr (5, [.int 1, .ref nT, .int vs, .int va, .int vf, .int vr, .ref nO, .ref nU, .ref nV, .long vw, .long vh, .long vt, .long vd, .ref nX, .ref nY, .ref nR, .ref nC, .ref nS])), (nT, .inl (cI, 300, .inl gT)), (nO, .inl (cI, 128, .inl gO)), (nU, .inl (cI, 128, .inl gU)), (nV, .inl (cI, 16, .inl gV)), (nX, .inl (cJ, 16, .inr (.inl gX))), (nY, .inl (cJ, 16, .inr (.inl gY))), (nR, .inl (cJ, 16, .inr (.inl gR))), (nC, .inl (cI, 9, .inl gC)), (nS, .inl (cI, 9, .inl gS))] := hD
            refine lv_aload_n hx hb md_M_corner_37 rfl (lv_at hl 0 rfl) ?_
            refine va_get (D := (dC, dI)) (ci := 5) (v := .int 1) (C := mR_M) (T := mT_M) (N := 18) hx hb hg gu_M hown hK hP 0 rfl rfl 0 (by decide) (hg _ wd_532) (fun _ h9 => h9) rfl md_M_corner_38 ?_
            refine lv_if_le (tgt := 48) hx hb md_M_corner_41 (by decide) (fun c10 => absurd c10 (by decide)) (fun _ => ?_)
            refine lv_lconst (v := 0) hx hb md_M_corner_44 (by decide) ?_
            refine lv_goto (tgt := 55) hx hb md_M_corner_45 (by decide) ?_
            exact W.lret (v := 0) hx hb hr (fun t ht hW => ⟨⟨0, (1), rfl, (by rw [fM_corner, if_neg c1, if_neg c3, if_neg c5, if_neg c7, if_pos c9]), by have h9 := hP; rw [← ht] at h9; exact h9⟩, hS.F ht⟩) hS.2.2 md_M_corner_55 hlocks
          · refine lv_iload_n hx hb md_M_corner_24 rfl (lv_at hl 3 rfl) ?_
            refine lv_iconst (v := 1) hx hb md_M_corner_25 (by decide) ?_
            refine lv_icmp_le (tgt := 33) hx hb md_M_corner_26 (by decide) (fun c11 => ?_) (fun c11 => ?_)
            · have ht := nx_mt c5 c7
              refine lv_iconst (v := 0) hx hb md_M_corner_33 (by decide) ?_
              refine va_put (D := (dC, dI)) (ci := 5) (v := .int 0) (ty := .int) (C := mR_M) (T := mT_M) (N := 18) hx hb hg gu_M mF_M mO_M mN_M hown hK hP hD hS 0 rfl rfl 0 (by decide) (hg _ wd_532) (fun _ h9 => h9) rfl (by decide +kernel) rfl rfl (Nat.le_of_ble_eq_true rfl) md_M_corner_34 (fun H locs hP hD hS => ?_)
              have hP : va_P (dC, dI) mC [(nA, .inr (5, [.int 0, .ref nT, .int vs, .int va, .int vf, .int vr, .ref nO, .ref nU, .ref nV, .long vw, .long vh, .long vt, .long vd, .ref nX, .ref nY, .ref nR, .ref nC, .ref nS])), (nT, .inl (cI, 300, .inl gT)), (nO, .inl (cI, 128, .inl gO)), (nU, .inl (cI, 128, .inl gU)), (nV, .inl (cI, 16, .inl gV)), (nX, .inl (cJ, 16, .inr (.inl gX))), (nY, .inl (cJ, 16, .inr (.inl gY))), (nR, .inl (cJ, 16, .inr (.inl gR))), (nC, .inl (cI, 9, .inl gC)), (nS, .inl (cI, 9, .inl gS))] H := hP
              have hD : va_D A [(nA, .inr (5, [.int 0, .ref nT, .int vs, .int va, .int vf, .int vr, .ref nO, .ref nU, .ref nV, .long vw, .long vh, .long vt, .long vd, .ref nX, .ref nY, .ref nR, .ref nC, .ref nS])), (nT, .inl (cI, 300, .inl gT)), (nO, .inl (cI, 128, .inl gO)), (nU, .inl (cI, 128, .inl gU)), (nV, .inl (cI, 16, .inl gV)), (nX, .inl (cJ, 16, .inr (.inl gX))), (nY, .inl (cJ, 16, .inr (.inl gY))), (nR, .inl (cJ, 16, .inr (.inl gR))), (nC, .inl (cI, 9, .inl gC)), (nS, .inl (cI, 9, .inl gS))] := hD
              refine lv_aload_n hx hb md_M_corner_37 rfl (lv_at hl 0 rfl) ?_
              refine va_get (D := (dC, dI)) (ci := 5) (v := .int 0) (C := mR_M) (T := mT_M) (N := 18) hx hb hg gu_M hown hK hP 0 rfl rfl 0 (by decide) (hg _ wd_532) (fun _ h9 => h9) rfl md_M_corner_38 ?_
              refine lv_if_le (tgt := 48) hx hb md_M_corner_41 (by decide) (fun _ => ?_) (fun c12 => absurd (by decide) c12)
              refine lv_aload_n hx hb md_M_corner_48 rfl (lv_at hl 0 rfl) ?_
              refine lv_iload_n hx hb md_M_corner_49 rfl (lv_at hl 1 rfl) ?_
              refine lv_iload_n hx hb md_M_corner_50 rfl (lv_at hl 2 rfl) ?_
              refine lv_iload_n hx hb md_M_corner_51 rfl (lv_at hl 3 rfl) ?_
              have hPc13 := hP.sub (ws' := [(nA, .inr (5, [.int 0, .ref nT, .int vs, .int va, .int vf, .int vr, .ref nO, .ref nU, .ref nV, .long vw, .long vh, .long vt, .long vd, .ref nX, .ref nY, .ref nR, .ref nC, .ref nS])), (nT, .inl (cI, 300, .inl gT)), (nO, .inl (cI, 128, .inl gO)), (nU, .inl (cI, 128, .inl gU)), (nV, .inl (cI, 16, .inl gV)), (nX, .inl (cJ, 16, .inr (.inl gX))), (nY, .inl (cJ, 16, .inr (.inl gY))), (nR, .inl (cJ, 16, .inr (.inl gR))), (nC, .inl (cI, 9, .inl gC)), (nS, .inl (cI, 9, .inl gS))]) [0, 1, 2, 3, 4, 5, 6, 7, 8, 9] rfl
              refine pu_l (W.runV (As := [.int corner, .int turn, .int axis]) (rest := []) ⟨hx, hb, hml, hown, hg⟩ (ct_M_placeOf l dC dI cC cI cJ nA nT nO nU nV nX nY nR nC nS gT gO gU gV gX gY gR gC gS 0 vs va vf vr vw vh vt vd corner turn axis ht) (gw_cwV hg wd_717 mv_M_placeOf rfl rfl ⟨Nat.le_of_ble_eq_true rfl, Nat.le_of_ble_eq_true rfl⟩) (pu_preV (ci := 5) (q0 := 0) pu_blT hK hPc13 pu_e1 rfl rfl) rfl rfl hl.1 rfl (lv_room (Nat.le_of_ble_eq_true rfl)) md_M_corner_52 ⟨Nat.zero_le _, Nat.zero_le _⟩) ?_
              exact W.lret (v := fM_placeOf gC gS vw vt corner turn axis) hx hb hr (fun t ht hW => ⟨⟨fM_placeOf gC gS vw vt corner turn axis, (0), rfl, (by rw [fM_corner, if_neg c1, if_neg c3, if_neg c5, if_neg c7, if_neg c9, if_pos c11]), by have h9 := hP; rw [← ht] at h9; exact h9⟩, hS.F ht⟩) hS.2.2 md_M_corner_55 hlocks
            · refine lv_iconst (v := 1) hx hb md_M_corner_29 (by decide) ?_
              refine lv_goto (tgt := 34) hx hb md_M_corner_30 (by decide) ?_
              refine va_put (D := (dC, dI)) (ci := 5) (v := .int 1) (ty := .int) (C := mR_M) (T := mT_M) (N := 18) hx hb hg gu_M mF_M mO_M mN_M hown hK hP hD hS 0 rfl rfl 0 (by decide) (hg _ wd_532) (fun _ h9 => h9) rfl (by decide +kernel) rfl rfl (Nat.le_of_ble_eq_true rfl) md_M_corner_34 (fun H locs hP hD hS => ?_)
              have hP : va_P (dC, dI) mC [(nA, .inr (5, [.int 1, .ref nT, .int vs, .int va, .int vf, .int vr, .ref nO, .ref nU, .ref nV, .long vw, .long vh, .long vt, .long vd, .ref nX, .ref nY, .ref nR, .ref nC, .ref nS])), (nT, .inl (cI, 300, .inl gT)), (nO, .inl (cI, 128, .inl gO)), (nU, .inl (cI, 128, .inl gU)), (nV, .inl (cI, 16, .inl gV)), (nX, .inl (cJ, 16, .inr (.inl gX))), (nY, .inl (cJ, 16, .inr (.inl gY))), (nR, .inl (cJ, 16, .inr (.inl gR))), (nC, .inl (cI, 9, .inl gC)), (nS, .inl (cI, 9, .inl gS))] H := hP
              have hD : va_D A [(nA, .inr (5, [.int 1, .ref nT, .int vs, .int va, .int vf, .int vr, .ref nO, .ref nU, .ref nV, .long vw, .long vh, .long vt, .long vd, .ref nX, .ref nY, .ref nR, .ref nC, .ref nS])), (nT, .inl (cI, 300, .inl gT)), (nO, .inl (cI, 128, .inl gO)), (nU, .inl (cI, 128, .inl gU)), (nV, .inl (cI, 16, .inl gV)), (nX, .inl (cJ, 16, .inr (.inl gX))), (nY, .inl (cJ, 16, .inr (.inl gY))), (nR, .inl (cJ, 16, .inr (.inl gR))), (nC, .inl (cI, 9, .inl gC)), (nS, .inl (cI, 9, .inl gS))] := hD
              refine lv_aload_n hx hb md_M_corner_37 rfl (lv_at hl 0 rfl) ?_
              refine va_get (D := (dC, dI)) (ci := 5) (v := .int 1) (C := mR_M) (T := mT_M) (N := 18) hx hb hg gu_M hown hK hP 0 rfl rfl 0 (by decide) (hg _ wd_532) (fun _ h9 => h9) rfl md_M_corner_38 ?_
              refine lv_if_le (tgt := 48) hx hb md_M_corner_41 (by decide) (fun c14 => absurd c14 (by decide)) (fun _ => ?_)
              refine lv_lconst (v := 0) hx hb md_M_corner_44 (by decide) ?_
              refine lv_goto (tgt := 55) hx hb md_M_corner_45 (by decide) ?_
              exact W.lret (v := 0) hx hb hr (fun t ht hW => ⟨⟨0, (1), rfl, (by rw [fM_corner, if_neg c1, if_neg c3, if_neg c5, if_neg c7, if_neg c9, if_neg c11]), by have h9 := hP; rw [← ht] at h9; exact h9⟩, hS.F ht⟩) hS.2.2 md_M_corner_55 hlocks
