theorem nh_1 {x : Int32} (h : 0 ≤ x) : ¬ x < 0 := by
  rw [Int32.le_iff_toInt_le, Int32.toInt_zero] at h
  rw [Int32.lt_iff_toInt_lt, Int32.toInt_zero]; omega
def fM_place (gO : Nat → Int32) (vr : Nat) (vw : Int64) (vh : Int64) (vt : Int64) (vd : Int64) (k : Int32) (part : Int32) : Int64 × Int32 := if (nI vr) = 0 then (0, 1) else (if 0 ≤ (fM_hinges gO vr vw vh vt vd) then (if k < 0 then (0, 2) else (if (fM_hinges gO vr vw vh vt vd) ≤ k then (0, 2) else (if part < 0 then (0, 2) else (if part ≤ 1 then (if 320 ≤ vh then (if (fM_hinges gO vr vw vh vt vd) = 1 then (if (fM_hinges gO vr vw vh vt vd) = 1 then (if part = 0 then ((2 * vh) / (fM_common (2 * vh) 4), 0) else (4 / (fM_common (2 * vh) 4), 0)) else (if part = 0 then ((2 * vh) / (fM_common (2 * vh) (4 * (Int32.toInt64 ((fM_hinges gO vr vw vh vt vd) - 1)))), 0) else ((4 * (Int32.toInt64 ((fM_hinges gO vr vw vh vt vd) - 1))) / (fM_common (2 * vh) (4 * (Int32.toInt64 ((fM_hinges gO vr vw vh vt vd) - 1)))), 0))) else (if (fM_hinges gO vr vw vh vt vd) = 1 then (if part = 0 then (((320 * (Int32.toInt64 ((fM_hinges gO vr vw vh vt vd) - 1))) + ((Int32.toInt64 k) * ((4 * vh) - (2 * 320)))) / (fM_common ((320 * (Int32.toInt64 ((fM_hinges gO vr vw vh vt vd) - 1))) + ((Int32.toInt64 k) * ((4 * vh) - (2 * 320)))) 4), 0) else (4 / (fM_common ((320 * (Int32.toInt64 ((fM_hinges gO vr vw vh vt vd) - 1))) + ((Int32.toInt64 k) * ((4 * vh) - (2 * 320)))) 4), 0)) else (if part = 0 then (((320 * (Int32.toInt64 ((fM_hinges gO vr vw vh vt vd) - 1))) + ((Int32.toInt64 k) * ((4 * vh) - (2 * 320)))) / (fM_common ((320 * (Int32.toInt64 ((fM_hinges gO vr vw vh vt vd) - 1))) + ((Int32.toInt64 k) * ((4 * vh) - (2 * 320)))) (4 * (Int32.toInt64 ((fM_hinges gO vr vw vh vt vd) - 1)))), 0) else ((4 * (Int32.toInt64 ((fM_hinges gO vr vw vh vt vd) - 1))) / (fM_common ((320 * (Int32.toInt64 ((fM_hinges gO vr vw vh vt vd) - 1))) + ((Int32.toInt64 k) * ((4 * vh) - (2 * 320)))) (4 * (Int32.toInt64 ((fM_hinges gO vr vw vh vt vd) - 1)))), 0)))) else (if (fM_hinges gO vr vw vh vt vd) = 1 then (if (fM_hinges gO vr vw vh vt vd) = 1 then (if part = 0 then ((2 * vh) / (fM_common (2 * vh) 4), 0) else (4 / (fM_common (2 * vh) 4), 0)) else (if part = 0 then ((2 * vh) / (fM_common (2 * vh) (4 * (Int32.toInt64 ((fM_hinges gO vr vw vh vt vd) - 1)))), 0) else ((4 * (Int32.toInt64 ((fM_hinges gO vr vw vh vt vd) - 1))) / (fM_common (2 * vh) (4 * (Int32.toInt64 ((fM_hinges gO vr vw vh vt vd) - 1)))), 0))) else (if (fM_hinges gO vr vw vh vt vd) = 1 then (if part = 0 then (((vh * (Int32.toInt64 ((fM_hinges gO vr vw vh vt vd) - 1))) + ((Int32.toInt64 k) * ((4 * vh) - (2 * vh)))) / (fM_common ((vh * (Int32.toInt64 ((fM_hinges gO vr vw vh vt vd) - 1))) + ((Int32.toInt64 k) * ((4 * vh) - (2 * vh)))) 4), 0) else (4 / (fM_common ((vh * (Int32.toInt64 ((fM_hinges gO vr vw vh vt vd) - 1))) + ((Int32.toInt64 k) * ((4 * vh) - (2 * vh)))) 4), 0)) else (if part = 0 then (((vh * (Int32.toInt64 ((fM_hinges gO vr vw vh vt vd) - 1))) + ((Int32.toInt64 k) * ((4 * vh) - (2 * vh)))) / (fM_common ((vh * (Int32.toInt64 ((fM_hinges gO vr vw vh vt vd) - 1))) + ((Int32.toInt64 k) * ((4 * vh) - (2 * vh)))) (4 * (Int32.toInt64 ((fM_hinges gO vr vw vh vt vd) - 1)))), 0) else ((4 * (Int32.toInt64 ((fM_hinges gO vr vw vh vt vd) - 1))) / (fM_common ((vh * (Int32.toInt64 ((fM_hinges gO vr vw vh vt vd) - 1))) + ((Int32.toInt64 k) * ((4 * vh) - (2 * vh)))) (4 * (Int32.toInt64 ((fM_hinges gO vr vw vh vt vd) - 1)))), 0))))) else (0, 2))))) else (0, 1))
set_option maxHeartbeats 1000000 in
set_option maxRecDepth 100000 in
theorem ct_M_place (l : Launch) (dC : Nat → ClassId) (dI : Nat → Nat → Nat) (cC cI cJ : ClassId) (nA : Nat) (nT : Nat) (nO : Nat) (nU : Nat) (nV : Nat) (nX : Nat) (nY : Nat) (nR : Nat) (nC : Nat) (nS : Nat) (gT : Nat → Int32) (gO : Nat → Int32) (gU : Nat → Int32) (gV : Nat → Int32) (gX : Nat → Int64) (gY : Nat → Int64) (gR : Nat → Int64) (gC : Nat → Int32) (gS : Nat → Int32) (vc : Int32) (vs : Int32) (va : Int32) (vf : Int32) (vr : Nat) (vw : Int64) (vh : Int64) (vt : Int64) (vd : Int64) (k : Int32) (part : Int32)  (hz : vr ≤ 16) (hp1 : ¬ (2 * vh) < 0 ∧ ¬ fM_common (2 * vh) 4 = 0) (hp2 : ∀ mg : Int64, (mg = vh ∨ mg = 320 ∧ 320 ≤ vh) → ∀ nn : Int32, ¬ nn < 0 → ¬ nn = 1 → ¬ k < 0 → ¬ nn ≤ k → ¬ (mg * Int32.toInt64 (nn - 1) + Int32.toInt64 k * (4 * vh - 2 * mg)) < 0 ∧ ¬ (4 * Int32.toInt64 (nn - 1)) < 0 ∧ ¬ fM_common (mg * Int32.toInt64 (nn - 1) + Int32.toInt64 k * (4 * vh - 2 * mg)) (4 * Int32.toInt64 (nn - 1)) = 0) : Met l my_M_place (.code my_M_place mb_M_place 12 (some .long) :: gw_l) ({ frames := 2, cells := 0, slots := 0, locals := 45 }) (mu_Pc (dC, dI) mC [(cC, .char), (cI, .int), (cJ, .long)] [(nA, .inr (5, [.int vc, .ref nT, .int vs, .int va, .int vf, .int (nI vr), .ref nO, .ref nU, .ref nV, .long vw, .long vh, .long vt, .long vd, .ref nX, .ref nY, .ref nR, .ref nC, .ref nS])), (nT, .inl (cI, 300, .inl gT)), (nO, .inl (cI, 128, .inl gO)), (nU, .inl (cI, 128, .inl gU)), (nV, .inl (cI, 16, .inl gV)), (nX, .inl (cJ, 16, .inr (.inl gX))), (nY, .inl (cJ, 16, .inr (.inl gY))), (nR, .inl (cJ, 16, .inr (.inl gR))), (nC, .inl (cI, 9, .inl gC)), (nS, .inl (cI, 9, .inl gS))] (fun _ => True) [.ref nA, .int k, .int part]) (va_Ql (fun (r : Int64) (u : Int32) => (r, u) = fM_place gO vr vw vh vt vd k part) (fun u t => va_P (dC, dI) mC [(nA, .inr (5, [.int u, .ref nT, .int vs, .int va, .int vf, .int (nI vr), .ref nO, .ref nU, .ref nV, .long vw, .long vh, .long vt, .long vd, .ref nX, .ref nY, .ref nR, .ref nC, .ref nS])), (nT, .inl (cI, 300, .inl gT)), (nO, .inl (cI, 128, .inl gO)), (nU, .inl (cI, 128, .inl gU)), (nV, .inl (cI, 16, .inl gV)), (nX, .inl (cJ, 16, .inr (.inl gX))), (nY, .inl (cJ, 16, .inr (.inl gY))), (nR, .inl (cJ, 16, .inr (.inl gR))), (nC, .inl (cI, 9, .inl gC)), (nS, .inl (cI, 9, .inl gS))] t.heap) (mu_A [(nA, .inr (5, [.int vc, .ref nT, .int vs, .int va, .int vf, .int (nI vr), .ref nO, .ref nU, .ref nV, .long vw, .long vh, .long vt, .long vd, .ref nX, .ref nY, .ref nR, .ref nC, .ref nS])), (nT, .inl (cI, 300, .inl gT)), (nO, .inl (cI, 128, .inl gO)), (nU, .inl (cI, 128, .inl gU)), (nV, .inl (cI, 16, .inl gV)), (nX, .inl (cJ, 16, .inr (.inl gX))), (nY, .inl (cJ, 16, .inr (.inl gY))), (nR, .inl (cJ, 16, .inr (.inl gR))), (nC, .inl (cI, 9, .inl gC)), (nS, .inl (cI, 9, .inl gS))])) 0 0 (mu_A [(nA, .inr (5, [.int vc, .ref nT, .int vs, .int va, .int vf, .int (nI vr), .ref nO, .ref nU, .ref nV, .long vw, .long vh, .long vt, .long vd, .ref nX, .ref nY, .ref nR, .ref nC, .ref nS])), (nT, .inl (cI, 300, .inl gT)), (nO, .inl (cI, 128, .inl gO)), (nU, .inl (cI, 128, .inl gU)), (nV, .inl (cI, 16, .inl gV)), (nX, .inl (cJ, 16, .inr (.inl gX))), (nY, .inl (cJ, 16, .inr (.inl gY))), (nR, .inl (cJ, 16, .inr (.inl gR))), (nC, .inl (cI, 9, .inl gC)), (nS, .inl (cI, 9, .inl gS))]) := by
  refine Met.ofW (cc := mb_M_place) (maxL := 12) (ret := (some .long)) (by decide) rfl ?_
  intro p e s m args below meth c s₁ B hml hv
  obtain ⟨rfl, hP, hK, hD0, hE⟩ := hv
  have hx := B.exec
  have hb := B.bytes
  have hr := B.returns
  have hts := atoms_spec (ws := (.code my_M_place mb_M_place 12 (some .long) :: gw_l)) B.pre
  have hg : ∀ w ∈ gw_l, w.before _ s = true := fun w h => hts w (List.mem_cons_of_mem _ h)
  have hown : s.vm.findClass mR_M = some m.cls := findClass_of_methodNamed B.named
  have hlocks := B.notSynchronized
  have hD := mu_self hD0
  have hS : va_S (mu_A [(nA, .inr (5, [.int vc, .ref nT, .int vs, .int va, .int vf, .int (nI vr), .ref nO, .ref nU, .ref nV, .long vw, .long vh, .long vt, .long vd, .ref nX, .ref nY, .ref nR, .ref nC, .ref nS])), (nT, .inl (cI, 300, .inl gT)), (nO, .inl (cI, 128, .inl gO)), (nU, .inl (cI, 128, .inl gU)), (nV, .inl (cI, 16, .inl gV)), (nX, .inl (cJ, 16, .inr (.inl gX))), (nY, .inl (cJ, 16, .inr (.inl gY))), (nR, .inl (cJ, 16, .inr (.inl gR))), (nC, .inl (cI, 9, .inl gC)), (nS, .inl (cI, 9, .inl gS))]) s.heap s.heap [] := va_S.rf
  generalize hAe : mu_A [(nA, .inr (5, [.int vc, .ref nT, .int vs, .int va, .int vf, .int (nI vr), .ref nO, .ref nU, .ref nV, .long vw, .long vh, .long vt, .long vd, .ref nX, .ref nY, .ref nR, .ref nC, .ref nS])), (nT, .inl (cI, 300, .inl gT)), (nO, .inl (cI, 128, .inl gO)), (nU, .inl (cI, 128, .inl gU)), (nV, .inl (cI, 16, .inl gV)), (nX, .inl (cJ, 16, .inr (.inl gX))), (nY, .inl (cJ, 16, .inr (.inl gY))), (nR, .inl (cJ, 16, .inr (.inl gR))), (nC, .inl (cI, 9, .inl gC)), (nS, .inl (cI, 9, .inl gS))] = A at hD hS ⊢
  have hl := lv_entry ([.ref nA, .int k, .int part]) (n := 12) (Nat.le_of_ble_eq_true rfl)
  rw [lg_entry_eq]
  generalize (lg_sl ([.ref nA, .int k, .int part]) ++ List.replicate (12 - (lg_sl ([.ref nA, .int k, .int part])).length) Slot.unset).toArray = ls at hl ⊢
  have hl : lv_has ls 12 [(0, .ref nA), (1, .int k), (2, .int part)] := hl
  refine lv_aload_n hx hb md_M_place_0 rfl (lv_at hl 0 rfl) ?_
  have hPc1 := hP.sub (ws' := [(nA, .inr (5, [.int vc, .ref nT, .int vs, .int va, .int vf, .int (nI vr), .ref nO, .ref nU, .ref nV, .long vw, .long vh, .long vt, .long vd, .ref nX, .ref nY, .ref nR, .ref nC, .ref nS])), (nT, .inl (cI, 300, .inl gT)), (nO, .inl (cI, 128, .inl gO)), (nU, .inl (cI, 128, .inl gU)), (nV, .inl (cI, 16, .inl gV)), (nX, .inl (cJ, 16, .inr (.inl gX))), (nY, .inl (cJ, 16, .inr (.inl gY))), (nR, .inl (cJ, 16, .inr (.inl gR))), (nC, .inl (cI, 9, .inl gC)), (nS, .inl (cI, 9, .inl gS))]) [0, 1, 2, 3, 4, 5, 6, 7, 8, 9] rfl
  refine pu_i (W.runV (As := []) (rest := []) ⟨hx, hb, hml, hown, hg⟩ (ct_M_hinges l dC dI cC cI cJ nA nT nO nU nV nX nY nR nC nS gT gO gU gV gX gY gR gC gS vc vs va vf vr vw vh vt vd hz) (gw_cwV hg wd_684 mv_M_hinges rfl rfl ⟨Nat.le_of_ble_eq_true rfl, Nat.le_of_ble_eq_true rfl⟩) (pu_preV (ci := 5) (q0 := 0) pu_blT hK hPc1 pu_e1 rfl rfl) rfl rfl hl.1 rfl (lv_room (Nat.le_of_ble_eq_true rfl)) md_M_place_1 ⟨Nat.zero_le _, Nat.zero_le _⟩) ?_
  refine lv_istore_n (lv' := [(3, .int (fM_hinges gO vr vw vh vt vd)), (0, .ref nA), (1, .int k), (2, .int part)]) hx hb md_M_place_4 rfl hl (by decide) rfl (fun ls hl => ?_)
  refine lv_aload_n hx hb md_M_place_5 rfl (lv_at hl 1 rfl) ?_
  refine lv_aload_n hx hb md_M_place_6 rfl (lv_at hl 1 rfl) ?_
  refine va_get (D := (dC, dI)) (ci := 5) (v := .int (nI vr)) (C := mR_M) (T := mT_M) (N := 18) hx hb hg gu_M hown hK hP 0 rfl rfl 5 (by decide) (hg _ wd_537) (fun _ h9 => h9) rfl md_M_place_7 ?_
  refine lv_if_eq (tgt := 17) hx hb md_M_place_10 (by decide) (fun c2 => ?_) (fun c2 => ?_)
  · refine lv_iconst (v := 1) hx hb md_M_place_17 (by decide) ?_
    refine lv_goto (tgt := 44) hx hb md_M_place_18 (by decide) ?_
    refine va_put (D := (dC, dI)) (ci := 5) (v := .int 1) (ty := .int) (C := mR_M) (T := mT_M) (N := 18) hx hb hg gu_M mF_M mO_M mN_M hown hK hP hD hS 0 rfl rfl 0 (by decide) (hg _ wd_532) (fun _ h9 => h9) rfl (by decide +kernel) rfl rfl (Nat.le_of_ble_eq_true rfl) md_M_place_44 (fun H locs hP hD hS => ?_)
    have hP : va_P (dC, dI) mC [(nA, .inr (5, [.int 1, .ref nT, .int vs, .int va, .int vf, .int (nI vr), .ref nO, .ref nU, .ref nV, .long vw, .long vh, .long vt, .long vd, .ref nX, .ref nY, .ref nR, .ref nC, .ref nS])), (nT, .inl (cI, 300, .inl gT)), (nO, .inl (cI, 128, .inl gO)), (nU, .inl (cI, 128, .inl gU)), (nV, .inl (cI, 16, .inl gV)), (nX, .inl (cJ, 16, .inr (.inl gX))), (nY, .inl (cJ, 16, .inr (.inl gY))), (nR, .inl (cJ, 16, .inr (.inl gR))), (nC, .inl (cI, 9, .inl gC)), (nS, .inl (cI, 9, .inl gS))] H := hP
    have hD : va_D A [(nA, .inr (5, [.int 1, .ref nT, .int vs, .int va, .int vf, .int (nI vr), .ref nO, .ref nU, .ref nV, .long vw, .long vh, .long vt, .long vd, .ref nX, .ref nY, .ref nR, .ref nC, .ref nS])), (nT, .inl (cI, 300, .inl gT)), (nO, .inl (cI, 128, .inl gO)), (nU, .inl (cI, 128, .inl gU)), (nV, .inl (cI, 16, .inl gV)), (nX, .inl (cJ, 16, .inr (.inl gX))), (nY, .inl (cJ, 16, .inr (.inl gY))), (nR, .inl (cJ, 16, .inr (.inl gR))), (nC, .inl (cI, 9, .inl gC)), (nS, .inl (cI, 9, .inl gS))] := hD
    refine lv_aload_n hx hb md_M_place_47 rfl (lv_at hl 1 rfl) ?_
    refine va_get (D := (dC, dI)) (ci := 5) (v := .int 1) (C := mR_M) (T := mT_M) (N := 18) hx hb hg gu_M hown hK hP 0 rfl rfl 0 (by decide) (hg _ wd_532) (fun _ h9 => h9) rfl md_M_place_48 ?_
    refine lv_if_le (tgt := 56) hx hb md_M_place_51 (by decide) (fun c3 => absurd c3 (by decide)) (fun _ => ?_)
    refine lv_lconst (v := 0) hx hb md_M_place_54 (by decide) ?_
    exact W.lret (v := 0) hx hb hr (fun t ht hW => ⟨⟨0, (1), rfl, (by rw [fM_place, if_pos c2]), by have h9 := hP; rw [← ht] at h9; exact h9⟩, hS.F ht⟩) hS.2.2 md_M_place_55 hlocks
  · refine lv_iload_n hx hb md_M_place_13 rfl (lv_at hl 0 rfl) ?_
    refine lv_if_ge (tgt := 21) hx hb md_M_place_14 (by decide) (fun c4 => ?_) (fun c4 => ?_)
    · refine lv_iload_n hx hb md_M_place_21 rfl (lv_at hl 2 rfl) ?_
      refine lv_if_lt (tgt := 39) hx hb md_M_place_22 (by decide) (fun c5 => ?_) (fun c5 => ?_)
      · refine lv_iconst (v := 2) hx hb md_M_place_39 (by decide) ?_
        refine lv_goto (tgt := 44) hx hb md_M_place_40 (by decide) ?_
        refine va_put (D := (dC, dI)) (ci := 5) (v := .int 2) (ty := .int) (C := mR_M) (T := mT_M) (N := 18) hx hb hg gu_M mF_M mO_M mN_M hown hK hP hD hS 0 rfl rfl 0 (by decide) (hg _ wd_532) (fun _ h9 => h9) rfl (by decide +kernel) rfl rfl (Nat.le_of_ble_eq_true rfl) md_M_place_44 (fun H locs hP hD hS => ?_)
        have hP : va_P (dC, dI) mC [(nA, .inr (5, [.int 2, .ref nT, .int vs, .int va, .int vf, .int (nI vr), .ref nO, .ref nU, .ref nV, .long vw, .long vh, .long vt, .long vd, .ref nX, .ref nY, .ref nR, .ref nC, .ref nS])), (nT, .inl (cI, 300, .inl gT)), (nO, .inl (cI, 128, .inl gO)), (nU, .inl (cI, 128, .inl gU)), (nV, .inl (cI, 16, .inl gV)), (nX, .inl (cJ, 16, .inr (.inl gX))), (nY, .inl (cJ, 16, .inr (.inl gY))), (nR, .inl (cJ, 16, .inr (.inl gR))), (nC, .inl (cI, 9, .inl gC)), (nS, .inl (cI, 9, .inl gS))] H := hP
        have hD : va_D A [(nA, .inr (5, [.int 2, .ref nT, .int vs, .int va, .int vf, .int (nI vr), .ref nO, .ref nU, .ref nV, .long vw, .long vh, .long vt, .long vd, .ref nX, .ref nY, .ref nR, .ref nC, .ref nS])), (nT, .inl (cI, 300, .inl gT)), (nO, .inl (cI, 128, .inl gO)), (nU, .inl (cI, 128, .inl gU)), (nV, .inl (cI, 16, .inl gV)), (nX, .inl (cJ, 16, .inr (.inl gX))), (nY, .inl (cJ, 16, .inr (.inl gY))), (nR, .inl (cJ, 16, .inr (.inl gR))), (nC, .inl (cI, 9, .inl gC)), (nS, .inl (cI, 9, .inl gS))] := hD
        refine lv_aload_n hx hb md_M_place_47 rfl (lv_at hl 1 rfl) ?_
        refine va_get (D := (dC, dI)) (ci := 5) (v := .int 2) (C := mR_M) (T := mT_M) (N := 18) hx hb hg gu_M hown hK hP 0 rfl rfl 0 (by decide) (hg _ wd_532) (fun _ h9 => h9) rfl md_M_place_48 ?_
        refine lv_if_le (tgt := 56) hx hb md_M_place_51 (by decide) (fun c6 => absurd c6 (by decide)) (fun _ => ?_)
        refine lv_lconst (v := 0) hx hb md_M_place_54 (by decide) ?_
        exact W.lret (v := 0) hx hb hr (fun t ht hW => ⟨⟨0, (2), rfl, (by rw [fM_place, if_neg c2, if_pos c4, if_pos c5]), by have h9 := hP; rw [← ht] at h9; exact h9⟩, hS.F ht⟩) hS.2.2 md_M_place_55 hlocks
      · refine lv_iload_n hx hb md_M_place_25 rfl (lv_at hl 2 rfl) ?_
        refine lv_iload_n hx hb md_M_place_26 rfl (lv_at hl 0 rfl) ?_
        refine lv_icmp_ge (tgt := 39) hx hb md_M_place_27 (by decide) (fun c7 => ?_) (fun c7 => ?_)
        · refine lv_iconst (v := 2) hx hb md_M_place_39 (by decide) ?_
          refine lv_goto (tgt := 44) hx hb md_M_place_40 (by decide) ?_
          refine va_put (D := (dC, dI)) (ci := 5) (v := .int 2) (ty := .int) (C := mR_M) (T := mT_M) (N := 18) hx hb hg gu_M mF_M mO_M mN_M hown hK hP hD hS 0 rfl rfl 0 (by decide) (hg _ wd_532) (fun _ h9 => h9) rfl (by decide +kernel) rfl rfl (Nat.le_of_ble_eq_true rfl) md_M_place_44 (fun H locs hP hD hS => ?_)
          have hP : va_P (dC, dI) mC [(nA, .inr (5, [.int 2, .ref nT, .int vs, .int va, .int vf, .int (nI vr), .ref nO, .ref nU, .ref nV, .long vw, .long vh, .long vt, .long vd, .ref nX, .ref nY, .ref nR, .ref nC, .ref nS])), (nT, .inl (cI, 300, .inl gT)), (nO, .inl (cI, 128, .inl gO)), (nU, .inl (cI, 128, .inl gU)), (nV, .inl (cI, 16, .inl gV)), (nX, .inl (cJ, 16, .inr (.inl gX))), (nY, .inl (cJ, 16, .inr (.inl gY))), (nR, .inl (cJ, 16, .inr (.inl gR))), (nC, .inl (cI, 9, .inl gC)), (nS, .inl (cI, 9, .inl gS))] H := hP
          have hD : va_D A [(nA, .inr (5, [.int 2, .ref nT, .int vs, .int va, .int vf, .int (nI vr), .ref nO, .ref nU, .ref nV, .long vw, .long vh, .long vt, .long vd, .ref nX, .ref nY, .ref nR, .ref nC, .ref nS])), (nT, .inl (cI, 300, .inl gT)), (nO, .inl (cI, 128, .inl gO)), (nU, .inl (cI, 128, .inl gU)), (nV, .inl (cI, 16, .inl gV)), (nX, .inl (cJ, 16, .inr (.inl gX))), (nY, .inl (cJ, 16, .inr (.inl gY))), (nR, .inl (cJ, 16, .inr (.inl gR))), (nC, .inl (cI, 9, .inl gC)), (nS, .inl (cI, 9, .inl gS))] := hD
          refine lv_aload_n hx hb md_M_place_47 rfl (lv_at hl 1 rfl) ?_
          refine va_get (D := (dC, dI)) (ci := 5) (v := .int 2) (C := mR_M) (T := mT_M) (N := 18) hx hb hg gu_M hown hK hP 0 rfl rfl 0 (by decide) (hg _ wd_532) (fun _ h9 => h9) rfl md_M_place_48 ?_
          refine lv_if_le (tgt := 56) hx hb md_M_place_51 (by decide) (fun c8 => absurd c8 (by decide)) (fun _ => ?_)
          refine lv_lconst (v := 0) hx hb md_M_place_54 (by decide) ?_
          exact W.lret (v := 0) hx hb hr (fun t ht hW => ⟨⟨0, (2), rfl, (by rw [fM_place, if_neg c2, if_pos c4, if_neg c5, if_pos c7]), by have h9 := hP; rw [← ht] at h9; exact h9⟩, hS.F ht⟩) hS.2.2 md_M_place_55 hlocks
        · refine lv_iload_n hx hb md_M_place_30 rfl (lv_at hl 3 rfl) ?_
          refine lv_if_lt (tgt := 39) hx hb md_M_place_31 (by decide) (fun c9 => ?_) (fun c9 => ?_)
          · refine lv_iconst (v := 2) hx hb md_M_place_39 (by decide) ?_
            refine lv_goto (tgt := 44) hx hb md_M_place_40 (by decide) ?_
            refine va_put (D := (dC, dI)) (ci := 5) (v := .int 2) (ty := .int) (C := mR_M) (T := mT_M) (N := 18) hx hb hg gu_M mF_M mO_M mN_M hown hK hP hD hS 0 rfl rfl 0 (by decide) (hg _ wd_532) (fun _ h9 => h9) rfl (by decide +kernel) rfl rfl (Nat.le_of_ble_eq_true rfl) md_M_place_44 (fun H locs hP hD hS => ?_)
            have hP : va_P (dC, dI) mC [(nA, .inr (5, [.int 2, .ref nT, .int vs, .int va, .int vf, .int (nI vr), .ref nO, .ref nU, .ref nV, .long vw, .long vh, .long vt, .long vd, .ref nX, .ref nY, .ref nR, .ref nC, .ref nS])), (nT, .inl (cI, 300, .inl gT)), (nO, .inl (cI, 128, .inl gO)), (nU, .inl (cI, 128, .inl gU)), (nV, .inl (cI, 16, .inl gV)), (nX, .inl (cJ, 16, .inr (.inl gX))), (nY, .inl (cJ, 16, .inr (.inl gY))), (nR, .inl (cJ, 16, .inr (.inl gR))), (nC, .inl (cI, 9, .inl gC)), (nS, .inl (cI, 9, .inl gS))] H := hP
            have hD : va_D A [(nA, .inr (5, [.int 2, .ref nT, .int vs, .int va, .int vf, .int (nI vr), .ref nO, .ref nU, .ref nV, .long vw, .long vh, .long vt, .long vd, .ref nX, .ref nY, .ref nR, .ref nC, .ref nS])), (nT, .inl (cI, 300, .inl gT)), (nO, .inl (cI, 128, .inl gO)), (nU, .inl (cI, 128, .inl gU)), (nV, .inl (cI, 16, .inl gV)), (nX, .inl (cJ, 16, .inr (.inl gX))), (nY, .inl (cJ, 16, .inr (.inl gY))), (nR, .inl (cJ, 16, .inr (.inl gR))), (nC, .inl (cI, 9, .inl gC)), (nS, .inl (cI, 9, .inl gS))] := hD
            refine lv_aload_n hx hb md_M_place_47 rfl (lv_at hl 1 rfl) ?_
            refine va_get (D := (dC, dI)) (ci := 5) (v := .int 2) (C := mR_M) (T := mT_M) (N := 18) hx hb hg gu_M hown hK hP 0 rfl rfl 0 (by decide) (hg _ wd_532) (fun _ h9 => h9) rfl md_M_place_48 ?_
            refine lv_if_le (tgt := 56) hx hb md_M_place_51 (by decide) (fun c10 => absurd c10 (by decide)) (fun _ => ?_)
            refine lv_lconst (v := 0) hx hb md_M_place_54 (by decide) ?_
            exact W.lret (v := 0) hx hb hr (fun t ht hW => ⟨⟨0, (2), rfl, (by rw [fM_place, if_neg c2, if_pos c4, if_neg c5, if_neg c7, if_pos c9]), by have h9 := hP; rw [← ht] at h9; exact h9⟩, hS.F ht⟩) hS.2.2 md_M_place_55 hlocks
          · refine lv_iload_n hx hb md_M_place_34 rfl (lv_at hl 3 rfl) ?_
            refine lv_iconst (v := 1) hx hb md_M_place_35 (by decide) ?_
            refine lv_icmp_le (tgt := 43) hx hb md_M_place_36 (by decide) (fun c11 => ?_) (fun c11 => ?_)
            · refine lv_iconst (v := 0) hx hb md_M_place_43 (by decide) ?_
              refine va_put (D := (dC, dI)) (ci := 5) (v := .int 0) (ty := .int) (C := mR_M) (T := mT_M) (N := 18) hx hb hg gu_M mF_M mO_M mN_M hown hK hP hD hS 0 rfl rfl 0 (by decide) (hg _ wd_532) (fun _ h9 => h9) rfl (by decide +kernel) rfl rfl (Nat.le_of_ble_eq_true rfl) md_M_place_44 (fun H locs hP hD hS => ?_)
              have hP : va_P (dC, dI) mC [(nA, .inr (5, [.int 0, .ref nT, .int vs, .int va, .int vf, .int (nI vr), .ref nO, .ref nU, .ref nV, .long vw, .long vh, .long vt, .long vd, .ref nX, .ref nY, .ref nR, .ref nC, .ref nS])), (nT, .inl (cI, 300, .inl gT)), (nO, .inl (cI, 128, .inl gO)), (nU, .inl (cI, 128, .inl gU)), (nV, .inl (cI, 16, .inl gV)), (nX, .inl (cJ, 16, .inr (.inl gX))), (nY, .inl (cJ, 16, .inr (.inl gY))), (nR, .inl (cJ, 16, .inr (.inl gR))), (nC, .inl (cI, 9, .inl gC)), (nS, .inl (cI, 9, .inl gS))] H := hP
              have hD : va_D A [(nA, .inr (5, [.int 0, .ref nT, .int vs, .int va, .int vf, .int (nI vr), .ref nO, .ref nU, .ref nV, .long vw, .long vh, .long vt, .long vd, .ref nX, .ref nY, .ref nR, .ref nC, .ref nS])), (nT, .inl (cI, 300, .inl gT)), (nO, .inl (cI, 128, .inl gO)), (nU, .inl (cI, 128, .inl gU)), (nV, .inl (cI, 16, .inl gV)), (nX, .inl (cJ, 16, .inr (.inl gX))), (nY, .inl (cJ, 16, .inr (.inl gY))), (nR, .inl (cJ, 16, .inr (.inl gR))), (nC, .inl (cI, 9, .inl gC)), (nS, .inl (cI, 9, .inl gS))] := hD
              refine lv_aload_n hx hb md_M_place_47 rfl (lv_at hl 1 rfl) ?_
              refine va_get (D := (dC, dI)) (ci := 5) (v := .int 0) (C := mR_M) (T := mT_M) (N := 18) hx hb hg gu_M hown hK hP 0 rfl rfl 0 (by decide) (hg _ wd_532) (fun _ h9 => h9) rfl md_M_place_48 ?_
              refine lv_if_le (tgt := 56) hx hb md_M_place_51 (by decide) (fun _ => ?_) (fun c12 => absurd (by decide) c12)
              refine lv_aload_n hx hb md_M_place_56 rfl (lv_at hl 1 rfl) ?_
              refine va_get (D := (dC, dI)) (ci := 5) (v := .long vh) (C := mR_M) (T := mT_M) (N := 18) hx hb hg gu_M hown hK hP 0 rfl rfl 10 (by decide) (hg _ wd_542) (fun _ h9 => h9) rfl md_M_place_57 ?_
              refine lv_ldc2 hx hb hown (hg _ wd_692) md_M_place_60 ?_
              refine lx_ge (tgt := 74) hx hb md_M_place_63 md_M_place_64 (by decide) (fun c13 => ?_) (fun c13 => ?_)
              · refine lv_ldc2 hx hb hown (hg _ wd_692) md_M_place_74 ?_
                refine lv_lstore (lv' := [(4, .long 320), (3, .int (fM_hinges gO vr vw vh vt vd)), (0, .ref nA), (1, .int k), (2, .int part)]) hx hb md_M_place_77 hl (by decide) rfl (fun ls hl => ?_)
                refine lv_iload_n hx hb md_M_place_79 rfl (lv_at hl 1 rfl) ?_
                refine lv_iconst (v := 1) hx hb md_M_place_80 (by decide) ?_
                refine lv_icmp_ne (tgt := 95) hx hb md_M_place_81 (by decide) (fun c14 => ?_) (fun c14 => ?_)
                · refine lv_lload hx hb md_M_place_95 (lv_at hl 0 rfl) ?_
                  refine lv_iload_n hx hb md_M_place_97 rfl (lv_at hl 1 rfl) ?_
                  refine lv_iconst (v := 1) hx hb md_M_place_98 (by decide) ?_
                  refine lv_isub hx hb md_M_place_99 ?_
                  refine lv_i2l (v := Int32.toInt64 ((fM_hinges gO vr vw vh vt vd) - 1)) hx hb md_M_place_100 rfl ?_
                  refine lv_lmul hx hb md_M_place_101 ?_
                  refine lv_iload_n hx hb md_M_place_102 rfl (lv_at hl 3 rfl) ?_
                  refine lv_i2l (v := Int32.toInt64 k) hx hb md_M_place_103 rfl ?_
                  refine lv_ldc2 hx hb hown (hg _ wd_694) md_M_place_104 ?_
                  refine lv_aload_n hx hb md_M_place_107 rfl (lv_at hl 2 rfl) ?_
                  refine va_get (D := (dC, dI)) (ci := 5) (v := .long vh) (C := mR_M) (T := mT_M) (N := 18) hx hb hg gu_M hown hK hP 0 rfl rfl 10 (by decide) (hg _ wd_542) (fun _ h9 => h9) rfl md_M_place_108 ?_
                  refine lv_lmul hx hb md_M_place_111 ?_
                  refine lv_ldc2 hx hb hown (hg _ wd_693) md_M_place_112 ?_
                  refine lv_lload hx hb md_M_place_115 (lv_at hl 0 rfl) ?_
                  refine lv_lmul hx hb md_M_place_117 ?_
                  refine lv_lsub hx hb md_M_place_118 ?_
                  refine lv_lmul hx hb md_M_place_119 ?_
                  refine lv_ladd hx hb md_M_place_120 ?_
                  refine lv_lstore (lv' := [(6, .long ((320 * (Int32.toInt64 ((fM_hinges gO vr vw vh vt vd) - 1))) + ((Int32.toInt64 k) * ((4 * vh) - (2 * 320))))), (4, .long 320), (3, .int (fM_hinges gO vr vw vh vt vd)), (0, .ref nA), (1, .int k), (2, .int part)]) hx hb md_M_place_121 hl (by decide) rfl (fun ls hl => ?_)
                  refine lv_iload_n hx hb md_M_place_123 rfl (lv_at hl 2 rfl) ?_
                  refine lv_iconst (v := 1) hx hb md_M_place_124 (by decide) ?_
                  refine lv_icmp_ne (tgt := 134) hx hb md_M_place_125 (by decide) (fun c15 => ?_) (fun c15 => ?_)
                  · refine lv_ldc2 hx hb hown (hg _ wd_694) md_M_place_134 ?_
                    refine lv_iload_n hx hb md_M_place_137 rfl (lv_at hl 2 rfl) ?_
                    refine lv_iconst (v := 1) hx hb md_M_place_138 (by decide) ?_
                    refine lv_isub hx hb md_M_place_139 ?_
                    refine lv_i2l (v := Int32.toInt64 ((fM_hinges gO vr vw vh vt vd) - 1)) hx hb md_M_place_140 rfl ?_
                    refine lv_lmul hx hb md_M_place_141 ?_
                    refine lv_lstore (lv' := [(8, .long (4 * (Int32.toInt64 ((fM_hinges gO vr vw vh vt vd) - 1)))), (6, .long ((320 * (Int32.toInt64 ((fM_hinges gO vr vw vh vt vd) - 1))) + ((Int32.toInt64 k) * ((4 * vh) - (2 * 320))))), (4, .long 320), (3, .int (fM_hinges gO vr vw vh vt vd)), (0, .ref nA), (1, .int k), (2, .int part)]) hx hb md_M_place_142 hl (by decide) rfl (fun ls hl => ?_)
                    refine lv_lload hx hb md_M_place_144 (lv_at hl 1 rfl) ?_
                    refine lv_lload hx hb md_M_place_146 (lv_at hl 0 rfl) ?_
                    have hPc16 := hP.sub (ws' := []) [] rfl
                    refine pu_l (W.runS (As := [.long ((320 * (Int32.toInt64 ((fM_hinges gO vr vw vh vt vd) - 1))) + ((Int32.toInt64 k) * ((4 * vh) - (2 * 320)))), .long (4 * (Int32.toInt64 ((fM_hinges gO vr vw vh vt vd) - 1)))]) (rest := []) ⟨hx, hb, hml, hown, hg⟩ (ct_M_common l dC dI cC cI cJ ((320 * (Int32.toInt64 ((fM_hinges gO vr vw vh vt vd) - 1))) + ((Int32.toInt64 k) * ((4 * vh) - (2 * 320)))) (4 * (Int32.toInt64 ((fM_hinges gO vr vw vh vt vd) - 1))) ((hp2 _ (Or.inr ⟨rfl, c13⟩) _ (nh_1 c4) c14 c5 c7).1) ((hp2 _ (Or.inr ⟨rfl, c13⟩) _ (nh_1 c4) c14 c5 c7).2.1)) (gw_cwS hg wd_677 mv_M_common rfl rfl ⟨Nat.le_of_ble_eq_true rfl, Nat.le_of_ble_eq_true rfl⟩) (pu_preS pu_blT hK hPc16 pu_e1) rfl rfl hl.1 rfl (lv_room (Nat.le_of_ble_eq_true rfl)) md_M_place_148 ⟨Nat.zero_le _, Nat.zero_le _⟩) ?_
                    refine lv_lstore (lv' := [(10, .long (fM_common ((320 * (Int32.toInt64 ((fM_hinges gO vr vw vh vt vd) - 1))) + ((Int32.toInt64 k) * ((4 * vh) - (2 * 320)))) (4 * (Int32.toInt64 ((fM_hinges gO vr vw vh vt vd) - 1))))), (8, .long (4 * (Int32.toInt64 ((fM_hinges gO vr vw vh vt vd) - 1)))), (6, .long ((320 * (Int32.toInt64 ((fM_hinges gO vr vw vh vt vd) - 1))) + ((Int32.toInt64 k) * ((4 * vh) - (2 * 320))))), (4, .long 320), (3, .int (fM_hinges gO vr vw vh vt vd)), (0, .ref nA), (1, .int k), (2, .int part)]) hx hb md_M_place_151 hl (by decide) rfl (fun ls hl => ?_)
                    refine lv_iload_n hx hb md_M_place_153 rfl (lv_at hl 7 rfl) ?_
                    refine lv_if_ne (tgt := 165) hx hb md_M_place_154 (by decide) (fun c17 => ?_) (fun c17 => ?_)
                    · refine lv_lload hx hb md_M_place_165 (lv_at hl 1 rfl) ?_
                      refine lv_lload hx hb md_M_place_167 (lv_at hl 0 rfl) ?_
                      refine lv_ldiv hx hb md_M_place_169 (hp2 _ (Or.inr ⟨rfl, c13⟩) _ (nh_1 c4) c14 c5 c7).2.2 ?_
                      exact W.lret (v := (4 * (Int32.toInt64 ((fM_hinges gO vr vw vh vt vd) - 1))) / (fM_common ((320 * (Int32.toInt64 ((fM_hinges gO vr vw vh vt vd) - 1))) + ((Int32.toInt64 k) * ((4 * vh) - (2 * 320)))) (4 * (Int32.toInt64 ((fM_hinges gO vr vw vh vt vd) - 1))))) hx hb hr (fun t ht hW => ⟨⟨(4 * (Int32.toInt64 ((fM_hinges gO vr vw vh vt vd) - 1))) / (fM_common ((320 * (Int32.toInt64 ((fM_hinges gO vr vw vh vt vd) - 1))) + ((Int32.toInt64 k) * ((4 * vh) - (2 * 320)))) (4 * (Int32.toInt64 ((fM_hinges gO vr vw vh vt vd) - 1)))), (0), rfl, (by rw [fM_place, if_neg c2, if_pos c4, if_neg c5, if_neg c7, if_neg c9, if_pos c11, if_pos c13, if_neg c14, if_neg c15, if_neg c17]), by have h9 := hP; rw [← ht] at h9; exact h9⟩, hS.F ht⟩) hS.2.2 md_M_place_170 hlocks
                    · refine lv_lload hx hb md_M_place_157 (lv_at hl 2 rfl) ?_
                      refine lv_lload hx hb md_M_place_159 (lv_at hl 0 rfl) ?_
                      refine lv_ldiv hx hb md_M_place_161 (hp2 _ (Or.inr ⟨rfl, c13⟩) _ (nh_1 c4) c14 c5 c7).2.2 ?_
                      refine lv_goto (tgt := 170) hx hb md_M_place_162 (by decide) ?_
                      exact W.lret (v := ((320 * (Int32.toInt64 ((fM_hinges gO vr vw vh vt vd) - 1))) + ((Int32.toInt64 k) * ((4 * vh) - (2 * 320)))) / (fM_common ((320 * (Int32.toInt64 ((fM_hinges gO vr vw vh vt vd) - 1))) + ((Int32.toInt64 k) * ((4 * vh) - (2 * 320)))) (4 * (Int32.toInt64 ((fM_hinges gO vr vw vh vt vd) - 1))))) hx hb hr (fun t ht hW => ⟨⟨((320 * (Int32.toInt64 ((fM_hinges gO vr vw vh vt vd) - 1))) + ((Int32.toInt64 k) * ((4 * vh) - (2 * 320)))) / (fM_common ((320 * (Int32.toInt64 ((fM_hinges gO vr vw vh vt vd) - 1))) + ((Int32.toInt64 k) * ((4 * vh) - (2 * 320)))) (4 * (Int32.toInt64 ((fM_hinges gO vr vw vh vt vd) - 1)))), (0), rfl, (by rw [fM_place, if_neg c2, if_pos c4, if_neg c5, if_neg c7, if_neg c9, if_pos c11, if_pos c13, if_neg c14, if_neg c15, if_pos c17]), by have h9 := hP; rw [← ht] at h9; exact h9⟩, hS.F ht⟩) hS.2.2 md_M_place_170 hlocks
                  · refine lv_ldc2 hx hb hown (hg _ wd_694) md_M_place_128 ?_
                    refine lv_goto (tgt := 142) hx hb md_M_place_131 (by decide) ?_
                    refine lv_lstore (lv' := [(8, .long 4), (6, .long ((320 * (Int32.toInt64 ((fM_hinges gO vr vw vh vt vd) - 1))) + ((Int32.toInt64 k) * ((4 * vh) - (2 * 320))))), (4, .long 320), (3, .int (fM_hinges gO vr vw vh vt vd)), (0, .ref nA), (1, .int k), (2, .int part)]) hx hb md_M_place_142 hl (by decide) rfl (fun ls hl => ?_)
                    refine lv_lload hx hb md_M_place_144 (lv_at hl 1 rfl) ?_
                    refine lv_lload hx hb md_M_place_146 (lv_at hl 0 rfl) ?_
                    have hPc18 := hP.sub (ws' := []) [] rfl
                    refine pu_l (W.runS (As := [.long ((320 * (Int32.toInt64 ((fM_hinges gO vr vw vh vt vd) - 1))) + ((Int32.toInt64 k) * ((4 * vh) - (2 * 320)))), .long 4]) (rest := []) ⟨hx, hb, hml, hown, hg⟩ (ct_M_common l dC dI cC cI cJ ((320 * (Int32.toInt64 ((fM_hinges gO vr vw vh vt vd) - 1))) + ((Int32.toInt64 k) * ((4 * vh) - (2 * 320)))) 4 (absurd c15 c14) (absurd c15 c14)) (gw_cwS hg wd_677 mv_M_common rfl rfl ⟨Nat.le_of_ble_eq_true rfl, Nat.le_of_ble_eq_true rfl⟩) (pu_preS pu_blT hK hPc18 pu_e1) rfl rfl hl.1 rfl (lv_room (Nat.le_of_ble_eq_true rfl)) md_M_place_148 ⟨Nat.zero_le _, Nat.zero_le _⟩) ?_
                    refine lv_lstore (lv' := [(10, .long (fM_common ((320 * (Int32.toInt64 ((fM_hinges gO vr vw vh vt vd) - 1))) + ((Int32.toInt64 k) * ((4 * vh) - (2 * 320)))) 4)), (8, .long 4), (6, .long ((320 * (Int32.toInt64 ((fM_hinges gO vr vw vh vt vd) - 1))) + ((Int32.toInt64 k) * ((4 * vh) - (2 * 320))))), (4, .long 320), (3, .int (fM_hinges gO vr vw vh vt vd)), (0, .ref nA), (1, .int k), (2, .int part)]) hx hb md_M_place_151 hl (by decide) rfl (fun ls hl => ?_)
                    refine lv_iload_n hx hb md_M_place_153 rfl (lv_at hl 7 rfl) ?_
                    refine lv_if_ne (tgt := 165) hx hb md_M_place_154 (by decide) (fun c19 => ?_) (fun c19 => ?_)
                    · refine lv_lload hx hb md_M_place_165 (lv_at hl 1 rfl) ?_
                      refine lv_lload hx hb md_M_place_167 (lv_at hl 0 rfl) ?_
                      refine lv_ldiv hx hb md_M_place_169 (absurd c15 c14) ?_
                      exact W.lret (v := 4 / (fM_common ((320 * (Int32.toInt64 ((fM_hinges gO vr vw vh vt vd) - 1))) + ((Int32.toInt64 k) * ((4 * vh) - (2 * 320)))) 4)) hx hb hr (fun t ht hW => ⟨⟨4 / (fM_common ((320 * (Int32.toInt64 ((fM_hinges gO vr vw vh vt vd) - 1))) + ((Int32.toInt64 k) * ((4 * vh) - (2 * 320)))) 4), (0), rfl, (by rw [fM_place, if_neg c2, if_pos c4, if_neg c5, if_neg c7, if_neg c9, if_pos c11, if_pos c13, if_neg c14, if_pos c15, if_neg c19]), by have h9 := hP; rw [← ht] at h9; exact h9⟩, hS.F ht⟩) hS.2.2 md_M_place_170 hlocks
                    · refine lv_lload hx hb md_M_place_157 (lv_at hl 2 rfl) ?_
                      refine lv_lload hx hb md_M_place_159 (lv_at hl 0 rfl) ?_
                      refine lv_ldiv hx hb md_M_place_161 (absurd c15 c14) ?_
                      refine lv_goto (tgt := 170) hx hb md_M_place_162 (by decide) ?_
                      exact W.lret (v := ((320 * (Int32.toInt64 ((fM_hinges gO vr vw vh vt vd) - 1))) + ((Int32.toInt64 k) * ((4 * vh) - (2 * 320)))) / (fM_common ((320 * (Int32.toInt64 ((fM_hinges gO vr vw vh vt vd) - 1))) + ((Int32.toInt64 k) * ((4 * vh) - (2 * 320)))) 4)) hx hb hr (fun t ht hW => ⟨⟨((320 * (Int32.toInt64 ((fM_hinges gO vr vw vh vt vd) - 1))) + ((Int32.toInt64 k) * ((4 * vh) - (2 * 320)))) / (fM_common ((320 * (Int32.toInt64 ((fM_hinges gO vr vw vh vt vd) - 1))) + ((Int32.toInt64 k) * ((4 * vh) - (2 * 320)))) 4), (0), rfl, (by rw [fM_place, if_neg c2, if_pos c4, if_neg c5, if_neg c7, if_neg c9, if_pos c11, if_pos c13, if_neg c14, if_pos c15, if_pos c19]), by have h9 := hP; rw [← ht] at h9; exact h9⟩, hS.F ht⟩) hS.2.2 md_M_place_170 hlocks
                · refine lv_ldc2 hx hb hown (hg _ wd_693) md_M_place_84 ?_
                  refine lv_aload_n hx hb md_M_place_87 rfl (lv_at hl 2 rfl) ?_
                  refine va_get (D := (dC, dI)) (ci := 5) (v := .long vh) (C := mR_M) (T := mT_M) (N := 18) hx hb hg gu_M hown hK hP 0 rfl rfl 10 (by decide) (hg _ wd_542) (fun _ h9 => h9) rfl md_M_place_88 ?_
                  refine lv_lmul hx hb md_M_place_91 ?_
                  refine lv_goto (tgt := 121) hx hb md_M_place_92 (by decide) ?_
                  refine lv_lstore (lv' := [(6, .long (2 * vh)), (4, .long 320), (3, .int (fM_hinges gO vr vw vh vt vd)), (0, .ref nA), (1, .int k), (2, .int part)]) hx hb md_M_place_121 hl (by decide) rfl (fun ls hl => ?_)
                  refine lv_iload_n hx hb md_M_place_123 rfl (lv_at hl 2 rfl) ?_
                  refine lv_iconst (v := 1) hx hb md_M_place_124 (by decide) ?_
                  refine lv_icmp_ne (tgt := 134) hx hb md_M_place_125 (by decide) (fun c20 => ?_) (fun c20 => ?_)
                  · refine lv_ldc2 hx hb hown (hg _ wd_694) md_M_place_134 ?_
                    refine lv_iload_n hx hb md_M_place_137 rfl (lv_at hl 2 rfl) ?_
                    refine lv_iconst (v := 1) hx hb md_M_place_138 (by decide) ?_
                    refine lv_isub hx hb md_M_place_139 ?_
                    refine lv_i2l (v := Int32.toInt64 ((fM_hinges gO vr vw vh vt vd) - 1)) hx hb md_M_place_140 rfl ?_
                    refine lv_lmul hx hb md_M_place_141 ?_
                    refine lv_lstore (lv' := [(8, .long (4 * (Int32.toInt64 ((fM_hinges gO vr vw vh vt vd) - 1)))), (6, .long (2 * vh)), (4, .long 320), (3, .int (fM_hinges gO vr vw vh vt vd)), (0, .ref nA), (1, .int k), (2, .int part)]) hx hb md_M_place_142 hl (by decide) rfl (fun ls hl => ?_)
                    refine lv_lload hx hb md_M_place_144 (lv_at hl 1 rfl) ?_
                    refine lv_lload hx hb md_M_place_146 (lv_at hl 0 rfl) ?_
                    have hPc21 := hP.sub (ws' := []) [] rfl
                    refine pu_l (W.runS (As := [.long (2 * vh), .long (4 * (Int32.toInt64 ((fM_hinges gO vr vw vh vt vd) - 1)))]) (rest := []) ⟨hx, hb, hml, hown, hg⟩ (ct_M_common l dC dI cC cI cJ (2 * vh) (4 * (Int32.toInt64 ((fM_hinges gO vr vw vh vt vd) - 1))) (absurd c14 c20) (absurd c14 c20)) (gw_cwS hg wd_677 mv_M_common rfl rfl ⟨Nat.le_of_ble_eq_true rfl, Nat.le_of_ble_eq_true rfl⟩) (pu_preS pu_blT hK hPc21 pu_e1) rfl rfl hl.1 rfl (lv_room (Nat.le_of_ble_eq_true rfl)) md_M_place_148 ⟨Nat.zero_le _, Nat.zero_le _⟩) ?_
                    refine lv_lstore (lv' := [(10, .long (fM_common (2 * vh) (4 * (Int32.toInt64 ((fM_hinges gO vr vw vh vt vd) - 1))))), (8, .long (4 * (Int32.toInt64 ((fM_hinges gO vr vw vh vt vd) - 1)))), (6, .long (2 * vh)), (4, .long 320), (3, .int (fM_hinges gO vr vw vh vt vd)), (0, .ref nA), (1, .int k), (2, .int part)]) hx hb md_M_place_151 hl (by decide) rfl (fun ls hl => ?_)
                    refine lv_iload_n hx hb md_M_place_153 rfl (lv_at hl 7 rfl) ?_
                    refine lv_if_ne (tgt := 165) hx hb md_M_place_154 (by decide) (fun c22 => ?_) (fun c22 => ?_)
                    · refine lv_lload hx hb md_M_place_165 (lv_at hl 1 rfl) ?_
                      refine lv_lload hx hb md_M_place_167 (lv_at hl 0 rfl) ?_
                      refine lv_ldiv hx hb md_M_place_169 (absurd c14 c20) ?_
                      exact W.lret (v := (4 * (Int32.toInt64 ((fM_hinges gO vr vw vh vt vd) - 1))) / (fM_common (2 * vh) (4 * (Int32.toInt64 ((fM_hinges gO vr vw vh vt vd) - 1))))) hx hb hr (fun t ht hW => ⟨⟨(4 * (Int32.toInt64 ((fM_hinges gO vr vw vh vt vd) - 1))) / (fM_common (2 * vh) (4 * (Int32.toInt64 ((fM_hinges gO vr vw vh vt vd) - 1)))), (0), rfl, (by rw [fM_place, if_neg c2, if_pos c4, if_neg c5, if_neg c7, if_neg c9, if_pos c11, if_pos c13, if_pos c14, if_neg c20, if_neg c22]), by have h9 := hP; rw [← ht] at h9; exact h9⟩, hS.F ht⟩) hS.2.2 md_M_place_170 hlocks
                    · refine lv_lload hx hb md_M_place_157 (lv_at hl 2 rfl) ?_
                      refine lv_lload hx hb md_M_place_159 (lv_at hl 0 rfl) ?_
                      refine lv_ldiv hx hb md_M_place_161 (absurd c14 c20) ?_
                      refine lv_goto (tgt := 170) hx hb md_M_place_162 (by decide) ?_
                      exact W.lret (v := (2 * vh) / (fM_common (2 * vh) (4 * (Int32.toInt64 ((fM_hinges gO vr vw vh vt vd) - 1))))) hx hb hr (fun t ht hW => ⟨⟨(2 * vh) / (fM_common (2 * vh) (4 * (Int32.toInt64 ((fM_hinges gO vr vw vh vt vd) - 1)))), (0), rfl, (by rw [fM_place, if_neg c2, if_pos c4, if_neg c5, if_neg c7, if_neg c9, if_pos c11, if_pos c13, if_pos c14, if_neg c20, if_pos c22]), by have h9 := hP; rw [← ht] at h9; exact h9⟩, hS.F ht⟩) hS.2.2 md_M_place_170 hlocks
                  · refine lv_ldc2 hx hb hown (hg _ wd_694) md_M_place_128 ?_
                    refine lv_goto (tgt := 142) hx hb md_M_place_131 (by decide) ?_
                    refine lv_lstore (lv' := [(8, .long 4), (6, .long (2 * vh)), (4, .long 320), (3, .int (fM_hinges gO vr vw vh vt vd)), (0, .ref nA), (1, .int k), (2, .int part)]) hx hb md_M_place_142 hl (by decide) rfl (fun ls hl => ?_)
                    refine lv_lload hx hb md_M_place_144 (lv_at hl 1 rfl) ?_
                    refine lv_lload hx hb md_M_place_146 (lv_at hl 0 rfl) ?_
                    have hPc23 := hP.sub (ws' := []) [] rfl
                    refine pu_l (W.runS (As := [.long (2 * vh), .long 4]) (rest := []) ⟨hx, hb, hml, hown, hg⟩ (ct_M_common l dC dI cC cI cJ (2 * vh) 4 hp1.1 (by decide)) (gw_cwS hg wd_677 mv_M_common rfl rfl ⟨Nat.le_of_ble_eq_true rfl, Nat.le_of_ble_eq_true rfl⟩) (pu_preS pu_blT hK hPc23 pu_e1) rfl rfl hl.1 rfl (lv_room (Nat.le_of_ble_eq_true rfl)) md_M_place_148 ⟨Nat.zero_le _, Nat.zero_le _⟩) ?_
                    refine lv_lstore (lv' := [(10, .long (fM_common (2 * vh) 4)), (8, .long 4), (6, .long (2 * vh)), (4, .long 320), (3, .int (fM_hinges gO vr vw vh vt vd)), (0, .ref nA), (1, .int k), (2, .int part)]) hx hb md_M_place_151 hl (by decide) rfl (fun ls hl => ?_)
                    refine lv_iload_n hx hb md_M_place_153 rfl (lv_at hl 7 rfl) ?_
                    refine lv_if_ne (tgt := 165) hx hb md_M_place_154 (by decide) (fun c24 => ?_) (fun c24 => ?_)
                    · refine lv_lload hx hb md_M_place_165 (lv_at hl 1 rfl) ?_
                      refine lv_lload hx hb md_M_place_167 (lv_at hl 0 rfl) ?_
                      refine lv_ldiv hx hb md_M_place_169 hp1.2 ?_
                      exact W.lret (v := 4 / (fM_common (2 * vh) 4)) hx hb hr (fun t ht hW => ⟨⟨4 / (fM_common (2 * vh) 4), (0), rfl, (by rw [fM_place, if_neg c2, if_pos c4, if_neg c5, if_neg c7, if_neg c9, if_pos c11, if_pos c13, if_pos c14, if_pos c20, if_neg c24]), by have h9 := hP; rw [← ht] at h9; exact h9⟩, hS.F ht⟩) hS.2.2 md_M_place_170 hlocks
                    · refine lv_lload hx hb md_M_place_157 (lv_at hl 2 rfl) ?_
                      refine lv_lload hx hb md_M_place_159 (lv_at hl 0 rfl) ?_
                      refine lv_ldiv hx hb md_M_place_161 hp1.2 ?_
                      refine lv_goto (tgt := 170) hx hb md_M_place_162 (by decide) ?_
                      exact W.lret (v := (2 * vh) / (fM_common (2 * vh) 4)) hx hb hr (fun t ht hW => ⟨⟨(2 * vh) / (fM_common (2 * vh) 4), (0), rfl, (by rw [fM_place, if_neg c2, if_pos c4, if_neg c5, if_neg c7, if_neg c9, if_pos c11, if_pos c13, if_pos c14, if_pos c20, if_pos c24]), by have h9 := hP; rw [← ht] at h9; exact h9⟩, hS.F ht⟩) hS.2.2 md_M_place_170 hlocks
              · refine lv_aload_n hx hb md_M_place_67 rfl (lv_at hl 1 rfl) ?_
                refine va_get (D := (dC, dI)) (ci := 5) (v := .long vh) (C := mR_M) (T := mT_M) (N := 18) hx hb hg gu_M hown hK hP 0 rfl rfl 10 (by decide) (hg _ wd_542) (fun _ h9 => h9) rfl md_M_place_68 ?_
                refine lv_goto (tgt := 77) hx hb md_M_place_71 (by decide) ?_
                refine lv_lstore (lv' := [(4, .long vh), (3, .int (fM_hinges gO vr vw vh vt vd)), (0, .ref nA), (1, .int k), (2, .int part)]) hx hb md_M_place_77 hl (by decide) rfl (fun ls hl => ?_)
                refine lv_iload_n hx hb md_M_place_79 rfl (lv_at hl 1 rfl) ?_
                refine lv_iconst (v := 1) hx hb md_M_place_80 (by decide) ?_
                refine lv_icmp_ne (tgt := 95) hx hb md_M_place_81 (by decide) (fun c25 => ?_) (fun c25 => ?_)
                · refine lv_lload hx hb md_M_place_95 (lv_at hl 0 rfl) ?_
                  refine lv_iload_n hx hb md_M_place_97 rfl (lv_at hl 1 rfl) ?_
                  refine lv_iconst (v := 1) hx hb md_M_place_98 (by decide) ?_
                  refine lv_isub hx hb md_M_place_99 ?_
                  refine lv_i2l (v := Int32.toInt64 ((fM_hinges gO vr vw vh vt vd) - 1)) hx hb md_M_place_100 rfl ?_
                  refine lv_lmul hx hb md_M_place_101 ?_
                  refine lv_iload_n hx hb md_M_place_102 rfl (lv_at hl 3 rfl) ?_
                  refine lv_i2l (v := Int32.toInt64 k) hx hb md_M_place_103 rfl ?_
                  refine lv_ldc2 hx hb hown (hg _ wd_694) md_M_place_104 ?_
                  refine lv_aload_n hx hb md_M_place_107 rfl (lv_at hl 2 rfl) ?_
                  refine va_get (D := (dC, dI)) (ci := 5) (v := .long vh) (C := mR_M) (T := mT_M) (N := 18) hx hb hg gu_M hown hK hP 0 rfl rfl 10 (by decide) (hg _ wd_542) (fun _ h9 => h9) rfl md_M_place_108 ?_
                  refine lv_lmul hx hb md_M_place_111 ?_
                  refine lv_ldc2 hx hb hown (hg _ wd_693) md_M_place_112 ?_
                  refine lv_lload hx hb md_M_place_115 (lv_at hl 0 rfl) ?_
                  refine lv_lmul hx hb md_M_place_117 ?_
                  refine lv_lsub hx hb md_M_place_118 ?_
                  refine lv_lmul hx hb md_M_place_119 ?_
                  refine lv_ladd hx hb md_M_place_120 ?_
                  refine lv_lstore (lv' := [(6, .long ((vh * (Int32.toInt64 ((fM_hinges gO vr vw vh vt vd) - 1))) + ((Int32.toInt64 k) * ((4 * vh) - (2 * vh))))), (4, .long vh), (3, .int (fM_hinges gO vr vw vh vt vd)), (0, .ref nA), (1, .int k), (2, .int part)]) hx hb md_M_place_121 hl (by decide) rfl (fun ls hl => ?_)
                  refine lv_iload_n hx hb md_M_place_123 rfl (lv_at hl 2 rfl) ?_
                  refine lv_iconst (v := 1) hx hb md_M_place_124 (by decide) ?_
                  refine lv_icmp_ne (tgt := 134) hx hb md_M_place_125 (by decide) (fun c26 => ?_) (fun c26 => ?_)
                  · refine lv_ldc2 hx hb hown (hg _ wd_694) md_M_place_134 ?_
                    refine lv_iload_n hx hb md_M_place_137 rfl (lv_at hl 2 rfl) ?_
                    refine lv_iconst (v := 1) hx hb md_M_place_138 (by decide) ?_
                    refine lv_isub hx hb md_M_place_139 ?_
                    refine lv_i2l (v := Int32.toInt64 ((fM_hinges gO vr vw vh vt vd) - 1)) hx hb md_M_place_140 rfl ?_
                    refine lv_lmul hx hb md_M_place_141 ?_
                    refine lv_lstore (lv' := [(8, .long (4 * (Int32.toInt64 ((fM_hinges gO vr vw vh vt vd) - 1)))), (6, .long ((vh * (Int32.toInt64 ((fM_hinges gO vr vw vh vt vd) - 1))) + ((Int32.toInt64 k) * ((4 * vh) - (2 * vh))))), (4, .long vh), (3, .int (fM_hinges gO vr vw vh vt vd)), (0, .ref nA), (1, .int k), (2, .int part)]) hx hb md_M_place_142 hl (by decide) rfl (fun ls hl => ?_)
                    refine lv_lload hx hb md_M_place_144 (lv_at hl 1 rfl) ?_
                    refine lv_lload hx hb md_M_place_146 (lv_at hl 0 rfl) ?_
                    have hPc27 := hP.sub (ws' := []) [] rfl
                    refine pu_l (W.runS (As := [.long ((vh * (Int32.toInt64 ((fM_hinges gO vr vw vh vt vd) - 1))) + ((Int32.toInt64 k) * ((4 * vh) - (2 * vh)))), .long (4 * (Int32.toInt64 ((fM_hinges gO vr vw vh vt vd) - 1)))]) (rest := []) ⟨hx, hb, hml, hown, hg⟩ (ct_M_common l dC dI cC cI cJ ((vh * (Int32.toInt64 ((fM_hinges gO vr vw vh vt vd) - 1))) + ((Int32.toInt64 k) * ((4 * vh) - (2 * vh)))) (4 * (Int32.toInt64 ((fM_hinges gO vr vw vh vt vd) - 1))) ((hp2 _ (Or.inl rfl) _ (nh_1 c4) c25 c5 c7).1) ((hp2 _ (Or.inl rfl) _ (nh_1 c4) c25 c5 c7).2.1)) (gw_cwS hg wd_677 mv_M_common rfl rfl ⟨Nat.le_of_ble_eq_true rfl, Nat.le_of_ble_eq_true rfl⟩) (pu_preS pu_blT hK hPc27 pu_e1) rfl rfl hl.1 rfl (lv_room (Nat.le_of_ble_eq_true rfl)) md_M_place_148 ⟨Nat.zero_le _, Nat.zero_le _⟩) ?_
                    refine lv_lstore (lv' := [(10, .long (fM_common ((vh * (Int32.toInt64 ((fM_hinges gO vr vw vh vt vd) - 1))) + ((Int32.toInt64 k) * ((4 * vh) - (2 * vh)))) (4 * (Int32.toInt64 ((fM_hinges gO vr vw vh vt vd) - 1))))), (8, .long (4 * (Int32.toInt64 ((fM_hinges gO vr vw vh vt vd) - 1)))), (6, .long ((vh * (Int32.toInt64 ((fM_hinges gO vr vw vh vt vd) - 1))) + ((Int32.toInt64 k) * ((4 * vh) - (2 * vh))))), (4, .long vh), (3, .int (fM_hinges gO vr vw vh vt vd)), (0, .ref nA), (1, .int k), (2, .int part)]) hx hb md_M_place_151 hl (by decide) rfl (fun ls hl => ?_)
                    refine lv_iload_n hx hb md_M_place_153 rfl (lv_at hl 7 rfl) ?_
                    refine lv_if_ne (tgt := 165) hx hb md_M_place_154 (by decide) (fun c28 => ?_) (fun c28 => ?_)
                    · refine lv_lload hx hb md_M_place_165 (lv_at hl 1 rfl) ?_
                      refine lv_lload hx hb md_M_place_167 (lv_at hl 0 rfl) ?_
                      refine lv_ldiv hx hb md_M_place_169 (hp2 _ (Or.inl rfl) _ (nh_1 c4) c25 c5 c7).2.2 ?_
                      exact W.lret (v := (4 * (Int32.toInt64 ((fM_hinges gO vr vw vh vt vd) - 1))) / (fM_common ((vh * (Int32.toInt64 ((fM_hinges gO vr vw vh vt vd) - 1))) + ((Int32.toInt64 k) * ((4 * vh) - (2 * vh)))) (4 * (Int32.toInt64 ((fM_hinges gO vr vw vh vt vd) - 1))))) hx hb hr (fun t ht hW => ⟨⟨(4 * (Int32.toInt64 ((fM_hinges gO vr vw vh vt vd) - 1))) / (fM_common ((vh * (Int32.toInt64 ((fM_hinges gO vr vw vh vt vd) - 1))) + ((Int32.toInt64 k) * ((4 * vh) - (2 * vh)))) (4 * (Int32.toInt64 ((fM_hinges gO vr vw vh vt vd) - 1)))), (0), rfl, (by rw [fM_place, if_neg c2, if_pos c4, if_neg c5, if_neg c7, if_neg c9, if_pos c11, if_neg c13, if_neg c25, if_neg c26, if_neg c28]), by have h9 := hP; rw [← ht] at h9; exact h9⟩, hS.F ht⟩) hS.2.2 md_M_place_170 hlocks
                    · refine lv_lload hx hb md_M_place_157 (lv_at hl 2 rfl) ?_
                      refine lv_lload hx hb md_M_place_159 (lv_at hl 0 rfl) ?_
                      refine lv_ldiv hx hb md_M_place_161 (hp2 _ (Or.inl rfl) _ (nh_1 c4) c25 c5 c7).2.2 ?_
                      refine lv_goto (tgt := 170) hx hb md_M_place_162 (by decide) ?_
                      exact W.lret (v := ((vh * (Int32.toInt64 ((fM_hinges gO vr vw vh vt vd) - 1))) + ((Int32.toInt64 k) * ((4 * vh) - (2 * vh)))) / (fM_common ((vh * (Int32.toInt64 ((fM_hinges gO vr vw vh vt vd) - 1))) + ((Int32.toInt64 k) * ((4 * vh) - (2 * vh)))) (4 * (Int32.toInt64 ((fM_hinges gO vr vw vh vt vd) - 1))))) hx hb hr (fun t ht hW => ⟨⟨((vh * (Int32.toInt64 ((fM_hinges gO vr vw vh vt vd) - 1))) + ((Int32.toInt64 k) * ((4 * vh) - (2 * vh)))) / (fM_common ((vh * (Int32.toInt64 ((fM_hinges gO vr vw vh vt vd) - 1))) + ((Int32.toInt64 k) * ((4 * vh) - (2 * vh)))) (4 * (Int32.toInt64 ((fM_hinges gO vr vw vh vt vd) - 1)))), (0), rfl, (by rw [fM_place, if_neg c2, if_pos c4, if_neg c5, if_neg c7, if_neg c9, if_pos c11, if_neg c13, if_neg c25, if_neg c26, if_pos c28]), by have h9 := hP; rw [← ht] at h9; exact h9⟩, hS.F ht⟩) hS.2.2 md_M_place_170 hlocks
                  · refine lv_ldc2 hx hb hown (hg _ wd_694) md_M_place_128 ?_
                    refine lv_goto (tgt := 142) hx hb md_M_place_131 (by decide) ?_
                    refine lv_lstore (lv' := [(8, .long 4), (6, .long ((vh * (Int32.toInt64 ((fM_hinges gO vr vw vh vt vd) - 1))) + ((Int32.toInt64 k) * ((4 * vh) - (2 * vh))))), (4, .long vh), (3, .int (fM_hinges gO vr vw vh vt vd)), (0, .ref nA), (1, .int k), (2, .int part)]) hx hb md_M_place_142 hl (by decide) rfl (fun ls hl => ?_)
                    refine lv_lload hx hb md_M_place_144 (lv_at hl 1 rfl) ?_
                    refine lv_lload hx hb md_M_place_146 (lv_at hl 0 rfl) ?_
                    have hPc29 := hP.sub (ws' := []) [] rfl
                    refine pu_l (W.runS (As := [.long ((vh * (Int32.toInt64 ((fM_hinges gO vr vw vh vt vd) - 1))) + ((Int32.toInt64 k) * ((4 * vh) - (2 * vh)))), .long 4]) (rest := []) ⟨hx, hb, hml, hown, hg⟩ (ct_M_common l dC dI cC cI cJ ((vh * (Int32.toInt64 ((fM_hinges gO vr vw vh vt vd) - 1))) + ((Int32.toInt64 k) * ((4 * vh) - (2 * vh)))) 4 (absurd c26 c25) (absurd c26 c25)) (gw_cwS hg wd_677 mv_M_common rfl rfl ⟨Nat.le_of_ble_eq_true rfl, Nat.le_of_ble_eq_true rfl⟩) (pu_preS pu_blT hK hPc29 pu_e1) rfl rfl hl.1 rfl (lv_room (Nat.le_of_ble_eq_true rfl)) md_M_place_148 ⟨Nat.zero_le _, Nat.zero_le _⟩) ?_
                    refine lv_lstore (lv' := [(10, .long (fM_common ((vh * (Int32.toInt64 ((fM_hinges gO vr vw vh vt vd) - 1))) + ((Int32.toInt64 k) * ((4 * vh) - (2 * vh)))) 4)), (8, .long 4), (6, .long ((vh * (Int32.toInt64 ((fM_hinges gO vr vw vh vt vd) - 1))) + ((Int32.toInt64 k) * ((4 * vh) - (2 * vh))))), (4, .long vh), (3, .int (fM_hinges gO vr vw vh vt vd)), (0, .ref nA), (1, .int k), (2, .int part)]) hx hb md_M_place_151 hl (by decide) rfl (fun ls hl => ?_)
                    refine lv_iload_n hx hb md_M_place_153 rfl (lv_at hl 7 rfl) ?_
                    refine lv_if_ne (tgt := 165) hx hb md_M_place_154 (by decide) (fun c30 => ?_) (fun c30 => ?_)
                    · refine lv_lload hx hb md_M_place_165 (lv_at hl 1 rfl) ?_
                      refine lv_lload hx hb md_M_place_167 (lv_at hl 0 rfl) ?_
                      refine lv_ldiv hx hb md_M_place_169 (absurd c26 c25) ?_
                      exact W.lret (v := 4 / (fM_common ((vh * (Int32.toInt64 ((fM_hinges gO vr vw vh vt vd) - 1))) + ((Int32.toInt64 k) * ((4 * vh) - (2 * vh)))) 4)) hx hb hr (fun t ht hW => ⟨⟨4 / (fM_common ((vh * (Int32.toInt64 ((fM_hinges gO vr vw vh vt vd) - 1))) + ((Int32.toInt64 k) * ((4 * vh) - (2 * vh)))) 4), (0), rfl, (by rw [fM_place, if_neg c2, if_pos c4, if_neg c5, if_neg c7, if_neg c9, if_pos c11, if_neg c13, if_neg c25, if_pos c26, if_neg c30]), by have h9 := hP; rw [← ht] at h9; exact h9⟩, hS.F ht⟩) hS.2.2 md_M_place_170 hlocks
                    · refine lv_lload hx hb md_M_place_157 (lv_at hl 2 rfl) ?_
                      refine lv_lload hx hb md_M_place_159 (lv_at hl 0 rfl) ?_
                      refine lv_ldiv hx hb md_M_place_161 (absurd c26 c25) ?_
                      refine lv_goto (tgt := 170) hx hb md_M_place_162 (by decide) ?_
                      exact W.lret (v := ((vh * (Int32.toInt64 ((fM_hinges gO vr vw vh vt vd) - 1))) + ((Int32.toInt64 k) * ((4 * vh) - (2 * vh)))) / (fM_common ((vh * (Int32.toInt64 ((fM_hinges gO vr vw vh vt vd) - 1))) + ((Int32.toInt64 k) * ((4 * vh) - (2 * vh)))) 4)) hx hb hr (fun t ht hW => ⟨⟨((vh * (Int32.toInt64 ((fM_hinges gO vr vw vh vt vd) - 1))) + ((Int32.toInt64 k) * ((4 * vh) - (2 * vh)))) / (fM_common ((vh * (Int32.toInt64 ((fM_hinges gO vr vw vh vt vd) - 1))) + ((Int32.toInt64 k) * ((4 * vh) - (2 * vh)))) 4), (0), rfl, (by rw [fM_place, if_neg c2, if_pos c4, if_neg c5, if_neg c7, if_neg c9, if_pos c11, if_neg c13, if_neg c25, if_pos c26, if_pos c30]), by have h9 := hP; rw [← ht] at h9; exact h9⟩, hS.F ht⟩) hS.2.2 md_M_place_170 hlocks
                · refine lv_ldc2 hx hb hown (hg _ wd_693) md_M_place_84 ?_
                  refine lv_aload_n hx hb md_M_place_87 rfl (lv_at hl 2 rfl) ?_
                  refine va_get (D := (dC, dI)) (ci := 5) (v := .long vh) (C := mR_M) (T := mT_M) (N := 18) hx hb hg gu_M hown hK hP 0 rfl rfl 10 (by decide) (hg _ wd_542) (fun _ h9 => h9) rfl md_M_place_88 ?_
                  refine lv_lmul hx hb md_M_place_91 ?_
                  refine lv_goto (tgt := 121) hx hb md_M_place_92 (by decide) ?_
                  refine lv_lstore (lv' := [(6, .long (2 * vh)), (4, .long vh), (3, .int (fM_hinges gO vr vw vh vt vd)), (0, .ref nA), (1, .int k), (2, .int part)]) hx hb md_M_place_121 hl (by decide) rfl (fun ls hl => ?_)
                  refine lv_iload_n hx hb md_M_place_123 rfl (lv_at hl 2 rfl) ?_
                  refine lv_iconst (v := 1) hx hb md_M_place_124 (by decide) ?_
                  refine lv_icmp_ne (tgt := 134) hx hb md_M_place_125 (by decide) (fun c31 => ?_) (fun c31 => ?_)
                  · refine lv_ldc2 hx hb hown (hg _ wd_694) md_M_place_134 ?_
                    refine lv_iload_n hx hb md_M_place_137 rfl (lv_at hl 2 rfl) ?_
                    refine lv_iconst (v := 1) hx hb md_M_place_138 (by decide) ?_
                    refine lv_isub hx hb md_M_place_139 ?_
                    refine lv_i2l (v := Int32.toInt64 ((fM_hinges gO vr vw vh vt vd) - 1)) hx hb md_M_place_140 rfl ?_
                    refine lv_lmul hx hb md_M_place_141 ?_
                    refine lv_lstore (lv' := [(8, .long (4 * (Int32.toInt64 ((fM_hinges gO vr vw vh vt vd) - 1)))), (6, .long (2 * vh)), (4, .long vh), (3, .int (fM_hinges gO vr vw vh vt vd)), (0, .ref nA), (1, .int k), (2, .int part)]) hx hb md_M_place_142 hl (by decide) rfl (fun ls hl => ?_)
                    refine lv_lload hx hb md_M_place_144 (lv_at hl 1 rfl) ?_
                    refine lv_lload hx hb md_M_place_146 (lv_at hl 0 rfl) ?_
                    have hPc32 := hP.sub (ws' := []) [] rfl
                    refine pu_l (W.runS (As := [.long (2 * vh), .long (4 * (Int32.toInt64 ((fM_hinges gO vr vw vh vt vd) - 1)))]) (rest := []) ⟨hx, hb, hml, hown, hg⟩ (ct_M_common l dC dI cC cI cJ (2 * vh) (4 * (Int32.toInt64 ((fM_hinges gO vr vw vh vt vd) - 1))) (absurd c25 c31) (absurd c25 c31)) (gw_cwS hg wd_677 mv_M_common rfl rfl ⟨Nat.le_of_ble_eq_true rfl, Nat.le_of_ble_eq_true rfl⟩) (pu_preS pu_blT hK hPc32 pu_e1) rfl rfl hl.1 rfl (lv_room (Nat.le_of_ble_eq_true rfl)) md_M_place_148 ⟨Nat.zero_le _, Nat.zero_le _⟩) ?_
                    refine lv_lstore (lv' := [(10, .long (fM_common (2 * vh) (4 * (Int32.toInt64 ((fM_hinges gO vr vw vh vt vd) - 1))))), (8, .long (4 * (Int32.toInt64 ((fM_hinges gO vr vw vh vt vd) - 1)))), (6, .long (2 * vh)), (4, .long vh), (3, .int (fM_hinges gO vr vw vh vt vd)), (0, .ref nA), (1, .int k), (2, .int part)]) hx hb md_M_place_151 hl (by decide) rfl (fun ls hl => ?_)
                    refine lv_iload_n hx hb md_M_place_153 rfl (lv_at hl 7 rfl) ?_
                    refine lv_if_ne (tgt := 165) hx hb md_M_place_154 (by decide) (fun c33 => ?_) (fun c33 => ?_)
                    · refine lv_lload hx hb md_M_place_165 (lv_at hl 1 rfl) ?_
                      refine lv_lload hx hb md_M_place_167 (lv_at hl 0 rfl) ?_
                      refine lv_ldiv hx hb md_M_place_169 (absurd c25 c31) ?_
                      exact W.lret (v := (4 * (Int32.toInt64 ((fM_hinges gO vr vw vh vt vd) - 1))) / (fM_common (2 * vh) (4 * (Int32.toInt64 ((fM_hinges gO vr vw vh vt vd) - 1))))) hx hb hr (fun t ht hW => ⟨⟨(4 * (Int32.toInt64 ((fM_hinges gO vr vw vh vt vd) - 1))) / (fM_common (2 * vh) (4 * (Int32.toInt64 ((fM_hinges gO vr vw vh vt vd) - 1)))), (0), rfl, (by rw [fM_place, if_neg c2, if_pos c4, if_neg c5, if_neg c7, if_neg c9, if_pos c11, if_neg c13, if_pos c25, if_neg c31, if_neg c33]), by have h9 := hP; rw [← ht] at h9; exact h9⟩, hS.F ht⟩) hS.2.2 md_M_place_170 hlocks
                    · refine lv_lload hx hb md_M_place_157 (lv_at hl 2 rfl) ?_
                      refine lv_lload hx hb md_M_place_159 (lv_at hl 0 rfl) ?_
                      refine lv_ldiv hx hb md_M_place_161 (absurd c25 c31) ?_
                      refine lv_goto (tgt := 170) hx hb md_M_place_162 (by decide) ?_
                      exact W.lret (v := (2 * vh) / (fM_common (2 * vh) (4 * (Int32.toInt64 ((fM_hinges gO vr vw vh vt vd) - 1))))) hx hb hr (fun t ht hW => ⟨⟨(2 * vh) / (fM_common (2 * vh) (4 * (Int32.toInt64 ((fM_hinges gO vr vw vh vt vd) - 1)))), (0), rfl, (by rw [fM_place, if_neg c2, if_pos c4, if_neg c5, if_neg c7, if_neg c9, if_pos c11, if_neg c13, if_pos c25, if_neg c31, if_pos c33]), by have h9 := hP; rw [← ht] at h9; exact h9⟩, hS.F ht⟩) hS.2.2 md_M_place_170 hlocks
                  · refine lv_ldc2 hx hb hown (hg _ wd_694) md_M_place_128 ?_
                    refine lv_goto (tgt := 142) hx hb md_M_place_131 (by decide) ?_
                    refine lv_lstore (lv' := [(8, .long 4), (6, .long (2 * vh)), (4, .long vh), (3, .int (fM_hinges gO vr vw vh vt vd)), (0, .ref nA), (1, .int k), (2, .int part)]) hx hb md_M_place_142 hl (by decide) rfl (fun ls hl => ?_)
                    refine lv_lload hx hb md_M_place_144 (lv_at hl 1 rfl) ?_
                    refine lv_lload hx hb md_M_place_146 (lv_at hl 0 rfl) ?_
                    have hPc34 := hP.sub (ws' := []) [] rfl
                    refine pu_l (W.runS (As := [.long (2 * vh), .long 4]) (rest := []) ⟨hx, hb, hml, hown, hg⟩ (ct_M_common l dC dI cC cI cJ (2 * vh) 4 hp1.1 (by decide)) (gw_cwS hg wd_677 mv_M_common rfl rfl ⟨Nat.le_of_ble_eq_true rfl, Nat.le_of_ble_eq_true rfl⟩) (pu_preS pu_blT hK hPc34 pu_e1) rfl rfl hl.1 rfl (lv_room (Nat.le_of_ble_eq_true rfl)) md_M_place_148 ⟨Nat.zero_le _, Nat.zero_le _⟩) ?_
                    refine lv_lstore (lv' := [(10, .long (fM_common (2 * vh) 4)), (8, .long 4), (6, .long (2 * vh)), (4, .long vh), (3, .int (fM_hinges gO vr vw vh vt vd)), (0, .ref nA), (1, .int k), (2, .int part)]) hx hb md_M_place_151 hl (by decide) rfl (fun ls hl => ?_)
                    refine lv_iload_n hx hb md_M_place_153 rfl (lv_at hl 7 rfl) ?_
                    refine lv_if_ne (tgt := 165) hx hb md_M_place_154 (by decide) (fun c35 => ?_) (fun c35 => ?_)
                    · refine lv_lload hx hb md_M_place_165 (lv_at hl 1 rfl) ?_
                      refine lv_lload hx hb md_M_place_167 (lv_at hl 0 rfl) ?_
                      refine lv_ldiv hx hb md_M_place_169 hp1.2 ?_
                      exact W.lret (v := 4 / (fM_common (2 * vh) 4)) hx hb hr (fun t ht hW => ⟨⟨4 / (fM_common (2 * vh) 4), (0), rfl, (by rw [fM_place, if_neg c2, if_pos c4, if_neg c5, if_neg c7, if_neg c9, if_pos c11, if_neg c13, if_pos c25, if_pos c31, if_neg c35]), by have h9 := hP; rw [← ht] at h9; exact h9⟩, hS.F ht⟩) hS.2.2 md_M_place_170 hlocks
                    · refine lv_lload hx hb md_M_place_157 (lv_at hl 2 rfl) ?_
                      refine lv_lload hx hb md_M_place_159 (lv_at hl 0 rfl) ?_
                      refine lv_ldiv hx hb md_M_place_161 hp1.2 ?_
                      refine lv_goto (tgt := 170) hx hb md_M_place_162 (by decide) ?_
                      exact W.lret (v := (2 * vh) / (fM_common (2 * vh) 4)) hx hb hr (fun t ht hW => ⟨⟨(2 * vh) / (fM_common (2 * vh) 4), (0), rfl, (by rw [fM_place, if_neg c2, if_pos c4, if_neg c5, if_neg c7, if_neg c9, if_pos c11, if_neg c13, if_pos c25, if_pos c31, if_pos c35]), by have h9 := hP; rw [← ht] at h9; exact h9⟩, hS.F ht⟩) hS.2.2 md_M_place_170 hlocks
            · refine lv_iconst (v := 2) hx hb md_M_place_39 (by decide) ?_
              refine lv_goto (tgt := 44) hx hb md_M_place_40 (by decide) ?_
              refine va_put (D := (dC, dI)) (ci := 5) (v := .int 2) (ty := .int) (C := mR_M) (T := mT_M) (N := 18) hx hb hg gu_M mF_M mO_M mN_M hown hK hP hD hS 0 rfl rfl 0 (by decide) (hg _ wd_532) (fun _ h9 => h9) rfl (by decide +kernel) rfl rfl (Nat.le_of_ble_eq_true rfl) md_M_place_44 (fun H locs hP hD hS => ?_)
              have hP : va_P (dC, dI) mC [(nA, .inr (5, [.int 2, .ref nT, .int vs, .int va, .int vf, .int (nI vr), .ref nO, .ref nU, .ref nV, .long vw, .long vh, .long vt, .long vd, .ref nX, .ref nY, .ref nR, .ref nC, .ref nS])), (nT, .inl (cI, 300, .inl gT)), (nO, .inl (cI, 128, .inl gO)), (nU, .inl (cI, 128, .inl gU)), (nV, .inl (cI, 16, .inl gV)), (nX, .inl (cJ, 16, .inr (.inl gX))), (nY, .inl (cJ, 16, .inr (.inl gY))), (nR, .inl (cJ, 16, .inr (.inl gR))), (nC, .inl (cI, 9, .inl gC)), (nS, .inl (cI, 9, .inl gS))] H := hP
              have hD : va_D A [(nA, .inr (5, [.int 2, .ref nT, .int vs, .int va, .int vf, .int (nI vr), .ref nO, .ref nU, .ref nV, .long vw, .long vh, .long vt, .long vd, .ref nX, .ref nY, .ref nR, .ref nC, .ref nS])), (nT, .inl (cI, 300, .inl gT)), (nO, .inl (cI, 128, .inl gO)), (nU, .inl (cI, 128, .inl gU)), (nV, .inl (cI, 16, .inl gV)), (nX, .inl (cJ, 16, .inr (.inl gX))), (nY, .inl (cJ, 16, .inr (.inl gY))), (nR, .inl (cJ, 16, .inr (.inl gR))), (nC, .inl (cI, 9, .inl gC)), (nS, .inl (cI, 9, .inl gS))] := hD
              refine lv_aload_n hx hb md_M_place_47 rfl (lv_at hl 1 rfl) ?_
              refine va_get (D := (dC, dI)) (ci := 5) (v := .int 2) (C := mR_M) (T := mT_M) (N := 18) hx hb hg gu_M hown hK hP 0 rfl rfl 0 (by decide) (hg _ wd_532) (fun _ h9 => h9) rfl md_M_place_48 ?_
              refine lv_if_le (tgt := 56) hx hb md_M_place_51 (by decide) (fun c36 => absurd c36 (by decide)) (fun _ => ?_)
              refine lv_lconst (v := 0) hx hb md_M_place_54 (by decide) ?_
              exact W.lret (v := 0) hx hb hr (fun t ht hW => ⟨⟨0, (2), rfl, (by rw [fM_place, if_neg c2, if_pos c4, if_neg c5, if_neg c7, if_neg c9, if_neg c11]), by have h9 := hP; rw [← ht] at h9; exact h9⟩, hS.F ht⟩) hS.2.2 md_M_place_55 hlocks
    · refine lv_iconst (v := 1) hx hb md_M_place_17 (by decide) ?_
      refine lv_goto (tgt := 44) hx hb md_M_place_18 (by decide) ?_
      refine va_put (D := (dC, dI)) (ci := 5) (v := .int 1) (ty := .int) (C := mR_M) (T := mT_M) (N := 18) hx hb hg gu_M mF_M mO_M mN_M hown hK hP hD hS 0 rfl rfl 0 (by decide) (hg _ wd_532) (fun _ h9 => h9) rfl (by decide +kernel) rfl rfl (Nat.le_of_ble_eq_true rfl) md_M_place_44 (fun H locs hP hD hS => ?_)
      have hP : va_P (dC, dI) mC [(nA, .inr (5, [.int 1, .ref nT, .int vs, .int va, .int vf, .int (nI vr), .ref nO, .ref nU, .ref nV, .long vw, .long vh, .long vt, .long vd, .ref nX, .ref nY, .ref nR, .ref nC, .ref nS])), (nT, .inl (cI, 300, .inl gT)), (nO, .inl (cI, 128, .inl gO)), (nU, .inl (cI, 128, .inl gU)), (nV, .inl (cI, 16, .inl gV)), (nX, .inl (cJ, 16, .inr (.inl gX))), (nY, .inl (cJ, 16, .inr (.inl gY))), (nR, .inl (cJ, 16, .inr (.inl gR))), (nC, .inl (cI, 9, .inl gC)), (nS, .inl (cI, 9, .inl gS))] H := hP
      have hD : va_D A [(nA, .inr (5, [.int 1, .ref nT, .int vs, .int va, .int vf, .int (nI vr), .ref nO, .ref nU, .ref nV, .long vw, .long vh, .long vt, .long vd, .ref nX, .ref nY, .ref nR, .ref nC, .ref nS])), (nT, .inl (cI, 300, .inl gT)), (nO, .inl (cI, 128, .inl gO)), (nU, .inl (cI, 128, .inl gU)), (nV, .inl (cI, 16, .inl gV)), (nX, .inl (cJ, 16, .inr (.inl gX))), (nY, .inl (cJ, 16, .inr (.inl gY))), (nR, .inl (cJ, 16, .inr (.inl gR))), (nC, .inl (cI, 9, .inl gC)), (nS, .inl (cI, 9, .inl gS))] := hD
      refine lv_aload_n hx hb md_M_place_47 rfl (lv_at hl 1 rfl) ?_
      refine va_get (D := (dC, dI)) (ci := 5) (v := .int 1) (C := mR_M) (T := mT_M) (N := 18) hx hb hg gu_M hown hK hP 0 rfl rfl 0 (by decide) (hg _ wd_532) (fun _ h9 => h9) rfl md_M_place_48 ?_
      refine lv_if_le (tgt := 56) hx hb md_M_place_51 (by decide) (fun c37 => absurd c37 (by decide)) (fun _ => ?_)
      refine lv_lconst (v := 0) hx hb md_M_place_54 (by decide) ?_
      exact W.lret (v := 0) hx hb hr (fun t ht hW => ⟨⟨0, (1), rfl, (by rw [fM_place, if_neg c2, if_neg c4]), by have h9 := hP; rw [← ht] at h9; exact h9⟩, hS.F ht⟩) hS.2.2 md_M_place_55 hlocks
