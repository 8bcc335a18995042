theorem nb_le (x : Int32) : ∃ w : Nat, w ≤ 6 ∧ fK_numbersBehind x = nI w := by
  unfold fK_numbersBehind
  repeat' split
  · exact ⟨6, by omega, by decide⟩
  · exact ⟨2, by omega, by decide⟩
  · exact ⟨3, by omega, by decide⟩
  · exact ⟨0, by omega, by decide⟩
theorem nx_m {row : Int32} {k : Nat} (hrn : ∀ (x : Int32) (k : Nat), k < 6 → x = nI k → vp_in (row * 6 + x) 96) : nI k = 1 ∨ nI k = 3 → vp_in (row * 6 + (nI k - 1)) 96 := by
  intro h
  rcases h with h | h
  · rw [h]; exact hrn _ 0 (by decide) (by decide)
  · rw [h]; exact hrn _ 2 (by decide) (by decide)

def fS_add (xl : Nat → Int32) (xz : Int32) (u0 : Int32) : Int32 × (Nat → Int32) × Int32 := if u0 < 33 then (0, xl, xz) else (if 126 < u0 then (0, xl, xz) else (if xz < 300 then (1, upd xl (Int32.toNatClampNeg xz) (vp_nar .char ((Int32.toUInt32 u0 % 65536).toInt32)), xz + 1) else (0, xl, xz)))
theorem zS_add (xl : Nat → Int32) (xz : Int32) (u0 : Int32) : narrow .boolean (.int (fS_add xl xz u0).1) = .int (fS_add xl xz u0).1 := by
  unfold fS_add
  repeat' split
  all_goals (dsimp only; rfl)
set_option maxHeartbeats 1000000 in
set_option maxRecDepth 100000 in
theorem ct_S_add (l : Launch) (dC : Nat → ClassId) (dI : Nat → Nat → Nat) (cC cI cJ : ClassId) (xA : Nat) (xL : Nat) (xl : Nat → Int32) (xz : Int32) (u0 : Int32)  (hin : xz < 300 → vp_in xz 300) : Met l my_S_add (.code my_S_add mb_S_add 2 (some .boolean) :: gw_l) ({ frames := 0, cells := 0, slots := 0, locals := 0 }) (mu_Pc (dC, dI) mC [(cC, .char), (cI, .int), (cJ, .long)] [(xA, .inr (3, [.ref xL, .int xz])), (xL, .inl (cC, 300, .inl xl))] (fun _ => True) [.ref xA, .int u0]) (va_Qi (fun (r : Int32) (u : (Nat → Int32) × Int32) => (r, u) = fS_add xl xz u0) (fun u t => va_P (dC, dI) mC [(xA, .inr (3, [.ref xL, .int u.2])), (xL, .inl (cC, 300, .inl u.1))] t.heap) (mu_A [(xA, .inr (3, [.ref xL, .int xz])), (xL, .inl (cC, 300, .inl xl))])) 0 0 (mu_A [(xA, .inr (3, [.ref xL, .int xz])), (xL, .inl (cC, 300, .inl xl))]) := by
  refine Met.ofW (cc := mb_S_add) (maxL := 2) (ret := (some .boolean)) (by decide) rfl ?_
  intro p e s m args below meth c s₁ B hml hv
  obtain ⟨rfl, hP, hK, hD0, hE⟩ := hv
  have hx := B.exec
  have hb := B.bytes
  have hr := B.returns
  have hts := atoms_spec (ws := (.code my_S_add mb_S_add 2 (some .boolean) :: gw_l)) B.pre
  have hg : ∀ w ∈ gw_l, w.before _ s = true := fun w h => hts w (List.mem_cons_of_mem _ h)
  have hown : s.vm.findClass mR_S = some m.cls := findClass_of_methodNamed B.named
  have hlocks := B.notSynchronized
  have hD := mu_self hD0
  have hS : va_S (mu_A [(xA, .inr (3, [.ref xL, .int xz])), (xL, .inl (cC, 300, .inl xl))]) s.heap s.heap [] := va_S.rf
  generalize hAe : mu_A [(xA, .inr (3, [.ref xL, .int xz])), (xL, .inl (cC, 300, .inl xl))] = A at hD hS ⊢
  have hl := lv_entry ([.ref xA, .int u0]) (n := 2) (Nat.le_of_ble_eq_true rfl)
  rw [lg_entry_eq]
  generalize (lg_sl ([.ref xA, .int u0]) ++ List.replicate (2 - (lg_sl ([.ref xA, .int u0])).length) Slot.unset).toArray = ls at hl ⊢
  have hl : lv_has ls 2 [(0, .ref xA), (1, .int u0)] := hl
  refine lv_iload_n hx hb md_S_add_0 rfl (lv_at hl 1 rfl) ?_
  refine lv_bipush (v := 33) hx hb md_S_add_1 (by decide) ?_
  refine lv_icmp_lt (tgt := 22) hx hb md_S_add_3 (by decide) (fun c1 => ?_) (fun c1 => ?_)
  · refine lv_iconst (v := 0) hx hb md_S_add_22 (by decide) ?_
    exact W.zret (v := 0) hx hb hr rfl (fun t ht hW => ⟨⟨0, (xl, xz), rfl, (by rw [fS_add, if_pos c1]), by have h9 := hP; rw [← ht] at h9; exact h9⟩, hS.F ht⟩) hS.2.2 md_S_add_23 hlocks
  · refine lv_iload_n hx hb md_S_add_6 rfl (lv_at hl 1 rfl) ?_
    refine lv_bipush (v := 126) hx hb md_S_add_7 (by decide) ?_
    refine lv_icmp_gt (tgt := 22) hx hb md_S_add_9 (by decide) (fun c2 => ?_) (fun c2 => ?_)
    · refine lv_iconst (v := 0) hx hb md_S_add_22 (by decide) ?_
      exact W.zret (v := 0) hx hb hr rfl (fun t ht hW => ⟨⟨0, (xl, xz), rfl, (by rw [fS_add, if_neg c1, if_pos c2]), by have h9 := hP; rw [← ht] at h9; exact h9⟩, hS.F ht⟩) hS.2.2 md_S_add_23 hlocks
    · refine lv_aload_n hx hb md_S_add_12 rfl (lv_at hl 0 rfl) ?_
      refine va_get (D := (dC, dI)) (ci := 3) (v := .int xz) (C := mR_S) (T := mT_S) (N := 2) hx hb hg gu_S hown hK hP 0 rfl rfl 1 (by decide) (hg _ wd_29) (fun _ h9 => h9) rfl md_S_add_13 ?_
      refine lv_sipush (v := 300) hx hb md_S_add_16 (by decide) ?_
      refine lv_icmp_lt (tgt := 24) hx hb md_S_add_19 (by decide) (fun c3 => ?_) (fun c3 => ?_)
      · refine lv_aload_n hx hb md_S_add_24 rfl (lv_at hl 0 rfl) ?_
        refine va_get (D := (dC, dI)) (ci := 3) (v := .ref xL) (C := mR_S) (T := mT_S) (N := 2) hx hb hg gu_S hown hK hP 0 rfl rfl 0 (by decide) (hg _ wd_28) (fun _ h9 => h9) rfl md_S_add_25 ?_
        refine lv_aload_n hx hb md_S_add_28 rfl (lv_at hl 0 rfl) ?_
        refine va_get (D := (dC, dI)) (ci := 3) (v := .int xz) (C := mR_S) (T := mT_S) (N := 2) hx hb hg gu_S hown hK hP 0 rfl rfl 1 (by decide) (hg _ wd_29) (fun _ h9 => h9) rfl md_S_add_29 ?_
        refine lv_iload_n hx hb md_S_add_32 rfl (lv_at hl 1 rfl) ?_
        refine lv_i2c (v := (Int32.toUInt32 u0 % 65536).toInt32) hx hb md_S_add_33 rfl ?_
        refine va_cast hx hb hK hP hD hS 1 0 rfl rfl (hin c3) md_S_add_34 (fun H locs hP hD hS => ?_)
        have hP : va_P (dC, dI) mC [(xA, .inr (3, [.ref xL, .int xz])), (xL, .inl (cC, 300, .inl (upd xl (Int32.toNatClampNeg xz) (vp_nar .char ((Int32.toUInt32 u0 % 65536).toInt32)))))] H := hP
        have hD : va_D A [(xA, .inr (3, [.ref xL, .int xz])), (xL, .inl (cC, 300, .inl (upd xl (Int32.toNatClampNeg xz) (vp_nar .char ((Int32.toUInt32 u0 % 65536).toInt32)))))] := hD
        refine lv_aload_n hx hb md_S_add_35 rfl (lv_at hl 0 rfl) ?_
        refine lv_dup hx hb md_S_add_36 rfl ?_
        refine va_get (D := (dC, dI)) (ci := 3) (v := .int xz) (C := mR_S) (T := mT_S) (N := 2) hx hb hg gu_S hown hK hP 0 rfl rfl 1 (by decide) (hg _ wd_29) (fun _ h9 => h9) rfl md_S_add_37 ?_
        refine lv_iconst (v := 1) hx hb md_S_add_40 (by decide) ?_
        refine lv_iadd hx hb md_S_add_41 ?_
        refine va_put (D := (dC, dI)) (ci := 3) (v := .int (xz + 1)) (ty := .int) (C := mR_S) (T := mT_S) (N := 2) hx hb hg gu_S mF_S mO_S mN_S hown hK hP hD hS 0 rfl rfl 1 (by decide) (hg _ wd_29) (fun _ h9 => h9) rfl (by decide +kernel) rfl rfl (Nat.le_of_ble_eq_true rfl) md_S_add_42 (fun H locs hP hD hS => ?_)
        have hP : va_P (dC, dI) mC [(xA, .inr (3, [.ref xL, .int (xz + 1)])), (xL, .inl (cC, 300, .inl (upd xl (Int32.toNatClampNeg xz) (vp_nar .char ((Int32.toUInt32 u0 % 65536).toInt32)))))] H := hP
        have hD : va_D A [(xA, .inr (3, [.ref xL, .int (xz + 1)])), (xL, .inl (cC, 300, .inl (upd xl (Int32.toNatClampNeg xz) (vp_nar .char ((Int32.toUInt32 u0 % 65536).toInt32)))))] := hD
        refine lv_iconst (v := 1) hx hb md_S_add_45 (by decide) ?_
        exact W.zret (v := 1) hx hb hr rfl (fun t ht hW => ⟨⟨1, (upd xl (Int32.toNatClampNeg xz) (vp_nar .char ((Int32.toUInt32 u0 % 65536).toInt32)), xz + 1), rfl, (by rw [fS_add, if_neg c1, if_neg c2, if_pos c3]), by have h9 := hP; rw [← ht] at h9; exact h9⟩, hS.F ht⟩) hS.2.2 md_S_add_46 hlocks
      · refine lv_iconst (v := 0) hx hb md_S_add_22 (by decide) ?_
        exact W.zret (v := 0) hx hb hr rfl (fun t ht hW => ⟨⟨0, (xl, xz), rfl, (by rw [fS_add, if_neg c1, if_neg c2, if_neg c3]), by have h9 := hP; rw [← ht] at h9; exact h9⟩, hS.F ht⟩) hS.2.2 md_S_add_23 hlocks

def fS_clear  : Int32 := (0)
set_option maxHeartbeats 1000000 in
set_option maxRecDepth 100000 in
theorem ct_S_clear (l : Launch) (dC : Nat → ClassId) (dI : Nat → Nat → Nat) (cC cI cJ : ClassId) (xA : Nat) (xL : Nat) (xl : Nat → Int32) (xz : Int32)    : Met l my_S_clear (.code my_S_clear mb_S_clear 1 none :: gw_l) ({ frames := 0, cells := 0, slots := 0, locals := 0 }) (mu_Pc (dC, dI) mC [(cC, .char), (cI, .int), (cJ, .long)] [(xA, .inr (3, [.ref xL, .int xz])), (xL, .inl (cC, 300, .inl xl))] (fun _ => True) [.ref xA]) (va_Qv (fun (u : Int32) => u = fS_clear) (fun u t => va_P (dC, dI) mC [(xA, .inr (3, [.ref xL, .int u])), (xL, .inl (cC, 300, .inl xl))] t.heap) (mu_A [(xA, .inr (3, [.ref xL, .int xz])), (xL, .inl (cC, 300, .inl xl))])) 0 0 (mu_A [(xA, .inr (3, [.ref xL, .int xz])), (xL, .inl (cC, 300, .inl xl))]) := by
  refine Met.ofW (cc := mb_S_clear) (maxL := 1) (ret := none) (by decide) rfl ?_
  intro p e s m args below meth c s₁ B hml hv
  obtain ⟨rfl, hP, hK, hD0, hE⟩ := hv
  have hx := B.exec
  have hb := B.bytes
  have hr := B.returns
  have hts := atoms_spec (ws := (.code my_S_clear mb_S_clear 1 none :: gw_l)) B.pre
  have hg : ∀ w ∈ gw_l, w.before _ s = true := fun w h => hts w (List.mem_cons_of_mem _ h)
  have hown : s.vm.findClass mR_S = some m.cls := findClass_of_methodNamed B.named
  have hlocks := B.notSynchronized
  have hD := mu_self hD0
  have hS : va_S (mu_A [(xA, .inr (3, [.ref xL, .int xz])), (xL, .inl (cC, 300, .inl xl))]) s.heap s.heap [] := va_S.rf
  generalize hAe : mu_A [(xA, .inr (3, [.ref xL, .int xz])), (xL, .inl (cC, 300, .inl xl))] = A at hD hS ⊢
  have hl := lv_entry ([.ref xA]) (n := 1) (Nat.le_of_ble_eq_true rfl)
  rw [lg_entry_eq]
  generalize (lg_sl ([.ref xA]) ++ List.replicate (1 - (lg_sl ([.ref xA])).length) Slot.unset).toArray = ls at hl ⊢
  have hl : lv_has ls 1 [(0, .ref xA)] := hl
  refine lv_aload_n hx hb md_S_clear_0 rfl (lv_at hl 0 rfl) ?_
  refine lv_iconst (v := 0) hx hb md_S_clear_1 (by decide) ?_
  refine va_put (D := (dC, dI)) (ci := 3) (v := .int 0) (ty := .int) (C := mR_S) (T := mT_S) (N := 2) hx hb hg gu_S mF_S mO_S mN_S hown hK hP hD hS 0 rfl rfl 1 (by decide) (hg _ wd_29) (fun _ h9 => h9) rfl (by decide +kernel) rfl rfl (Nat.le_of_ble_eq_true rfl) md_S_clear_2 (fun H locs hP hD hS => ?_)
  have hP : va_P (dC, dI) mC [(xA, .inr (3, [.ref xL, .int 0])), (xL, .inl (cC, 300, .inl xl))] H := hP
  have hD : va_D A [(xA, .inr (3, [.ref xL, .int 0])), (xL, .inl (cC, 300, .inl xl))] := hD
  exact W.vret hx hb hr (fun t ht hW => ⟨⟨(0), rfl, rfl, by have h9 := hP; rw [← ht] at h9; exact h9⟩, hS.F ht⟩) hS.2.2 md_S_clear_5 hlocks

def fT_changeStock (ts : Nat → Int32) (row : Int32) (n0 : Int32) : Int32 × (Nat → Int32) := if (ts (Int32.toNatClampNeg row)) = n0 then (0, upd ts (Int32.toNatClampNeg row) n0) else (1, upd ts (Int32.toNatClampNeg row) n0)
theorem zT_changeStock (ts : Nat → Int32) (row : Int32) (n0 : Int32) : narrow .boolean (.int (fT_changeStock ts row n0).1) = .int (fT_changeStock ts row n0).1 := by
  unfold fT_changeStock
  repeat' split
  all_goals (dsimp only; rfl)
set_option maxHeartbeats 1000000 in
set_option maxRecDepth 100000 in
theorem ct_T_changeStock (l : Launch) (dC : Nat → ClassId) (dI : Nat → Nat → Nat) (cC cI cJ : ClassId) (tA : Nat) (tL : Nat) (tN : Nat) (tS : Nat) (tl : Nat → Int32) (tn : Nat → Int32) (ts : Nat → Int32) (tz : Int32) (row : Int32) (n0 : Int32)  (hrow : vp_in row 16) : Met l my_T_changeStock (.code my_T_changeStock mb_T_changeStock 4 (some .boolean) :: gw_l) ({ frames := 0, cells := 0, slots := 0, locals := 0 }) (mu_Pc (dC, dI) mC [(cC, .char), (cI, .int), (cJ, .long)] [(tA, .inr (2, [.ref tL, .ref tN, .ref tS, .int tz])), (tL, .inl (cC, 16, .inl tl)), (tN, .inl (cI, 96, .inl tn)), (tS, .inl (cI, 16, .inl ts))] (fun _ => True) [.ref tA, .int row, .int n0]) (va_Qi (fun (r : Int32) (u : (Nat → Int32)) => (r, u) = fT_changeStock ts row n0) (fun u t => va_P (dC, dI) mC [(tA, .inr (2, [.ref tL, .ref tN, .ref tS, .int tz])), (tL, .inl (cC, 16, .inl tl)), (tN, .inl (cI, 96, .inl tn)), (tS, .inl (cI, 16, .inl u))] t.heap) (mu_A [(tA, .inr (2, [.ref tL, .ref tN, .ref tS, .int tz])), (tL, .inl (cC, 16, .inl tl)), (tN, .inl (cI, 96, .inl tn)), (tS, .inl (cI, 16, .inl ts))])) 0 0 (mu_A [(tA, .inr (2, [.ref tL, .ref tN, .ref tS, .int tz])), (tL, .inl (cC, 16, .inl tl)), (tN, .inl (cI, 96, .inl tn)), (tS, .inl (cI, 16, .inl ts))]) := by
  refine Met.ofW (cc := mb_T_changeStock) (maxL := 4) (ret := (some .boolean)) (by decide) rfl ?_
  intro p e s m args below meth c s₁ B hml hv
  obtain ⟨rfl, hP, hK, hD0, hE⟩ := hv
  have hx := B.exec
  have hb := B.bytes
  have hr := B.returns
  have hts := atoms_spec (ws := (.code my_T_changeStock mb_T_changeStock 4 (some .boolean) :: gw_l)) B.pre
  have hg : ∀ w ∈ gw_l, w.before _ s = true := fun w h => hts w (List.mem_cons_of_mem _ h)
  have hown : s.vm.findClass mR_T = some m.cls := findClass_of_methodNamed B.named
  have hlocks := B.notSynchronized
  have hD := mu_self hD0
  have hS : va_S (mu_A [(tA, .inr (2, [.ref tL, .ref tN, .ref tS, .int tz])), (tL, .inl (cC, 16, .inl tl)), (tN, .inl (cI, 96, .inl tn)), (tS, .inl (cI, 16, .inl ts))]) s.heap s.heap [] := va_S.rf
  generalize hAe : mu_A [(tA, .inr (2, [.ref tL, .ref tN, .ref tS, .int tz])), (tL, .inl (cC, 16, .inl tl)), (tN, .inl (cI, 96, .inl tn)), (tS, .inl (cI, 16, .inl ts))] = A at hD hS ⊢
  have hl := lv_entry ([.ref tA, .int row, .int n0]) (n := 4) (Nat.le_of_ble_eq_true rfl)
  rw [lg_entry_eq]
  generalize (lg_sl ([.ref tA, .int row, .int n0]) ++ List.replicate (4 - (lg_sl ([.ref tA, .int row, .int n0])).length) Slot.unset).toArray = ls at hl ⊢
  have hl : lv_has ls 4 [(0, .ref tA), (1, .int row), (2, .int n0)] := hl
  refine lv_aload_n hx hb md_T_changeStock_0 rfl (lv_at hl 0 rfl) ?_
  refine va_get (D := (dC, dI)) (ci := 2) (v := .ref tS) (C := mR_T) (T := mT_T) (N := 4) hx hb hg gu_T hown hK hP 0 rfl rfl 2 (by decide) (hg _ wd_85) (fun _ h9 => h9) rfl md_T_changeStock_1 ?_
  refine lv_iload_n hx hb md_T_changeStock_4 rfl (lv_at hl 1 rfl) ?_
  refine va_iald hx hb hK hP 3 1 rfl rfl hrow md_T_changeStock_5 ?_
  refine lv_iload_n hx hb md_T_changeStock_6 rfl (lv_at hl 2 rfl) ?_
  refine lv_icmp_eq (tgt := 14) hx hb md_T_changeStock_7 (by decide) (fun c1 => ?_) (fun c1 => ?_)
  · refine lv_iconst (v := 0) hx hb md_T_changeStock_14 (by decide) ?_
    refine lv_istore_n (lv' := [(3, .int 0), (0, .ref tA), (1, .int row), (2, .int n0)]) hx hb md_T_changeStock_15 rfl hl (by decide) rfl (fun ls hl => ?_)
    refine lv_aload_n hx hb md_T_changeStock_16 rfl (lv_at hl 1 rfl) ?_
    refine va_get (D := (dC, dI)) (ci := 2) (v := .ref tS) (C := mR_T) (T := mT_T) (N := 4) hx hb hg gu_T hown hK hP 0 rfl rfl 2 (by decide) (hg _ wd_85) (fun _ h9 => h9) rfl md_T_changeStock_17 ?_
    refine lv_iload_n hx hb md_T_changeStock_20 rfl (lv_at hl 2 rfl) ?_
    refine lv_iload_n hx hb md_T_changeStock_21 rfl (lv_at hl 3 rfl) ?_
    refine va_iast hx hb hK hP hD hS 3 1 rfl rfl hrow md_T_changeStock_22 (fun H locs hP hD hS => ?_)
    have hP : va_P (dC, dI) mC [(tA, .inr (2, [.ref tL, .ref tN, .ref tS, .int tz])), (tL, .inl (cC, 16, .inl tl)), (tN, .inl (cI, 96, .inl tn)), (tS, .inl (cI, 16, .inl (upd ts (Int32.toNatClampNeg row) n0)))] H := hP
    have hD : va_D A [(tA, .inr (2, [.ref tL, .ref tN, .ref tS, .int tz])), (tL, .inl (cC, 16, .inl tl)), (tN, .inl (cI, 96, .inl tn)), (tS, .inl (cI, 16, .inl (upd ts (Int32.toNatClampNeg row) n0)))] := hD
    refine lv_iload_n hx hb md_T_changeStock_23 rfl (lv_at hl 0 rfl) ?_
    exact W.zret (v := 0) hx hb hr rfl (fun t ht hW => ⟨⟨0, (upd ts (Int32.toNatClampNeg row) n0), rfl, (by rw [fT_changeStock, if_pos c1]), by have h9 := hP; rw [← ht] at h9; exact h9⟩, hS.F ht⟩) hS.2.2 md_T_changeStock_24 hlocks
  · refine lv_iconst (v := 1) hx hb md_T_changeStock_10 (by decide) ?_
    refine lv_goto (tgt := 15) hx hb md_T_changeStock_11 (by decide) ?_
    refine lv_istore_n (lv' := [(3, .int 1), (0, .ref tA), (1, .int row), (2, .int n0)]) hx hb md_T_changeStock_15 rfl hl (by decide) rfl (fun ls hl => ?_)
    refine lv_aload_n hx hb md_T_changeStock_16 rfl (lv_at hl 1 rfl) ?_
    refine va_get (D := (dC, dI)) (ci := 2) (v := .ref tS) (C := mR_T) (T := mT_T) (N := 4) hx hb hg gu_T hown hK hP 0 rfl rfl 2 (by decide) (hg _ wd_85) (fun _ h9 => h9) rfl md_T_changeStock_17 ?_
    refine lv_iload_n hx hb md_T_changeStock_20 rfl (lv_at hl 2 rfl) ?_
    refine lv_iload_n hx hb md_T_changeStock_21 rfl (lv_at hl 3 rfl) ?_
    refine va_iast hx hb hK hP hD hS 3 1 rfl rfl hrow md_T_changeStock_22 (fun H locs hP hD hS => ?_)
    have hP : va_P (dC, dI) mC [(tA, .inr (2, [.ref tL, .ref tN, .ref tS, .int tz])), (tL, .inl (cC, 16, .inl tl)), (tN, .inl (cI, 96, .inl tn)), (tS, .inl (cI, 16, .inl (upd ts (Int32.toNatClampNeg row) n0)))] H := hP
    have hD : va_D A [(tA, .inr (2, [.ref tL, .ref tN, .ref tS, .int tz])), (tL, .inl (cC, 16, .inl tl)), (tN, .inl (cI, 96, .inl tn)), (tS, .inl (cI, 16, .inl (upd ts (Int32.toNatClampNeg row) n0)))] := hD
    refine lv_iload_n hx hb md_T_changeStock_23 rfl (lv_at hl 0 rfl) ?_
    exact W.zret (v := 1) hx hb hr rfl (fun t ht hW => ⟨⟨1, (upd ts (Int32.toNatClampNeg row) n0), rfl, (by rw [fT_changeStock, if_neg c1]), by have h9 := hP; rw [← ht] at h9; exact h9⟩, hS.F ht⟩) hS.2.2 md_T_changeStock_24 hlocks

def fD_change (dw : Int64) (dh : Int64) (dt : Int64) (dd : Int64) (w0 : Int64) (h0 : Int64) (th0 : Int64) (de0 : Int64) : Int32 × Int64 × Int64 × Int64 × Int64 := if dw = w0 then (if dh = h0 then (if dt = th0 then (if dd = de0 then (0, w0, h0, th0, de0) else (1, w0, h0, th0, de0)) else (1, w0, h0, th0, de0)) else (1, w0, h0, th0, de0)) else (1, w0, h0, th0, de0)
theorem zD_change (dw : Int64) (dh : Int64) (dt : Int64) (dd : Int64) (w0 : Int64) (h0 : Int64) (th0 : Int64) (de0 : Int64) : narrow .boolean (.int (fD_change dw dh dt dd w0 h0 th0 de0).1) = .int (fD_change dw dh dt dd w0 h0 th0 de0).1 := by
  unfold fD_change
  repeat' split
  all_goals (dsimp only; rfl)
set_option maxHeartbeats 1000000 in
set_option maxRecDepth 100000 in
theorem ct_D_change (l : Launch) (dC : Nat → ClassId) (dI : Nat → Nat → Nat) (cC cI cJ : ClassId) (dA : Nat) (dw : Int64) (dh : Int64) (dt : Int64) (dd : Int64) (w0 : Int64) (h0 : Int64) (th0 : Int64) (de0 : Int64)   : Met l my_D_change (.code my_D_change mb_D_change 10 (some .boolean) :: gw_l) ({ frames := 0, cells := 0, slots := 0, locals := 0 }) (mu_Pc (dC, dI) mC [(cC, .char), (cI, .int), (cJ, .long)] [(dA, .inr (0, [.long dw, .long dh, .long dt, .long dd]))] (fun _ => True) [.ref dA, .long w0, .long h0, .long th0, .long de0]) (va_Qi (fun (r : Int32) (u : Int64 × Int64 × Int64 × Int64) => (r, u) = fD_change dw dh dt dd w0 h0 th0 de0) (fun u t => va_P (dC, dI) mC [(dA, .inr (0, [.long u.1, .long u.2.1, .long u.2.2.1, .long u.2.2.2]))] t.heap) (mu_A [(dA, .inr (0, [.long dw, .long dh, .long dt, .long dd]))])) 0 0 (mu_A [(dA, .inr (0, [.long dw, .long dh, .long dt, .long dd]))]) := by
  refine Met.ofW (cc := mb_D_change) (maxL := 10) (ret := (some .boolean)) (by decide) rfl ?_
  intro p e s m args below meth c s₁ B hml hv
  obtain ⟨rfl, hP, hK, hD0, hE⟩ := hv
  have hx := B.exec
  have hb := B.bytes
  have hr := B.returns
  have hts := atoms_spec (ws := (.code my_D_change mb_D_change 10 (some .boolean) :: gw_l)) B.pre
  have hg : ∀ w ∈ gw_l, w.before _ s = true := fun w h => hts w (List.mem_cons_of_mem _ h)
  have hown : s.vm.findClass mR_D = some m.cls := findClass_of_methodNamed B.named
  have hlocks := B.notSynchronized
  have hD := mu_self hD0
  have hS : va_S (mu_A [(dA, .inr (0, [.long dw, .long dh, .long dt, .long dd]))]) s.heap s.heap [] := va_S.rf
  generalize hAe : mu_A [(dA, .inr (0, [.long dw, .long dh, .long dt, .long dd]))] = A at hD hS ⊢
  have hl := lv_entry ([.ref dA, .long w0, .long h0, .long th0, .long de0]) (n := 10) (Nat.le_of_ble_eq_true rfl)
  rw [lg_entry_eq]
  generalize (lg_sl ([.ref dA, .long w0, .long h0, .long th0, .long de0]) ++ List.replicate (10 - (lg_sl ([.ref dA, .long w0, .long h0, .long th0, .long de0])).length) Slot.unset).toArray = ls at hl ⊢
  have hl : lv_has ls 10 [(0, .ref dA), (1, .long w0), (3, .long h0), (5, .long th0), (7, .long de0)] := hl
  refine lv_aload_n hx hb md_D_change_0 rfl (lv_at hl 0 rfl) ?_
  refine va_get (D := (dC, dI)) (ci := 0) (v := .long dw) (C := mR_D) (T := mT_D) (N := 4) hx hb hg gu_D hown hK hP 0 rfl rfl 0 (by decide) (hg _ wd_45) (fun _ h9 => h9) rfl md_D_change_1 ?_
  refine lv_lload_n hx hb md_D_change_4 rfl (lv_at hl 1 rfl) ?_
  refine lx_ne (tgt := 38) hx hb md_D_change_5 md_D_change_6 (by decide) (fun c1 => ?_) (fun c1 => ?_)
  · refine lv_iconst (v := 1) hx hb md_D_change_38 (by decide) ?_
    refine lv_goto (tgt := 43) hx hb md_D_change_39 (by decide) ?_
    refine lv_istore (lv' := [(9, .int 1), (0, .ref dA), (1, .long w0), (3, .long h0), (5, .long th0), (7, .long de0)]) hx hb md_D_change_43 hl (by decide) rfl (fun ls hl => ?_)
    refine lv_aload_n hx hb md_D_change_45 rfl (lv_at hl 1 rfl) ?_
    refine lv_lload_n hx hb md_D_change_46 rfl (lv_at hl 2 rfl) ?_
    refine va_put (D := (dC, dI)) (ci := 0) (v := .long w0) (ty := .long) (C := mR_D) (T := mT_D) (N := 4) hx hb hg gu_D mF_D mO_D mN_D hown hK hP hD hS 0 rfl rfl 0 (by decide) (hg _ wd_45) (fun _ h9 => h9) rfl (by decide +kernel) rfl rfl (Nat.le_of_ble_eq_true rfl) md_D_change_47 (fun H locs hP hD hS => ?_)
    have hP : va_P (dC, dI) mC [(dA, .inr (0, [.long w0, .long dh, .long dt, .long dd]))] H := hP
    have hD : va_D A [(dA, .inr (0, [.long w0, .long dh, .long dt, .long dd]))] := hD
    refine lv_aload_n hx hb md_D_change_50 rfl (lv_at hl 1 rfl) ?_
    refine lv_lload_n hx hb md_D_change_51 rfl (lv_at hl 3 rfl) ?_
    refine va_put (D := (dC, dI)) (ci := 0) (v := .long h0) (ty := .long) (C := mR_D) (T := mT_D) (N := 4) hx hb hg gu_D mF_D mO_D mN_D hown hK hP hD hS 0 rfl rfl 1 (by decide) (hg _ wd_46) (fun _ h9 => h9) rfl (by decide +kernel) rfl rfl (Nat.le_of_ble_eq_true rfl) md_D_change_52 (fun H locs hP hD hS => ?_)
    have hP : va_P (dC, dI) mC [(dA, .inr (0, [.long w0, .long h0, .long dt, .long dd]))] H := hP
    have hD : va_D A [(dA, .inr (0, [.long w0, .long h0, .long dt, .long dd]))] := hD
    refine lv_aload_n hx hb md_D_change_55 rfl (lv_at hl 1 rfl) ?_
    refine lv_lload hx hb md_D_change_56 (lv_at hl 4 rfl) ?_
    refine va_put (D := (dC, dI)) (ci := 0) (v := .long th0) (ty := .long) (C := mR_D) (T := mT_D) (N := 4) hx hb hg gu_D mF_D mO_D mN_D hown hK hP hD hS 0 rfl rfl 2 (by decide) (hg _ wd_49) (fun _ h9 => h9) rfl (by decide +kernel) rfl rfl (Nat.le_of_ble_eq_true rfl) md_D_change_58 (fun H locs hP hD hS => ?_)
    have hP : va_P (dC, dI) mC [(dA, .inr (0, [.long w0, .long h0, .long th0, .long dd]))] H := hP
    have hD : va_D A [(dA, .inr (0, [.long w0, .long h0, .long th0, .long dd]))] := hD
    refine lv_aload_n hx hb md_D_change_61 rfl (lv_at hl 1 rfl) ?_
    refine lv_lload hx hb md_D_change_62 (lv_at hl 5 rfl) ?_
    refine va_put (D := (dC, dI)) (ci := 0) (v := .long de0) (ty := .long) (C := mR_D) (T := mT_D) (N := 4) hx hb hg gu_D mF_D mO_D mN_D hown hK hP hD hS 0 rfl rfl 3 (by decide) (hg _ wd_50) (fun _ h9 => h9) rfl (by decide +kernel) rfl rfl (Nat.le_of_ble_eq_true rfl) md_D_change_64 (fun H locs hP hD hS => ?_)
    have hP : va_P (dC, dI) mC [(dA, .inr (0, [.long w0, .long h0, .long th0, .long de0]))] H := hP
    have hD : va_D A [(dA, .inr (0, [.long w0, .long h0, .long th0, .long de0]))] := hD
    refine lv_iload hx hb md_D_change_67 (lv_at hl 0 rfl) ?_
    exact W.zret (v := 1) hx hb hr rfl (fun t ht hW => ⟨⟨1, (w0, h0, th0, de0), rfl, (by rw [fD_change, if_neg c1]), by have h9 := hP; rw [← ht] at h9; exact h9⟩, hS.F ht⟩) hS.2.2 md_D_change_69 hlocks
  · refine lv_aload_n hx hb md_D_change_9 rfl (lv_at hl 0 rfl) ?_
    refine va_get (D := (dC, dI)) (ci := 0) (v := .long dh) (C := mR_D) (T := mT_D) (N := 4) hx hb hg gu_D hown hK hP 0 rfl rfl 1 (by decide) (hg _ wd_46) (fun _ h9 => h9) rfl md_D_change_10 ?_
    refine lv_lload_n hx hb md_D_change_13 rfl (lv_at hl 2 rfl) ?_
    refine lx_ne (tgt := 38) hx hb md_D_change_14 md_D_change_15 (by decide) (fun c2 => ?_) (fun c2 => ?_)
    · refine lv_iconst (v := 1) hx hb md_D_change_38 (by decide) ?_
      refine lv_goto (tgt := 43) hx hb md_D_change_39 (by decide) ?_
      refine lv_istore (lv' := [(9, .int 1), (0, .ref dA), (1, .long w0), (3, .long h0), (5, .long th0), (7, .long de0)]) hx hb md_D_change_43 hl (by decide) rfl (fun ls hl => ?_)
      refine lv_aload_n hx hb md_D_change_45 rfl (lv_at hl 1 rfl) ?_
      refine lv_lload_n hx hb md_D_change_46 rfl (lv_at hl 2 rfl) ?_
      refine va_put (D := (dC, dI)) (ci := 0) (v := .long w0) (ty := .long) (C := mR_D) (T := mT_D) (N := 4) hx hb hg gu_D mF_D mO_D mN_D hown hK hP hD hS 0 rfl rfl 0 (by decide) (hg _ wd_45) (fun _ h9 => h9) rfl (by decide +kernel) rfl rfl (Nat.le_of_ble_eq_true rfl) md_D_change_47 (fun H locs hP hD hS => ?_)
      have hP : va_P (dC, dI) mC [(dA, .inr (0, [.long w0, .long dh, .long dt, .long dd]))] H := hP
      have hD : va_D A [(dA, .inr (0, [.long w0, .long dh, .long dt, .long dd]))] := hD
      refine lv_aload_n hx hb md_D_change_50 rfl (lv_at hl 1 rfl) ?_
      refine lv_lload_n hx hb md_D_change_51 rfl (lv_at hl 3 rfl) ?_
      refine va_put (D := (dC, dI)) (ci := 0) (v := .long h0) (ty := .long) (C := mR_D) (T := mT_D) (N := 4) hx hb hg gu_D mF_D mO_D mN_D hown hK hP hD hS 0 rfl rfl 1 (by decide) (hg _ wd_46) (fun _ h9 => h9) rfl (by decide +kernel) rfl rfl (Nat.le_of_ble_eq_true rfl) md_D_change_52 (fun H locs hP hD hS => ?_)
      have hP : va_P (dC, dI) mC [(dA, .inr (0, [.long w0, .long h0, .long dt, .long dd]))] H := hP
      have hD : va_D A [(dA, .inr (0, [.long w0, .long h0, .long dt, .long dd]))] := hD
      refine lv_aload_n hx hb md_D_change_55 rfl (lv_at hl 1 rfl) ?_
      refine lv_lload hx hb md_D_change_56 (lv_at hl 4 rfl) ?_
      refine va_put (D := (dC, dI)) (ci := 0) (v := .long th0) (ty := .long) (C := mR_D) (T := mT_D) (N := 4) hx hb hg gu_D mF_D mO_D mN_D hown hK hP hD hS 0 rfl rfl 2 (by decide) (hg _ wd_49) (fun _ h9 => h9) rfl (by decide +kernel) rfl rfl (Nat.le_of_ble_eq_true rfl) md_D_change_58 (fun H locs hP hD hS => ?_)
      have hP : va_P (dC, dI) mC [(dA, .inr (0, [.long w0, .long h0, .long th0, .long dd]))] H := hP
      have hD : va_D A [(dA, .inr (0, [.long w0, .long h0, .long th0, .long dd]))] := hD
      refine lv_aload_n hx hb md_D_change_61 rfl (lv_at hl 1 rfl) ?_
      refine lv_lload hx hb md_D_change_62 (lv_at hl 5 rfl) ?_
      refine va_put (D := (dC, dI)) (ci := 0) (v := .long de0) (ty := .long) (C := mR_D) (T := mT_D) (N := 4) hx hb hg gu_D mF_D mO_D mN_D hown hK hP hD hS 0 rfl rfl 3 (by decide) (hg _ wd_50) (fun _ h9 => h9) rfl (by decide +kernel) rfl rfl (Nat.le_of_ble_eq_true rfl) md_D_change_64 (fun H locs hP hD hS => ?_)
      have hP : va_P (dC, dI) mC [(dA, .inr (0, [.long w0, .long h0, .long th0, .long de0]))] H := hP
      have hD : va_D A [(dA, .inr (0, [.long w0, .long h0, .long th0, .long de0]))] := hD
      refine lv_iload hx hb md_D_change_67 (lv_at hl 0 rfl) ?_
      exact W.zret (v := 1) hx hb hr rfl (fun t ht hW => ⟨⟨1, (w0, h0, th0, de0), rfl, (by rw [fD_change, if_pos c1, if_neg c2]), by have h9 := hP; rw [← ht] at h9; exact h9⟩, hS.F ht⟩) hS.2.2 md_D_change_69 hlocks
    · refine lv_aload_n hx hb md_D_change_18 rfl (lv_at hl 0 rfl) ?_
      refine va_get (D := (dC, dI)) (ci := 0) (v := .long dt) (C := mR_D) (T := mT_D) (N := 4) hx hb hg gu_D hown hK hP 0 rfl rfl 2 (by decide) (hg _ wd_49) (fun _ h9 => h9) rfl md_D_change_19 ?_
      refine lv_lload hx hb md_D_change_22 (lv_at hl 3 rfl) ?_
      refine lx_ne (tgt := 38) hx hb md_D_change_24 md_D_change_25 (by decide) (fun c3 => ?_) (fun c3 => ?_)
      · refine lv_iconst (v := 1) hx hb md_D_change_38 (by decide) ?_
        refine lv_goto (tgt := 43) hx hb md_D_change_39 (by decide) ?_
        refine lv_istore (lv' := [(9, .int 1), (0, .ref dA), (1, .long w0), (3, .long h0), (5, .long th0), (7, .long de0)]) hx hb md_D_change_43 hl (by decide) rfl (fun ls hl => ?_)
        refine lv_aload_n hx hb md_D_change_45 rfl (lv_at hl 1 rfl) ?_
        refine lv_lload_n hx hb md_D_change_46 rfl (lv_at hl 2 rfl) ?_
        refine va_put (D := (dC, dI)) (ci := 0) (v := .long w0) (ty := .long) (C := mR_D) (T := mT_D) (N := 4) hx hb hg gu_D mF_D mO_D mN_D hown hK hP hD hS 0 rfl rfl 0 (by decide) (hg _ wd_45) (fun _ h9 => h9) rfl (by decide +kernel) rfl rfl (Nat.le_of_ble_eq_true rfl) md_D_change_47 (fun H locs hP hD hS => ?_)
        have hP : va_P (dC, dI) mC [(dA, .inr (0, [.long w0, .long dh, .long dt, .long dd]))] H := hP
        have hD : va_D A [(dA, .inr (0, [.long w0, .long dh, .long dt, .long dd]))] := hD
        refine lv_aload_n hx hb md_D_change_50 rfl (lv_at hl 1 rfl) ?_
        refine lv_lload_n hx hb md_D_change_51 rfl (lv_at hl 3 rfl) ?_
        refine va_put (D := (dC, dI)) (ci := 0) (v := .long h0) (ty := .long) (C := mR_D) (T := mT_D) (N := 4) hx hb hg gu_D mF_D mO_D mN_D hown hK hP hD hS 0 rfl rfl 1 (by decide) (hg _ wd_46) (fun _ h9 => h9) rfl (by decide +kernel) rfl rfl (Nat.le_of_ble_eq_true rfl) md_D_change_52 (fun H locs hP hD hS => ?_)
        have hP : va_P (dC, dI) mC [(dA, .inr (0, [.long w0, .long h0, .long dt, .long dd]))] H := hP
        have hD : va_D A [(dA, .inr (0, [.long w0, .long h0, .long dt, .long dd]))] := hD
        refine lv_aload_n hx hb md_D_change_55 rfl (lv_at hl 1 rfl) ?_
        refine lv_lload hx hb md_D_change_56 (lv_at hl 4 rfl) ?_
        refine va_put (D := (dC, dI)) (ci := 0) (v := .long th0) (ty := .long) (C := mR_D) (T := mT_D) (N := 4) hx hb hg gu_D mF_D mO_D mN_D hown hK hP hD hS 0 rfl rfl 2 (by decide) (hg _ wd_49) (fun _ h9 => h9) rfl (by decide +kernel) rfl rfl (Nat.le_of_ble_eq_true rfl) md_D_change_58 (fun H locs hP hD hS => ?_)
        have hP : va_P (dC, dI) mC [(dA, .inr (0, [.long w0, .long h0, .long th0, .long dd]))] H := hP
        have hD : va_D A [(dA, .inr (0, [.long w0, .long h0, .long th0, .long dd]))] := hD
        refine lv_aload_n hx hb md_D_change_61 rfl (lv_at hl 1 rfl) ?_
        refine lv_lload hx hb md_D_change_62 (lv_at hl 5 rfl) ?_
        refine va_put (D := (dC, dI)) (ci := 0) (v := .long de0) (ty := .long) (C := mR_D) (T := mT_D) (N := 4) hx hb hg gu_D mF_D mO_D mN_D hown hK hP hD hS 0 rfl rfl 3 (by decide) (hg _ wd_50) (fun _ h9 => h9) rfl (by decide +kernel) rfl rfl (Nat.le_of_ble_eq_true rfl) md_D_change_64 (fun H locs hP hD hS => ?_)
        have hP : va_P (dC, dI) mC [(dA, .inr (0, [.long w0, .long h0, .long th0, .long de0]))] H := hP
        have hD : va_D A [(dA, .inr (0, [.long w0, .long h0, .long th0, .long de0]))] := hD
        refine lv_iload hx hb md_D_change_67 (lv_at hl 0 rfl) ?_
        exact W.zret (v := 1) hx hb hr rfl (fun t ht hW => ⟨⟨1, (w0, h0, th0, de0), rfl, (by rw [fD_change, if_pos c1, if_pos c2, if_neg c3]), by have h9 := hP; rw [← ht] at h9; exact h9⟩, hS.F ht⟩) hS.2.2 md_D_change_69 hlocks
      · refine lv_aload_n hx hb md_D_change_28 rfl (lv_at hl 0 rfl) ?_
        refine va_get (D := (dC, dI)) (ci := 0) (v := .long dd) (C := mR_D) (T := mT_D) (N := 4) hx hb hg gu_D hown hK hP 0 rfl rfl 3 (by decide) (hg _ wd_50) (fun _ h9 => h9) rfl md_D_change_29 ?_
        refine lv_lload hx hb md_D_change_32 (lv_at hl 4 rfl) ?_
        refine lx_eq (tgt := 42) hx hb md_D_change_34 md_D_change_35 (by decide) (fun c4 => ?_) (fun c4 => ?_)
        · refine lv_iconst (v := 0) hx hb md_D_change_42 (by decide) ?_
          refine lv_istore (lv' := [(9, .int 0), (0, .ref dA), (1, .long w0), (3, .long h0), (5, .long th0), (7, .long de0)]) hx hb md_D_change_43 hl (by decide) rfl (fun ls hl => ?_)
          refine lv_aload_n hx hb md_D_change_45 rfl (lv_at hl 1 rfl) ?_
          refine lv_lload_n hx hb md_D_change_46 rfl (lv_at hl 2 rfl) ?_
          refine va_put (D := (dC, dI)) (ci := 0) (v := .long w0) (ty := .long) (C := mR_D) (T := mT_D) (N := 4) hx hb hg gu_D mF_D mO_D mN_D hown hK hP hD hS 0 rfl rfl 0 (by decide) (hg _ wd_45) (fun _ h9 => h9) rfl (by decide +kernel) rfl rfl (Nat.le_of_ble_eq_true rfl) md_D_change_47 (fun H locs hP hD hS => ?_)
          have hP : va_P (dC, dI) mC [(dA, .inr (0, [.long w0, .long dh, .long dt, .long dd]))] H := hP
          have hD : va_D A [(dA, .inr (0, [.long w0, .long dh, .long dt, .long dd]))] := hD
          refine lv_aload_n hx hb md_D_change_50 rfl (lv_at hl 1 rfl) ?_
          refine lv_lload_n hx hb md_D_change_51 rfl (lv_at hl 3 rfl) ?_
          refine va_put (D := (dC, dI)) (ci := 0) (v := .long h0) (ty := .long) (C := mR_D) (T := mT_D) (N := 4) hx hb hg gu_D mF_D mO_D mN_D hown hK hP hD hS 0 rfl rfl 1 (by decide) (hg _ wd_46) (fun _ h9 => h9) rfl (by decide +kernel) rfl rfl (Nat.le_of_ble_eq_true rfl) md_D_change_52 (fun H locs hP hD hS => ?_)
          have hP : va_P (dC, dI) mC [(dA, .inr (0, [.long w0, .long h0, .long dt, .long dd]))] H := hP
          have hD : va_D A [(dA, .inr (0, [.long w0, .long h0, .long dt, .long dd]))] := hD
          refine lv_aload_n hx hb md_D_change_55 rfl (lv_at hl 1 rfl) ?_
          refine lv_lload hx hb md_D_change_56 (lv_at hl 4 rfl) ?_
          refine va_put (D := (dC, dI)) (ci := 0) (v := .long th0) (ty := .long) (C := mR_D) (T := mT_D) (N := 4) hx hb hg gu_D mF_D mO_D mN_D hown hK hP hD hS 0 rfl rfl 2 (by decide) (hg _ wd_49) (fun _ h9 => h9) rfl (by decide +kernel) rfl rfl (Nat.le_of_ble_eq_true rfl) md_D_change_58 (fun H locs hP hD hS => ?_)
          have hP : va_P (dC, dI) mC [(dA, .inr (0, [.long w0, .long h0, .long th0, .long dd]))] H := hP
          have hD : va_D A [(dA, .inr (0, [.long w0, .long h0, .long th0, .long dd]))] := hD
          refine lv_aload_n hx hb md_D_change_61 rfl (lv_at hl 1 rfl) ?_
          refine lv_lload hx hb md_D_change_62 (lv_at hl 5 rfl) ?_
          refine va_put (D := (dC, dI)) (ci := 0) (v := .long de0) (ty := .long) (C := mR_D) (T := mT_D) (N := 4) hx hb hg gu_D mF_D mO_D mN_D hown hK hP hD hS 0 rfl rfl 3 (by decide) (hg _ wd_50) (fun _ h9 => h9) rfl (by decide +kernel) rfl rfl (Nat.le_of_ble_eq_true rfl) md_D_change_64 (fun H locs hP hD hS => ?_)
          have hP : va_P (dC, dI) mC [(dA, .inr (0, [.long w0, .long h0, .long th0, .long de0]))] H := hP
          have hD : va_D A [(dA, .inr (0, [.long w0, .long h0, .long th0, .long de0]))] := hD
          refine lv_iload hx hb md_D_change_67 (lv_at hl 0 rfl) ?_
          exact W.zret (v := 0) hx hb hr rfl (fun t ht hW => ⟨⟨0, (w0, h0, th0, de0), rfl, (by rw [fD_change, if_pos c1, if_pos c2, if_pos c3, if_pos c4]), by have h9 := hP; rw [← ht] at h9; exact h9⟩, hS.F ht⟩) hS.2.2 md_D_change_69 hlocks
        · refine lv_iconst (v := 1) hx hb md_D_change_38 (by decide) ?_
          refine lv_goto (tgt := 43) hx hb md_D_change_39 (by decide) ?_
          refine lv_istore (lv' := [(9, .int 1), (0, .ref dA), (1, .long w0), (3, .long h0), (5, .long th0), (7, .long de0)]) hx hb md_D_change_43 hl (by decide) rfl (fun ls hl => ?_)
          refine lv_aload_n hx hb md_D_change_45 rfl (lv_at hl 1 rfl) ?_
          refine lv_lload_n hx hb md_D_change_46 rfl (lv_at hl 2 rfl) ?_
          refine va_put (D := (dC, dI)) (ci := 0) (v := .long w0) (ty := .long) (C := mR_D) (T := mT_D) (N := 4) hx hb hg gu_D mF_D mO_D mN_D hown hK hP hD hS 0 rfl rfl 0 (by decide) (hg _ wd_45) (fun _ h9 => h9) rfl (by decide +kernel) rfl rfl (Nat.le_of_ble_eq_true rfl) md_D_change_47 (fun H locs hP hD hS => ?_)
          have hP : va_P (dC, dI) mC [(dA, .inr (0, [.long w0, .long dh, .long dt, .long dd]))] H := hP
          have hD : va_D A [(dA, .inr (0, [.long w0, .long dh, .long dt, .long dd]))] := hD
          refine lv_aload_n hx hb md_D_change_50 rfl (lv_at hl 1 rfl) ?_
          refine lv_lload_n hx hb md_D_change_51 rfl (lv_at hl 3 rfl) ?_
          refine va_put (D := (dC, dI)) (ci := 0) (v := .long h0) (ty := .long) (C := mR_D) (T := mT_D) (N := 4) hx hb hg gu_D mF_D mO_D mN_D hown hK hP hD hS 0 rfl rfl 1 (by decide) (hg _ wd_46) (fun _ h9 => h9) rfl (by decide +kernel) rfl rfl (Nat.le_of_ble_eq_true rfl) md_D_change_52 (fun H locs hP hD hS => ?_)
          have hP : va_P (dC, dI) mC [(dA, .inr (0, [.long w0, .long h0, .long dt, .long dd]))] H := hP
          have hD : va_D A [(dA, .inr (0, [.long w0, .long h0, .long dt, .long dd]))] := hD
          refine lv_aload_n hx hb md_D_change_55 rfl (lv_at hl 1 rfl) ?_
          refine lv_lload hx hb md_D_change_56 (lv_at hl 4 rfl) ?_
          refine va_put (D := (dC, dI)) (ci := 0) (v := .long th0) (ty := .long) (C := mR_D) (T := mT_D) (N := 4) hx hb hg gu_D mF_D mO_D mN_D hown hK hP hD hS 0 rfl rfl 2 (by decide) (hg _ wd_49) (fun _ h9 => h9) rfl (by decide +kernel) rfl rfl (Nat.le_of_ble_eq_true rfl) md_D_change_58 (fun H locs hP hD hS => ?_)
          have hP : va_P (dC, dI) mC [(dA, .inr (0, [.long w0, .long h0, .long th0, .long dd]))] H := hP
          have hD : va_D A [(dA, .inr (0, [.long w0, .long h0, .long th0, .long dd]))] := hD
          refine lv_aload_n hx hb md_D_change_61 rfl (lv_at hl 1 rfl) ?_
          refine lv_lload hx hb md_D_change_62 (lv_at hl 5 rfl) ?_
          refine va_put (D := (dC, dI)) (ci := 0) (v := .long de0) (ty := .long) (C := mR_D) (T := mT_D) (N := 4) hx hb hg gu_D mF_D mO_D mN_D hown hK hP hD hS 0 rfl rfl 3 (by decide) (hg _ wd_50) (fun _ h9 => h9) rfl (by decide +kernel) rfl rfl (Nat.le_of_ble_eq_true rfl) md_D_change_64 (fun H locs hP hD hS => ?_)
          have hP : va_P (dC, dI) mC [(dA, .inr (0, [.long w0, .long h0, .long th0, .long de0]))] H := hP
          have hD : va_D A [(dA, .inr (0, [.long w0, .long h0, .long th0, .long de0]))] := hD
          refine lv_iload hx hb md_D_change_67 (lv_at hl 0 rfl) ?_
          exact W.zret (v := 1) hx hb hr rfl (fun t ht hW => ⟨⟨1, (w0, h0, th0, de0), rfl, (by rw [fD_change, if_pos c1, if_pos c2, if_pos c3, if_neg c4]), by have h9 := hP; rw [← ht] at h9; exact h9⟩, hS.F ht⟩) hS.2.2 md_D_change_69 hlocks

def fH_change (ox : Nat → Int32) (oy : Nat → Int32) (oq : Nat → Int32) (k : Int32) (x0 : Int64) (y0 : Int64) (r0 : Int64) : Int32 × (Nat → Int32) × (Nat → Int32) × (Nat → Int32) := if r0 = 0 then (if r0 = 0 then (if (ox (Int32.toNatClampNeg k)) = 0 then (if (oy (Int32.toNatClampNeg k)) = 0 then (if (Int32.toInt64 (oq (Int32.toNatClampNeg k))) = r0 then (0, upd ox (Int32.toNatClampNeg k) 0, upd oy (Int32.toNatClampNeg k) 0, upd oq (Int32.toNatClampNeg k) (Int64.toInt32 r0)) else (1, upd ox (Int32.toNatClampNeg k) 0, upd oy (Int32.toNatClampNeg k) 0, upd oq (Int32.toNatClampNeg k) (Int64.toInt32 r0))) else (1, upd ox (Int32.toNatClampNeg k) 0, upd oy (Int32.toNatClampNeg k) 0, upd oq (Int32.toNatClampNeg k) (Int64.toInt32 r0))) else (1, upd ox (Int32.toNatClampNeg k) 0, upd oy (Int32.toNatClampNeg k) 0, upd oq (Int32.toNatClampNeg k) (Int64.toInt32 r0))) else (if (ox (Int32.toNatClampNeg k)) = 0 then (if (oy (Int32.toNatClampNeg k)) = (Int64.toInt32 y0) then (if (Int32.toInt64 (oq (Int32.toNatClampNeg k))) = r0 then (0, upd ox (Int32.toNatClampNeg k) 0, upd oy (Int32.toNatClampNeg k) (Int64.toInt32 y0), upd oq (Int32.toNatClampNeg k) (Int64.toInt32 r0)) else (1, upd ox (Int32.toNatClampNeg k) 0, upd oy (Int32.toNatClampNeg k) (Int64.toInt32 y0), upd oq (Int32.toNatClampNeg k) (Int64.toInt32 r0))) else (1, upd ox (Int32.toNatClampNeg k) 0, upd oy (Int32.toNatClampNeg k) (Int64.toInt32 y0), upd oq (Int32.toNatClampNeg k) (Int64.toInt32 r0))) else (1, upd ox (Int32.toNatClampNeg k) 0, upd oy (Int32.toNatClampNeg k) (Int64.toInt32 y0), upd oq (Int32.toNatClampNeg k) (Int64.toInt32 r0)))) else (if r0 = 0 then (if (ox (Int32.toNatClampNeg k)) = (Int64.toInt32 x0) then (if (oy (Int32.toNatClampNeg k)) = 0 then (if (Int32.toInt64 (oq (Int32.toNatClampNeg k))) = r0 then (0, upd ox (Int32.toNatClampNeg k) (Int64.toInt32 x0), upd oy (Int32.toNatClampNeg k) 0, upd oq (Int32.toNatClampNeg k) (Int64.toInt32 r0)) else (1, upd ox (Int32.toNatClampNeg k) (Int64.toInt32 x0), upd oy (Int32.toNatClampNeg k) 0, upd oq (Int32.toNatClampNeg k) (Int64.toInt32 r0))) else (1, upd ox (Int32.toNatClampNeg k) (Int64.toInt32 x0), upd oy (Int32.toNatClampNeg k) 0, upd oq (Int32.toNatClampNeg k) (Int64.toInt32 r0))) else (1, upd ox (Int32.toNatClampNeg k) (Int64.toInt32 x0), upd oy (Int32.toNatClampNeg k) 0, upd oq (Int32.toNatClampNeg k) (Int64.toInt32 r0))) else (if (ox (Int32.toNatClampNeg k)) = (Int64.toInt32 x0) then (if (oy (Int32.toNatClampNeg k)) = (Int64.toInt32 y0) then (if (Int32.toInt64 (oq (Int32.toNatClampNeg k))) = r0 then (0, upd ox (Int32.toNatClampNeg k) (Int64.toInt32 x0), upd oy (Int32.toNatClampNeg k) (Int64.toInt32 y0), upd oq (Int32.toNatClampNeg k) (Int64.toInt32 r0)) else (1, upd ox (Int32.toNatClampNeg k) (Int64.toInt32 x0), upd oy (Int32.toNatClampNeg k) (Int64.toInt32 y0), upd oq (Int32.toNatClampNeg k) (Int64.toInt32 r0))) else (1, upd ox (Int32.toNatClampNeg k) (Int64.toInt32 x0), upd oy (Int32.toNatClampNeg k) (Int64.toInt32 y0), upd oq (Int32.toNatClampNeg k) (Int64.toInt32 r0))) else (1, upd ox (Int32.toNatClampNeg k) (Int64.toInt32 x0), upd oy (Int32.toNatClampNeg k) (Int64.toInt32 y0), upd oq (Int32.toNatClampNeg k) (Int64.toInt32 r0))))
theorem zH_change (ox : Nat → Int32) (oy : Nat → Int32) (oq : Nat → Int32) (k : Int32) (x0 : Int64) (y0 : Int64) (r0 : Int64) : narrow .boolean (.int (fH_change ox oy oq k x0 y0 r0).1) = .int (fH_change ox oy oq k x0 y0 r0).1 := by
  unfold fH_change
  repeat' split
  all_goals (dsimp only; rfl)
set_option maxHeartbeats 1000000 in
set_option maxRecDepth 100000 in
theorem ct_H_change (l : Launch) (dC : Nat → ClassId) (dI : Nat → Nat → Nat) (cC cI cJ : ClassId) (oA : Nat) (oX : Nat) (oY : Nat) (oR : Nat) (ox : Nat → Int32) (oy : Nat → Int32) (oq : Nat → Int32) (k : Int32) (x0 : Int64) (y0 : Int64) (r0 : Int64)  (hk : vp_in k 16) : Met l my_H_change (.code my_H_change mb_H_change 11 (some .boolean) :: gw_l) ({ frames := 0, cells := 0, slots := 0, locals := 0 }) (mu_Pc (dC, dI) mC [(cC, .char), (cI, .int), (cJ, .long)] [(oA, .inr (1, [.ref oX, .ref oY, .ref oR])), (oX, .inl (cI, 16, .inl ox)), (oY, .inl (cI, 16, .inl oy)), (oR, .inl (cI, 16, .inl oq))] (fun _ => True) [.ref oA, .int k, .long x0, .long y0, .long r0]) (va_Qi (fun (r : Int32) (u : (Nat → Int32) × (Nat → Int32) × (Nat → Int32)) => (r, u) = fH_change ox oy oq k x0 y0 r0) (fun u t => va_P (dC, dI) mC [(oA, .inr (1, [.ref oX, .ref oY, .ref oR])), (oX, .inl (cI, 16, .inl u.1)), (oY, .inl (cI, 16, .inl u.2.1)), (oR, .inl (cI, 16, .inl u.2.2))] t.heap) (mu_A [(oA, .inr (1, [.ref oX, .ref oY, .ref oR])), (oX, .inl (cI, 16, .inl ox)), (oY, .inl (cI, 16, .inl oy)), (oR, .inl (cI, 16, .inl oq))])) 0 0 (mu_A [(oA, .inr (1, [.ref oX, .ref oY, .ref oR])), (oX, .inl (cI, 16, .inl ox)), (oY, .inl (cI, 16, .inl oy)), (oR, .inl (cI, 16, .inl oq))]) := by
  refine Met.ofW (cc := mb_H_change) (maxL := 11) (ret := (some .boolean)) (by decide) rfl ?_
  intro p e s m args below meth c s₁ B hml hv
  obtain ⟨rfl, hP, hK, hD0, hE⟩ := hv
  have hx := B.exec
  have hb := B.bytes
  have hr := B.returns
  have hts := atoms_spec (ws := (.code my_H_change mb_H_change 11 (some .boolean) :: gw_l)) B.pre
  have hg : ∀ w ∈ gw_l, w.before _ s = true := fun w h => hts w (List.mem_cons_of_mem _ h)
  have hown : s.vm.findClass mR_H = some m.cls := findClass_of_methodNamed B.named
  have hlocks := B.notSynchronized
  have hD := mu_self hD0
  have hS : va_S (mu_A [(oA, .inr (1, [.ref oX, .ref oY, .ref oR])), (oX, .inl (cI, 16, .inl ox)), (oY, .inl (cI, 16, .inl oy)), (oR, .inl (cI, 16, .inl oq))]) s.heap s.heap [] := va_S.rf
  generalize hAe : mu_A [(oA, .inr (1, [.ref oX, .ref oY, .ref oR])), (oX, .inl (cI, 16, .inl ox)), (oY, .inl (cI, 16, .inl oy)), (oR, .inl (cI, 16, .inl oq))] = A at hD hS ⊢
  have hl := lv_entry ([.ref oA, .int k, .long x0, .long y0, .long r0]) (n := 11) (Nat.le_of_ble_eq_true rfl)
  rw [lg_entry_eq]
  generalize (lg_sl ([.ref oA, .int k, .long x0, .long y0, .long r0]) ++ List.replicate (11 - (lg_sl ([.ref oA, .int k, .long x0, .long y0, .long r0])).length) Slot.unset).toArray = ls at hl ⊢
  have hl : lv_has ls 11 [(0, .ref oA), (1, .int k), (2, .long x0), (4, .long y0), (6, .long r0)] := hl
  refine lv_lload hx hb md_H_change_0 (lv_at hl 4 rfl) ?_
  refine lv_lconst (v := 0) hx hb md_H_change_2 (by decide) ?_
  refine lx_ne (tgt := 11) hx hb md_H_change_3 md_H_change_4 (by decide) (fun c1 => ?_) (fun c1 => ?_)
  · refine lv_lload_n hx hb md_H_change_11 rfl (lv_at hl 2 rfl) ?_
    refine lv_l2i (v := Int64.toInt32 x0) hx hb md_H_change_12 rfl ?_
    refine lv_istore (lv' := [(8, .int (Int64.toInt32 x0)), (0, .ref oA), (1, .int k), (2, .long x0), (4, .long y0), (6, .long r0)]) hx hb md_H_change_13 hl (by decide) rfl (fun ls hl => ?_)
    refine lv_lload hx hb md_H_change_15 (lv_at hl 5 rfl) ?_
    refine lv_lconst (v := 0) hx hb md_H_change_17 (by decide) ?_
    refine lx_ne (tgt := 26) hx hb md_H_change_18 md_H_change_19 (by decide) (fun c2 => ?_) (fun c2 => ?_)
    · refine lv_lload hx hb md_H_change_26 (lv_at hl 4 rfl) ?_
      refine lv_l2i (v := Int64.toInt32 y0) hx hb md_H_change_28 rfl ?_
      refine lv_istore (lv' := [(9, .int (Int64.toInt32 y0)), (8, .int (Int64.toInt32 x0)), (0, .ref oA), (1, .int k), (2, .long x0), (4, .long y0), (6, .long r0)]) hx hb md_H_change_29 hl (by decide) rfl (fun ls hl => ?_)
      refine lv_aload_n hx hb md_H_change_31 rfl (lv_at hl 2 rfl) ?_
      refine va_get (D := (dC, dI)) (ci := 1) (v := .ref oX) (C := mR_H) (T := mT_H) (N := 3) hx hb hg gu_H hown hK hP 0 rfl rfl 0 (by decide) (hg _ wd_66) (fun _ h9 => h9) rfl md_H_change_32 ?_
      refine lv_iload_n hx hb md_H_change_35 rfl (lv_at hl 3 rfl) ?_
      refine va_iald hx hb hK hP 1 1 rfl rfl hk md_H_change_36 ?_
      refine lv_iload hx hb md_H_change_37 (lv_at hl 1 rfl) ?_
      refine lv_icmp_ne (tgt := 66) hx hb md_H_change_39 (by decide) (fun c3 => ?_) (fun c3 => ?_)
      · refine lv_iconst (v := 1) hx hb md_H_change_66 (by decide) ?_
        refine lv_goto (tgt := 71) hx hb md_H_change_67 (by decide) ?_
        refine lv_istore (lv' := [(10, .int 1), (9, .int (Int64.toInt32 y0)), (8, .int (Int64.toInt32 x0)), (0, .ref oA), (1, .int k), (2, .long x0), (4, .long y0), (6, .long r0)]) hx hb md_H_change_71 hl (by decide) rfl (fun ls hl => ?_)
        refine lv_aload_n hx hb md_H_change_73 rfl (lv_at hl 3 rfl) ?_
        refine va_get (D := (dC, dI)) (ci := 1) (v := .ref oX) (C := mR_H) (T := mT_H) (N := 3) hx hb hg gu_H hown hK hP 0 rfl rfl 0 (by decide) (hg _ wd_66) (fun _ h9 => h9) rfl md_H_change_74 ?_
        refine lv_iload_n hx hb md_H_change_77 rfl (lv_at hl 4 rfl) ?_
        refine lv_iload hx hb md_H_change_78 (lv_at hl 2 rfl) ?_
        refine va_iast hx hb hK hP hD hS 1 1 rfl rfl hk md_H_change_80 (fun H locs hP hD hS => ?_)
        have hP : va_P (dC, dI) mC [(oA, .inr (1, [.ref oX, .ref oY, .ref oR])), (oX, .inl (cI, 16, .inl (upd ox (Int32.toNatClampNeg k) (Int64.toInt32 x0)))), (oY, .inl (cI, 16, .inl oy)), (oR, .inl (cI, 16, .inl oq))] H := hP
        have hD : va_D A [(oA, .inr (1, [.ref oX, .ref oY, .ref oR])), (oX, .inl (cI, 16, .inl (upd ox (Int32.toNatClampNeg k) (Int64.toInt32 x0)))), (oY, .inl (cI, 16, .inl oy)), (oR, .inl (cI, 16, .inl oq))] := hD
        refine lv_aload_n hx hb md_H_change_81 rfl (lv_at hl 3 rfl) ?_
        refine va_get (D := (dC, dI)) (ci := 1) (v := .ref oY) (C := mR_H) (T := mT_H) (N := 3) hx hb hg gu_H hown hK hP 0 rfl rfl 1 (by decide) (hg _ wd_67) (fun _ h9 => h9) rfl md_H_change_82 ?_
        refine lv_iload_n hx hb md_H_change_85 rfl (lv_at hl 4 rfl) ?_
        refine lv_iload hx hb md_H_change_86 (lv_at hl 1 rfl) ?_
        refine va_iast hx hb hK hP hD hS 2 1 rfl rfl hk md_H_change_88 (fun H locs hP hD hS => ?_)
        have hP : va_P (dC, dI) mC [(oA, .inr (1, [.ref oX, .ref oY, .ref oR])), (oX, .inl (cI, 16, .inl (upd ox (Int32.toNatClampNeg k) (Int64.toInt32 x0)))), (oY, .inl (cI, 16, .inl (upd oy (Int32.toNatClampNeg k) (Int64.toInt32 y0)))), (oR, .inl (cI, 16, .inl oq))] H := hP
        have hD : va_D A [(oA, .inr (1, [.ref oX, .ref oY, .ref oR])), (oX, .inl (cI, 16, .inl (upd ox (Int32.toNatClampNeg k) (Int64.toInt32 x0)))), (oY, .inl (cI, 16, .inl (upd oy (Int32.toNatClampNeg k) (Int64.toInt32 y0)))), (oR, .inl (cI, 16, .inl oq))] := hD
        refine lv_aload_n hx hb md_H_change_89 rfl (lv_at hl 3 rfl) ?_
        refine va_get (D := (dC, dI)) (ci := 1) (v := .ref oR) (C := mR_H) (T := mT_H) (N := 3) hx hb hg gu_H hown hK hP 0 rfl rfl 2 (by decide) (hg _ wd_68) (fun _ h9 => h9) rfl md_H_change_90 ?_
        refine lv_iload_n hx hb md_H_change_93 rfl (lv_at hl 4 rfl) ?_
        refine lv_lload hx hb md_H_change_94 (lv_at hl 7 rfl) ?_
        refine lv_l2i (v := Int64.toInt32 r0) hx hb md_H_change_96 rfl ?_
        refine va_iast hx hb hK hP hD hS 3 1 rfl rfl hk md_H_change_97 (fun H locs hP hD hS => ?_)
        have hP : va_P (dC, dI) mC [(oA, .inr (1, [.ref oX, .ref oY, .ref oR])), (oX, .inl (cI, 16, .inl (upd ox (Int32.toNatClampNeg k) (Int64.toInt32 x0)))), (oY, .inl (cI, 16, .inl (upd oy (Int32.toNatClampNeg k) (Int64.toInt32 y0)))), (oR, .inl (cI, 16, .inl (upd oq (Int32.toNatClampNeg k) (Int64.toInt32 r0))))] H := hP
        have hD : va_D A [(oA, .inr (1, [.ref oX, .ref oY, .ref oR])), (oX, .inl (cI, 16, .inl (upd ox (Int32.toNatClampNeg k) (Int64.toInt32 x0)))), (oY, .inl (cI, 16, .inl (upd oy (Int32.toNatClampNeg k) (Int64.toInt32 y0)))), (oR, .inl (cI, 16, .inl (upd oq (Int32.toNatClampNeg k) (Int64.toInt32 r0))))] := hD
        refine lv_iload hx hb md_H_change_98 (lv_at hl 0 rfl) ?_
        exact W.zret (v := 1) hx hb hr rfl (fun t ht hW => ⟨⟨1, (upd ox (Int32.toNatClampNeg k) (Int64.toInt32 x0), upd oy (Int32.toNatClampNeg k) (Int64.toInt32 y0), upd oq (Int32.toNatClampNeg k) (Int64.toInt32 r0)), rfl, (by rw [fH_change, if_neg c1, if_neg c2, if_neg c3]), by have h9 := hP; rw [← ht] at h9; exact h9⟩, hS.F ht⟩) hS.2.2 md_H_change_100 hlocks
      · refine lv_aload_n hx hb md_H_change_42 rfl (lv_at hl 2 rfl) ?_
        refine va_get (D := (dC, dI)) (ci := 1) (v := .ref oY) (C := mR_H) (T := mT_H) (N := 3) hx hb hg gu_H hown hK hP 0 rfl rfl 1 (by decide) (hg _ wd_67) (fun _ h9 => h9) rfl md_H_change_43 ?_
        refine lv_iload_n hx hb md_H_change_46 rfl (lv_at hl 3 rfl) ?_
        refine va_iald hx hb hK hP 2 1 rfl rfl hk md_H_change_47 ?_
        refine lv_iload hx hb md_H_change_48 (lv_at hl 0 rfl) ?_
        refine lv_icmp_ne (tgt := 66) hx hb md_H_change_50 (by decide) (fun c4 => ?_) (fun c4 => ?_)
        · refine lv_iconst (v := 1) hx hb md_H_change_66 (by decide) ?_
          refine lv_goto (tgt := 71) hx hb md_H_change_67 (by decide) ?_
          refine lv_istore (lv' := [(10, .int 1), (9, .int (Int64.toInt32 y0)), (8, .int (Int64.toInt32 x0)), (0, .ref oA), (1, .int k), (2, .long x0), (4, .long y0), (6, .long r0)]) hx hb md_H_change_71 hl (by decide) rfl (fun ls hl => ?_)
          refine lv_aload_n hx hb md_H_change_73 rfl (lv_at hl 3 rfl) ?_
          refine va_get (D := (dC, dI)) (ci := 1) (v := .ref oX) (C := mR_H) (T := mT_H) (N := 3) hx hb hg gu_H hown hK hP 0 rfl rfl 0 (by decide) (hg _ wd_66) (fun _ h9 => h9) rfl md_H_change_74 ?_
          refine lv_iload_n hx hb md_H_change_77 rfl (lv_at hl 4 rfl) ?_
          refine lv_iload hx hb md_H_change_78 (lv_at hl 2 rfl) ?_
          refine va_iast hx hb hK hP hD hS 1 1 rfl rfl hk md_H_change_80 (fun H locs hP hD hS => ?_)
          have hP : va_P (dC, dI) mC [(oA, .inr (1, [.ref oX, .ref oY, .ref oR])), (oX, .inl (cI, 16, .inl (upd ox (Int32.toNatClampNeg k) (Int64.toInt32 x0)))), (oY, .inl (cI, 16, .inl oy)), (oR, .inl (cI, 16, .inl oq))] H := hP
          have hD : va_D A [(oA, .inr (1, [.ref oX, .ref oY, .ref oR])), (oX, .inl (cI, 16, .inl (upd ox (Int32.toNatClampNeg k) (Int64.toInt32 x0)))), (oY, .inl (cI, 16, .inl oy)), (oR, .inl (cI, 16, .inl oq))] := hD
          refine lv_aload_n hx hb md_H_change_81 rfl (lv_at hl 3 rfl) ?_
          refine va_get (D := (dC, dI)) (ci := 1) (v := .ref oY) (C := mR_H) (T := mT_H) (N := 3) hx hb hg gu_H hown hK hP 0 rfl rfl 1 (by decide) (hg _ wd_67) (fun _ h9 => h9) rfl md_H_change_82 ?_
          refine lv_iload_n hx hb md_H_change_85 rfl (lv_at hl 4 rfl) ?_
          refine lv_iload hx hb md_H_change_86 (lv_at hl 1 rfl) ?_
          refine va_iast hx hb hK hP hD hS 2 1 rfl rfl hk md_H_change_88 (fun H locs hP hD hS => ?_)
          have hP : va_P (dC, dI) mC [(oA, .inr (1, [.ref oX, .ref oY, .ref oR])), (oX, .inl (cI, 16, .inl (upd ox (Int32.toNatClampNeg k) (Int64.toInt32 x0)))), (oY, .inl (cI, 16, .inl (upd oy (Int32.toNatClampNeg k) (Int64.toInt32 y0)))), (oR, .inl (cI, 16, .inl oq))] H := hP
          have hD : va_D A [(oA, .inr (1, [.ref oX, .ref oY, .ref oR])), (oX, .inl (cI, 16, .inl (upd ox (Int32.toNatClampNeg k) (Int64.toInt32 x0)))), (oY, .inl (cI, 16, .inl (upd oy (Int32.toNatClampNeg k) (Int64.toInt32 y0)))), (oR, .inl (cI, 16, .inl oq))] := hD
          refine lv_aload_n hx hb md_H_change_89 rfl (lv_at hl 3 rfl) ?_
          refine va_get (D := (dC, dI)) (ci := 1) (v := .ref oR) (C := mR_H) (T := mT_H) (N := 3) hx hb hg gu_H hown hK hP 0 rfl rfl 2 (by decide) (hg _ wd_68) (fun _ h9 => h9) rfl md_H_change_90 ?_
          refine lv_iload_n hx hb md_H_change_93 rfl (lv_at hl 4 rfl) ?_
          refine lv_lload hx hb md_H_change_94 (lv_at hl 7 rfl) ?_
          refine lv_l2i (v := Int64.toInt32 r0) hx hb md_H_change_96 rfl ?_
          refine va_iast hx hb hK hP hD hS 3 1 rfl rfl hk md_H_change_97 (fun H locs hP hD hS => ?_)
          have hP : va_P (dC, dI) mC [(oA, .inr (1, [.ref oX, .ref oY, .ref oR])), (oX, .inl (cI, 16, .inl (upd ox (Int32.toNatClampNeg k) (Int64.toInt32 x0)))), (oY, .inl (cI, 16, .inl (upd oy (Int32.toNatClampNeg k) (Int64.toInt32 y0)))), (oR, .inl (cI, 16, .inl (upd oq (Int32.toNatClampNeg k) (Int64.toInt32 r0))))] H := hP
          have hD : va_D A [(oA, .inr (1, [.ref oX, .ref oY, .ref oR])), (oX, .inl (cI, 16, .inl (upd ox (Int32.toNatClampNeg k) (Int64.toInt32 x0)))), (oY, .inl (cI, 16, .inl (upd oy (Int32.toNatClampNeg k) (Int64.toInt32 y0)))), (oR, .inl (cI, 16, .inl (upd oq (Int32.toNatClampNeg k) (Int64.toInt32 r0))))] := hD
          refine lv_iload hx hb md_H_change_98 (lv_at hl 0 rfl) ?_
          exact W.zret (v := 1) hx hb hr rfl (fun t ht hW => ⟨⟨1, (upd ox (Int32.toNatClampNeg k) (Int64.toInt32 x0), upd oy (Int32.toNatClampNeg k) (Int64.toInt32 y0), upd oq (Int32.toNatClampNeg k) (Int64.toInt32 r0)), rfl, (by rw [fH_change, if_neg c1, if_neg c2, if_pos c3, if_neg c4]), by have h9 := hP; rw [← ht] at h9; exact h9⟩, hS.F ht⟩) hS.2.2 md_H_change_100 hlocks
        · refine lv_aload_n hx hb md_H_change_53 rfl (lv_at hl 2 rfl) ?_
          refine va_get (D := (dC, dI)) (ci := 1) (v := .ref oR) (C := mR_H) (T := mT_H) (N := 3) hx hb hg gu_H hown hK hP 0 rfl rfl 2 (by decide) (hg _ wd_68) (fun _ h9 => h9) rfl md_H_change_54 ?_
          refine lv_iload_n hx hb md_H_change_57 rfl (lv_at hl 3 rfl) ?_
          refine va_iald hx hb hK hP 3 1 rfl rfl hk md_H_change_58 ?_
          refine lv_i2l (v := Int32.toInt64 (oq (Int32.toNatClampNeg k))) hx hb md_H_change_59 rfl ?_
          refine lv_lload hx hb md_H_change_60 (lv_at hl 6 rfl) ?_
          refine lx_eq (tgt := 70) hx hb md_H_change_62 md_H_change_63 (by decide) (fun c5 => ?_) (fun c5 => ?_)
          · refine lv_iconst (v := 0) hx hb md_H_change_70 (by decide) ?_
            refine lv_istore (lv' := [(10, .int 0), (9, .int (Int64.toInt32 y0)), (8, .int (Int64.toInt32 x0)), (0, .ref oA), (1, .int k), (2, .long x0), (4, .long y0), (6, .long r0)]) hx hb md_H_change_71 hl (by decide) rfl (fun ls hl => ?_)
            refine lv_aload_n hx hb md_H_change_73 rfl (lv_at hl 3 rfl) ?_
            refine va_get (D := (dC, dI)) (ci := 1) (v := .ref oX) (C := mR_H) (T := mT_H) (N := 3) hx hb hg gu_H hown hK hP 0 rfl rfl 0 (by decide) (hg _ wd_66) (fun _ h9 => h9) rfl md_H_change_74 ?_
            refine lv_iload_n hx hb md_H_change_77 rfl (lv_at hl 4 rfl) ?_
            refine lv_iload hx hb md_H_change_78 (lv_at hl 2 rfl) ?_
            refine va_iast hx hb hK hP hD hS 1 1 rfl rfl hk md_H_change_80 (fun H locs hP hD hS => ?_)
            have hP : va_P (dC, dI) mC [(oA, .inr (1, [.ref oX, .ref oY, .ref oR])), (oX, .inl (cI, 16, .inl (upd ox (Int32.toNatClampNeg k) (Int64.toInt32 x0)))), (oY, .inl (cI, 16, .inl oy)), (oR, .inl (cI, 16, .inl oq))] H := hP
            have hD : va_D A [(oA, .inr (1, [.ref oX, .ref oY, .ref oR])), (oX, .inl (cI, 16, .inl (upd ox (Int32.toNatClampNeg k) (Int64.toInt32 x0)))), (oY, .inl (cI, 16, .inl oy)), (oR, .inl (cI, 16, .inl oq))] := hD
            refine lv_aload_n hx hb md_H_change_81 rfl (lv_at hl 3 rfl) ?_
            refine va_get (D := (dC, dI)) (ci := 1) (v := .ref oY) (C := mR_H) (T := mT_H) (N := 3) hx hb hg gu_H hown hK hP 0 rfl rfl 1 (by decide) (hg _ wd_67) (fun _ h9 => h9) rfl md_H_change_82 ?_
            refine lv_iload_n hx hb md_H_change_85 rfl (lv_at hl 4 rfl) ?_
            refine lv_iload hx hb md_H_change_86 (lv_at hl 1 rfl) ?_
            refine va_iast hx hb hK hP hD hS 2 1 rfl rfl hk md_H_change_88 (fun H locs hP hD hS => ?_)
            have hP : va_P (dC, dI) mC [(oA, .inr (1, [.ref oX, .ref oY, .ref oR])), (oX, .inl (cI, 16, .inl (upd ox (Int32.toNatClampNeg k) (Int64.toInt32 x0)))), (oY, .inl (cI, 16, .inl (upd oy (Int32.toNatClampNeg k) (Int64.toInt32 y0)))), (oR, .inl (cI, 16, .inl oq))] H := hP
            have hD : va_D A [(oA, .inr (1, [.ref oX, .ref oY, .ref oR])), (oX, .inl (cI, 16, .inl (upd ox (Int32.toNatClampNeg k) (Int64.toInt32 x0)))), (oY, .inl (cI, 16, .inl (upd oy (Int32.toNatClampNeg k) (Int64.toInt32 y0)))), (oR, .inl (cI, 16, .inl oq))] := hD
            refine lv_aload_n hx hb md_H_change_89 rfl (lv_at hl 3 rfl) ?_
            refine va_get (D := (dC, dI)) (ci := 1) (v := .ref oR) (C := mR_H) (T := mT_H) (N := 3) hx hb hg gu_H hown hK hP 0 rfl rfl 2 (by decide) (hg _ wd_68) (fun _ h9 => h9) rfl md_H_change_90 ?_
            refine lv_iload_n hx hb md_H_change_93 rfl (lv_at hl 4 rfl) ?_
            refine lv_lload hx hb md_H_change_94 (lv_at hl 7 rfl) ?_
            refine lv_l2i (v := Int64.toInt32 r0) hx hb md_H_change_96 rfl ?_
            refine va_iast hx hb hK hP hD hS 3 1 rfl rfl hk md_H_change_97 (fun H locs hP hD hS => ?_)
            have hP : va_P (dC, dI) mC [(oA, .inr (1, [.ref oX, .ref oY, .ref oR])), (oX, .inl (cI, 16, .inl (upd ox (Int32.toNatClampNeg k) (Int64.toInt32 x0)))), (oY, .inl (cI, 16, .inl (upd oy (Int32.toNatClampNeg k) (Int64.toInt32 y0)))), (oR, .inl (cI, 16, .inl (upd oq (Int32.toNatClampNeg k) (Int64.toInt32 r0))))] H := hP
            have hD : va_D A [(oA, .inr (1, [.ref oX, .ref oY, .ref oR])), (oX, .inl (cI, 16, .inl (upd ox (Int32.toNatClampNeg k) (Int64.toInt32 x0)))), (oY, .inl (cI, 16, .inl (upd oy (Int32.toNatClampNeg k) (Int64.toInt32 y0)))), (oR, .inl (cI, 16, .inl (upd oq (Int32.toNatClampNeg k) (Int64.toInt32 r0))))] := hD
            refine lv_iload hx hb md_H_change_98 (lv_at hl 0 rfl) ?_
            exact W.zret (v := 0) hx hb hr rfl (fun t ht hW => ⟨⟨0, (upd ox (Int32.toNatClampNeg k) (Int64.toInt32 x0), upd oy (Int32.toNatClampNeg k) (Int64.toInt32 y0), upd oq (Int32.toNatClampNeg k) (Int64.toInt32 r0)), rfl, (by rw [fH_change, if_neg c1, if_neg c2, if_pos c3, if_pos c4, if_pos c5]), by have h9 := hP; rw [← ht] at h9; exact h9⟩, hS.F ht⟩) hS.2.2 md_H_change_100 hlocks
          · refine lv_iconst (v := 1) hx hb md_H_change_66 (by decide) ?_
            refine lv_goto (tgt := 71) hx hb md_H_change_67 (by decide) ?_
            refine lv_istore (lv' := [(10, .int 1), (9, .int (Int64.toInt32 y0)), (8, .int (Int64.toInt32 x0)), (0, .ref oA), (1, .int k), (2, .long x0), (4, .long y0), (6, .long r0)]) hx hb md_H_change_71 hl (by decide) rfl (fun ls hl => ?_)
            refine lv_aload_n hx hb md_H_change_73 rfl (lv_at hl 3 rfl) ?_
            refine va_get (D := (dC, dI)) (ci := 1) (v := .ref oX) (C := mR_H) (T := mT_H) (N := 3) hx hb hg gu_H hown hK hP 0 rfl rfl 0 (by decide) (hg _ wd_66) (fun _ h9 => h9) rfl md_H_change_74 ?_
            refine lv_iload_n hx hb md_H_change_77 rfl (lv_at hl 4 rfl) ?_
            refine lv_iload hx hb md_H_change_78 (lv_at hl 2 rfl) ?_
            refine va_iast hx hb hK hP hD hS 1 1 rfl rfl hk md_H_change_80 (fun H locs hP hD hS => ?_)
            have hP : va_P (dC, dI) mC [(oA, .inr (1, [.ref oX, .ref oY, .ref oR])), (oX, .inl (cI, 16, .inl (upd ox (Int32.toNatClampNeg k) (Int64.toInt32 x0)))), (oY, .inl (cI, 16, .inl oy)), (oR, .inl (cI, 16, .inl oq))] H := hP
            have hD : va_D A [(oA, .inr (1, [.ref oX, .ref oY, .ref oR])), (oX, .inl (cI, 16, .inl (upd ox (Int32.toNatClampNeg k) (Int64.toInt32 x0)))), (oY, .inl (cI, 16, .inl oy)), (oR, .inl (cI, 16, .inl oq))] := hD
            refine lv_aload_n hx hb md_H_change_81 rfl (lv_at hl 3 rfl) ?_
            refine va_get (D := (dC, dI)) (ci := 1) (v := .ref oY) (C := mR_H) (T := mT_H) (N := 3) hx hb hg gu_H hown hK hP 0 rfl rfl 1 (by decide) (hg _ wd_67) (fun _ h9 => h9) rfl md_H_change_82 ?_
            refine lv_iload_n hx hb md_H_change_85 rfl (lv_at hl 4 rfl) ?_
            refine lv_iload hx hb md_H_change_86 (lv_at hl 1 rfl) ?_
            refine va_iast hx hb hK hP hD hS 2 1 rfl rfl hk md_H_change_88 (fun H locs hP hD hS => ?_)
            have hP : va_P (dC, dI) mC [(oA, .inr (1, [.ref oX, .ref oY, .ref oR])), (oX, .inl (cI, 16, .inl (upd ox (Int32.toNatClampNeg k) (Int64.toInt32 x0)))), (oY, .inl (cI, 16, .inl (upd oy (Int32.toNatClampNeg k) (Int64.toInt32 y0)))), (oR, .inl (cI, 16, .inl oq))] H := hP
            have hD : va_D A [(oA, .inr (1, [.ref oX, .ref oY, .ref oR])), (oX, .inl (cI, 16, .inl (upd ox (Int32.toNatClampNeg k) (Int64.toInt32 x0)))), (oY, .inl (cI, 16, .inl (upd oy (Int32.toNatClampNeg k) (Int64.toInt32 y0)))), (oR, .inl (cI, 16, .inl oq))] := hD
            refine lv_aload_n hx hb md_H_change_89 rfl (lv_at hl 3 rfl) ?_
            refine va_get (D := (dC, dI)) (ci := 1) (v := .ref oR) (C := mR_H) (T := mT_H) (N := 3) hx hb hg gu_H hown hK hP 0 rfl rfl 2 (by decide) (hg _ wd_68) (fun _ h9 => h9) rfl md_H_change_90 ?_
            refine lv_iload_n hx hb md_H_change_93 rfl (lv_at hl 4 rfl) ?_
            refine lv_lload hx hb md_H_change_94 (lv_at hl 7 rfl) ?_
            refine lv_l2i (v := Int64.toInt32 r0) hx hb md_H_change_96 rfl ?_
            refine va_iast hx hb hK hP hD hS 3 1 rfl rfl hk md_H_change_97 (fun H locs hP hD hS => ?_)
            have hP : va_P (dC, dI) mC [(oA, .inr (1, [.ref oX, .ref oY, .ref oR])), (oX, .inl (cI, 16, .inl (upd ox (Int32.toNatClampNeg k) (Int64.toInt32 x0)))), (oY, .inl (cI, 16, .inl (upd oy (Int32.toNatClampNeg k) (Int64.toInt32 y0)))), (oR, .inl (cI, 16, .inl (upd oq (Int32.toNatClampNeg k) (Int64.toInt32 r0))))] H := hP
            have hD : va_D A [(oA, .inr (1, [.ref oX, .ref oY, .ref oR])), (oX, .inl (cI, 16, .inl (upd ox (Int32.toNatClampNeg k) (Int64.toInt32 x0)))), (oY, .inl (cI, 16, .inl (upd oy (Int32.toNatClampNeg k) (Int64.toInt32 y0)))), (oR, .inl (cI, 16, .inl (upd oq (Int32.toNatClampNeg k) (Int64.toInt32 r0))))] := hD
            refine lv_iload hx hb md_H_change_98 (lv_at hl 0 rfl) ?_
            exact W.zret (v := 1) hx hb hr rfl (fun t ht hW => ⟨⟨1, (upd ox (Int32.toNatClampNeg k) (Int64.toInt32 x0), upd oy (Int32.toNatClampNeg k) (Int64.toInt32 y0), upd oq (Int32.toNatClampNeg k) (Int64.toInt32 r0)), rfl, (by rw [fH_change, if_neg c1, if_neg c2, if_pos c3, if_pos c4, if_neg c5]), by have h9 := hP; rw [← ht] at h9; exact h9⟩, hS.F ht⟩) hS.2.2 md_H_change_100 hlocks
    · refine lv_iconst (v := 0) hx hb md_H_change_22 (by decide) ?_
      refine lv_goto (tgt := 29) hx hb md_H_change_23 (by decide) ?_
      refine lv_istore (lv' := [(9, .int 0), (8, .int (Int64.toInt32 x0)), (0, .ref oA), (1, .int k), (2, .long x0), (4, .long y0), (6, .long r0)]) hx hb md_H_change_29 hl (by decide) rfl (fun ls hl => ?_)
      refine lv_aload_n hx hb md_H_change_31 rfl (lv_at hl 2 rfl) ?_
      refine va_get (D := (dC, dI)) (ci := 1) (v := .ref oX) (C := mR_H) (T := mT_H) (N := 3) hx hb hg gu_H hown hK hP 0 rfl rfl 0 (by decide) (hg _ wd_66) (fun _ h9 => h9) rfl md_H_change_32 ?_
      refine lv_iload_n hx hb md_H_change_35 rfl (lv_at hl 3 rfl) ?_
      refine va_iald hx hb hK hP 1 1 rfl rfl hk md_H_change_36 ?_
      refine lv_iload hx hb md_H_change_37 (lv_at hl 1 rfl) ?_
      refine lv_icmp_ne (tgt := 66) hx hb md_H_change_39 (by decide) (fun c6 => ?_) (fun c6 => ?_)
      · refine lv_iconst (v := 1) hx hb md_H_change_66 (by decide) ?_
        refine lv_goto (tgt := 71) hx hb md_H_change_67 (by decide) ?_
        refine lv_istore (lv' := [(10, .int 1), (9, .int 0), (8, .int (Int64.toInt32 x0)), (0, .ref oA), (1, .int k), (2, .long x0), (4, .long y0), (6, .long r0)]) hx hb md_H_change_71 hl (by decide) rfl (fun ls hl => ?_)
        refine lv_aload_n hx hb md_H_change_73 rfl (lv_at hl 3 rfl) ?_
        refine va_get (D := (dC, dI)) (ci := 1) (v := .ref oX) (C := mR_H) (T := mT_H) (N := 3) hx hb hg gu_H hown hK hP 0 rfl rfl 0 (by decide) (hg _ wd_66) (fun _ h9 => h9) rfl md_H_change_74 ?_
        refine lv_iload_n hx hb md_H_change_77 rfl (lv_at hl 4 rfl) ?_
        refine lv_iload hx hb md_H_change_78 (lv_at hl 2 rfl) ?_
        refine va_iast hx hb hK hP hD hS 1 1 rfl rfl hk md_H_change_80 (fun H locs hP hD hS => ?_)
        have hP : va_P (dC, dI) mC [(oA, .inr (1, [.ref oX, .ref oY, .ref oR])), (oX, .inl (cI, 16, .inl (upd ox (Int32.toNatClampNeg k) (Int64.toInt32 x0)))), (oY, .inl (cI, 16, .inl oy)), (oR, .inl (cI, 16, .inl oq))] H := hP
        have hD : va_D A [(oA, .inr (1, [.ref oX, .ref oY, .ref oR])), (oX, .inl (cI, 16, .inl (upd ox (Int32.toNatClampNeg k) (Int64.toInt32 x0)))), (oY, .inl (cI, 16, .inl oy)), (oR, .inl (cI, 16, .inl oq))] := hD
        refine lv_aload_n hx hb md_H_change_81 rfl (lv_at hl 3 rfl) ?_
        refine va_get (D := (dC, dI)) (ci := 1) (v := .ref oY) (C := mR_H) (T := mT_H) (N := 3) hx hb hg gu_H hown hK hP 0 rfl rfl 1 (by decide) (hg _ wd_67) (fun _ h9 => h9) rfl md_H_change_82 ?_
        refine lv_iload_n hx hb md_H_change_85 rfl (lv_at hl 4 rfl) ?_
        refine lv_iload hx hb md_H_change_86 (lv_at hl 1 rfl) ?_
        refine va_iast hx hb hK hP hD hS 2 1 rfl rfl hk md_H_change_88 (fun H locs hP hD hS => ?_)
        have hP : va_P (dC, dI) mC [(oA, .inr (1, [.ref oX, .ref oY, .ref oR])), (oX, .inl (cI, 16, .inl (upd ox (Int32.toNatClampNeg k) (Int64.toInt32 x0)))), (oY, .inl (cI, 16, .inl (upd oy (Int32.toNatClampNeg k) 0))), (oR, .inl (cI, 16, .inl oq))] H := hP
        have hD : va_D A [(oA, .inr (1, [.ref oX, .ref oY, .ref oR])), (oX, .inl (cI, 16, .inl (upd ox (Int32.toNatClampNeg k) (Int64.toInt32 x0)))), (oY, .inl (cI, 16, .inl (upd oy (Int32.toNatClampNeg k) 0))), (oR, .inl (cI, 16, .inl oq))] := hD
        refine lv_aload_n hx hb md_H_change_89 rfl (lv_at hl 3 rfl) ?_
        refine va_get (D := (dC, dI)) (ci := 1) (v := .ref oR) (C := mR_H) (T := mT_H) (N := 3) hx hb hg gu_H hown hK hP 0 rfl rfl 2 (by decide) (hg _ wd_68) (fun _ h9 => h9) rfl md_H_change_90 ?_
        refine lv_iload_n hx hb md_H_change_93 rfl (lv_at hl 4 rfl) ?_
        refine lv_lload hx hb md_H_change_94 (lv_at hl 7 rfl) ?_
        refine lv_l2i (v := Int64.toInt32 r0) hx hb md_H_change_96 rfl ?_
        refine va_iast hx hb hK hP hD hS 3 1 rfl rfl hk md_H_change_97 (fun H locs hP hD hS => ?_)
        have hP : va_P (dC, dI) mC [(oA, .inr (1, [.ref oX, .ref oY, .ref oR])), (oX, .inl (cI, 16, .inl (upd ox (Int32.toNatClampNeg k) (Int64.toInt32 x0)))), (oY, .inl (cI, 16, .inl (upd oy (Int32.toNatClampNeg k) 0))), (oR, .inl (cI, 16, .inl (upd oq (Int32.toNatClampNeg k) (Int64.toInt32 r0))))] H := hP
        have hD : va_D A [(oA, .inr (1, [.ref oX, .ref oY, .ref oR])), (oX, .inl (cI, 16, .inl (upd ox (Int32.toNatClampNeg k) (Int64.toInt32 x0)))), (oY, .inl (cI, 16, .inl (upd oy (Int32.toNatClampNeg k) 0))), (oR, .inl (cI, 16, .inl (upd oq (Int32.toNatClampNeg k) (Int64.toInt32 r0))))] := hD
        refine lv_iload hx hb md_H_change_98 (lv_at hl 0 rfl) ?_
        exact W.zret (v := 1) hx hb hr rfl (fun t ht hW => ⟨⟨1, (upd ox (Int32.toNatClampNeg k) (Int64.toInt32 x0), upd oy (Int32.toNatClampNeg k) 0, upd oq (Int32.toNatClampNeg k) (Int64.toInt32 r0)), rfl, (by rw [fH_change, if_neg c1, if_pos c2, if_neg c6]), by have h9 := hP; rw [← ht] at h9; exact h9⟩, hS.F ht⟩) hS.2.2 md_H_change_100 hlocks
      · refine lv_aload_n hx hb md_H_change_42 rfl (lv_at hl 2 rfl) ?_
        refine va_get (D := (dC, dI)) (ci := 1) (v := .ref oY) (C := mR_H) (T := mT_H) (N := 3) hx hb hg gu_H hown hK hP 0 rfl rfl 1 (by decide) (hg _ wd_67) (fun _ h9 => h9) rfl md_H_change_43 ?_
        refine lv_iload_n hx hb md_H_change_46 rfl (lv_at hl 3 rfl) ?_
        refine va_iald hx hb hK hP 2 1 rfl rfl hk md_H_change_47 ?_
        refine lv_iload hx hb md_H_change_48 (lv_at hl 0 rfl) ?_
        refine lv_icmp_ne (tgt := 66) hx hb md_H_change_50 (by decide) (fun c7 => ?_) (fun c7 => ?_)
        · refine lv_iconst (v := 1) hx hb md_H_change_66 (by decide) ?_
          refine lv_goto (tgt := 71) hx hb md_H_change_67 (by decide) ?_
          refine lv_istore (lv' := [(10, .int 1), (9, .int 0), (8, .int (Int64.toInt32 x0)), (0, .ref oA), (1, .int k), (2, .long x0), (4, .long y0), (6, .long r0)]) hx hb md_H_change_71 hl (by decide) rfl (fun ls hl => ?_)
          refine lv_aload_n hx hb md_H_change_73 rfl (lv_at hl 3 rfl) ?_
          refine va_get (D := (dC, dI)) (ci := 1) (v := .ref oX) (C := mR_H) (T := mT_H) (N := 3) hx hb hg gu_H hown hK hP 0 rfl rfl 0 (by decide) (hg _ wd_66) (fun _ h9 => h9) rfl md_H_change_74 ?_
          refine lv_iload_n hx hb md_H_change_77 rfl (lv_at hl 4 rfl) ?_
          refine lv_iload hx hb md_H_change_78 (lv_at hl 2 rfl) ?_
          refine va_iast hx hb hK hP hD hS 1 1 rfl rfl hk md_H_change_80 (fun H locs hP hD hS => ?_)
          have hP : va_P (dC, dI) mC [(oA, .inr (1, [.ref oX, .ref oY, .ref oR])), (oX, .inl (cI, 16, .inl (upd ox (Int32.toNatClampNeg k) (Int64.toInt32 x0)))), (oY, .inl (cI, 16, .inl oy)), (oR, .inl (cI, 16, .inl oq))] H := hP
          have hD : va_D A [(oA, .inr (1, [.ref oX, .ref oY, .ref oR])), (oX, .inl (cI, 16, .inl (upd ox (Int32.toNatClampNeg k) (Int64.toInt32 x0)))), (oY, .inl (cI, 16, .inl oy)), (oR, .inl (cI, 16, .inl oq))] := hD
          refine lv_aload_n hx hb md_H_change_81 rfl (lv_at hl 3 rfl) ?_
          refine va_get (D := (dC, dI)) (ci := 1) (v := .ref oY) (C := mR_H) (T := mT_H) (N := 3) hx hb hg gu_H hown hK hP 0 rfl rfl 1 (by decide) (hg _ wd_67) (fun _ h9 => h9) rfl md_H_change_82 ?_
          refine lv_iload_n hx hb md_H_change_85 rfl (lv_at hl 4 rfl) ?_
          refine lv_iload hx hb md_H_change_86 (lv_at hl 1 rfl) ?_
          refine va_iast hx hb hK hP hD hS 2 1 rfl rfl hk md_H_change_88 (fun H locs hP hD hS => ?_)
          have hP : va_P (dC, dI) mC [(oA, .inr (1, [.ref oX, .ref oY, .ref oR])), (oX, .inl (cI, 16, .inl (upd ox (Int32.toNatClampNeg k) (Int64.toInt32 x0)))), (oY, .inl (cI, 16, .inl (upd oy (Int32.toNatClampNeg k) 0))), (oR, .inl (cI, 16, .inl oq))] H := hP
          have hD : va_D A [(oA, .inr (1, [.ref oX, .ref oY, .ref oR])), (oX, .inl (cI, 16, .inl (upd ox (Int32.toNatClampNeg k) (Int64.toInt32 x0)))), (oY, .inl (cI, 16, .inl (upd oy (Int32.toNatClampNeg k) 0))), (oR, .inl (cI, 16, .inl oq))] := hD
          refine lv_aload_n hx hb md_H_change_89 rfl (lv_at hl 3 rfl) ?_
          refine va_get (D := (dC, dI)) (ci := 1) (v := .ref oR) (C := mR_H) (T := mT_H) (N := 3) hx hb hg gu_H hown hK hP 0 rfl rfl 2 (by decide) (hg _ wd_68) (fun _ h9 => h9) rfl md_H_change_90 ?_
          refine lv_iload_n hx hb md_H_change_93 rfl (lv_at hl 4 rfl) ?_
          refine lv_lload hx hb md_H_change_94 (lv_at hl 7 rfl) ?_
          refine lv_l2i (v := Int64.toInt32 r0) hx hb md_H_change_96 rfl ?_
          refine va_iast hx hb hK hP hD hS 3 1 rfl rfl hk md_H_change_97 (fun H locs hP hD hS => ?_)
          have hP : va_P (dC, dI) mC [(oA, .inr (1, [.ref oX, .ref oY, .ref oR])), (oX, .inl (cI, 16, .inl (upd ox (Int32.toNatClampNeg k) (Int64.toInt32 x0)))), (oY, .inl (cI, 16, .inl (upd oy (Int32.toNatClampNeg k) 0))), (oR, .inl (cI, 16, .inl (upd oq (Int32.toNatClampNeg k) (Int64.toInt32 r0))))] H := hP
          have hD : va_D A [(oA, .inr (1, [.ref oX, .ref oY, .ref oR])), (oX, .inl (cI, 16, .inl (upd ox (Int32.toNatClampNeg k) (Int64.toInt32 x0)))), (oY, .inl (cI, 16, .inl (upd oy (Int32.toNatClampNeg k) 0))), (oR, .inl (cI, 16, .inl (upd oq (Int32.toNatClampNeg k) (Int64.toInt32 r0))))] := hD
          refine lv_iload hx hb md_H_change_98 (lv_at hl 0 rfl) ?_
          exact W.zret (v := 1) hx hb hr rfl (fun t ht hW => ⟨⟨1, (upd ox (Int32.toNatClampNeg k) (Int64.toInt32 x0), upd oy (Int32.toNatClampNeg k) 0, upd oq (Int32.toNatClampNeg k) (Int64.toInt32 r0)), rfl, (by rw [fH_change, if_neg c1, if_pos c2, if_pos c6, if_neg c7]), by have h9 := hP; rw [← ht] at h9; exact h9⟩, hS.F ht⟩) hS.2.2 md_H_change_100 hlocks
        · refine lv_aload_n hx hb md_H_change_53 rfl (lv_at hl 2 rfl) ?_
          refine va_get (D := (dC, dI)) (ci := 1) (v := .ref oR) (C := mR_H) (T := mT_H) (N := 3) hx hb hg gu_H hown hK hP 0 rfl rfl 2 (by decide) (hg _ wd_68) (fun _ h9 => h9) rfl md_H_change_54 ?_
          refine lv_iload_n hx hb md_H_change_57 rfl (lv_at hl 3 rfl) ?_
          refine va_iald hx hb hK hP 3 1 rfl rfl hk md_H_change_58 ?_
          refine lv_i2l (v := Int32.toInt64 (oq (Int32.toNatClampNeg k))) hx hb md_H_change_59 rfl ?_
          refine lv_lload hx hb md_H_change_60 (lv_at hl 6 rfl) ?_
          refine lx_eq (tgt := 70) hx hb md_H_change_62 md_H_change_63 (by decide) (fun c8 => ?_) (fun c8 => ?_)
          · refine lv_iconst (v := 0) hx hb md_H_change_70 (by decide) ?_
            refine lv_istore (lv' := [(10, .int 0), (9, .int 0), (8, .int (Int64.toInt32 x0)), (0, .ref oA), (1, .int k), (2, .long x0), (4, .long y0), (6, .long r0)]) hx hb md_H_change_71 hl (by decide) rfl (fun ls hl => ?_)
            refine lv_aload_n hx hb md_H_change_73 rfl (lv_at hl 3 rfl) ?_
            refine va_get (D := (dC, dI)) (ci := 1) (v := .ref oX) (C := mR_H) (T := mT_H) (N := 3) hx hb hg gu_H hown hK hP 0 rfl rfl 0 (by decide) (hg _ wd_66) (fun _ h9 => h9) rfl md_H_change_74 ?_
            refine lv_iload_n hx hb md_H_change_77 rfl (lv_at hl 4 rfl) ?_
            refine lv_iload hx hb md_H_change_78 (lv_at hl 2 rfl) ?_
            refine va_iast hx hb hK hP hD hS 1 1 rfl rfl hk md_H_change_80 (fun H locs hP hD hS => ?_)
            have hP : va_P (dC, dI) mC [(oA, .inr (1, [.ref oX, .ref oY, .ref oR])), (oX, .inl (cI, 16, .inl (upd ox (Int32.toNatClampNeg k) (Int64.toInt32 x0)))), (oY, .inl (cI, 16, .inl oy)), (oR, .inl (cI, 16, .inl oq))] H := hP
            have hD : va_D A [(oA, .inr (1, [.ref oX, .ref oY, .ref oR])), (oX, .inl (cI, 16, .inl (upd ox (Int32.toNatClampNeg k) (Int64.toInt32 x0)))), (oY, .inl (cI, 16, .inl oy)), (oR, .inl (cI, 16, .inl oq))] := hD
            refine lv_aload_n hx hb md_H_change_81 rfl (lv_at hl 3 rfl) ?_
            refine va_get (D := (dC, dI)) (ci := 1) (v := .ref oY) (C := mR_H) (T := mT_H) (N := 3) hx hb hg gu_H hown hK hP 0 rfl rfl 1 (by decide) (hg _ wd_67) (fun _ h9 => h9) rfl md_H_change_82 ?_
            refine lv_iload_n hx hb md_H_change_85 rfl (lv_at hl 4 rfl) ?_
            refine lv_iload hx hb md_H_change_86 (lv_at hl 1 rfl) ?_
            refine va_iast hx hb hK hP hD hS 2 1 rfl rfl hk md_H_change_88 (fun H locs hP hD hS => ?_)
            have hP : va_P (dC, dI) mC [(oA, .inr (1, [.ref oX, .ref oY, .ref oR])), (oX, .inl (cI, 16, .inl (upd ox (Int32.toNatClampNeg k) (Int64.toInt32 x0)))), (oY, .inl (cI, 16, .inl (upd oy (Int32.toNatClampNeg k) 0))), (oR, .inl (cI, 16, .inl oq))] H := hP
            have hD : va_D A [(oA, .inr (1, [.ref oX, .ref oY, .ref oR])), (oX, .inl (cI, 16, .inl (upd ox (Int32.toNatClampNeg k) (Int64.toInt32 x0)))), (oY, .inl (cI, 16, .inl (upd oy (Int32.toNatClampNeg k) 0))), (oR, .inl (cI, 16, .inl oq))] := hD
            refine lv_aload_n hx hb md_H_change_89 rfl (lv_at hl 3 rfl) ?_
            refine va_get (D := (dC, dI)) (ci := 1) (v := .ref oR) (C := mR_H) (T := mT_H) (N := 3) hx hb hg gu_H hown hK hP 0 rfl rfl 2 (by decide) (hg _ wd_68) (fun _ h9 => h9) rfl md_H_change_90 ?_
            refine lv_iload_n hx hb md_H_change_93 rfl (lv_at hl 4 rfl) ?_
            refine lv_lload hx hb md_H_change_94 (lv_at hl 7 rfl) ?_
            refine lv_l2i (v := Int64.toInt32 r0) hx hb md_H_change_96 rfl ?_
            refine va_iast hx hb hK hP hD hS 3 1 rfl rfl hk md_H_change_97 (fun H locs hP hD hS => ?_)
            have hP : va_P (dC, dI) mC [(oA, .inr (1, [.ref oX, .ref oY, .ref oR])), (oX, .inl (cI, 16, .inl (upd ox (Int32.toNatClampNeg k) (Int64.toInt32 x0)))), (oY, .inl (cI, 16, .inl (upd oy (Int32.toNatClampNeg k) 0))), (oR, .inl (cI, 16, .inl (upd oq (Int32.toNatClampNeg k) (Int64.toInt32 r0))))] H := hP
            have hD : va_D A [(oA, .inr (1, [.ref oX, .ref oY, .ref oR])), (oX, .inl (cI, 16, .inl (upd ox (Int32.toNatClampNeg k) (Int64.toInt32 x0)))), (oY, .inl (cI, 16, .inl (upd oy (Int32.toNatClampNeg k) 0))), (oR, .inl (cI, 16, .inl (upd oq (Int32.toNatClampNeg k) (Int64.toInt32 r0))))] := hD
            refine lv_iload hx hb md_H_change_98 (lv_at hl 0 rfl) ?_
            exact W.zret (v := 0) hx hb hr rfl (fun t ht hW => ⟨⟨0, (upd ox (Int32.toNatClampNeg k) (Int64.toInt32 x0), upd oy (Int32.toNatClampNeg k) 0, upd oq (Int32.toNatClampNeg k) (Int64.toInt32 r0)), rfl, (by rw [fH_change, if_neg c1, if_pos c2, if_pos c6, if_pos c7, if_pos c8]), by have h9 := hP; rw [← ht] at h9; exact h9⟩, hS.F ht⟩) hS.2.2 md_H_change_100 hlocks
          · refine lv_iconst (v := 1) hx hb md_H_change_66 (by decide) ?_
            refine lv_goto (tgt := 71) hx hb md_H_change_67 (by decide) ?_
            refine lv_istore (lv' := [(10, .int 1), (9, .int 0), (8, .int (Int64.toInt32 x0)), (0, .ref oA), (1, .int k), (2, .long x0), (4, .long y0), (6, .long r0)]) hx hb md_H_change_71 hl (by decide) rfl (fun ls hl => ?_)
            refine lv_aload_n hx hb md_H_change_73 rfl (lv_at hl 3 rfl) ?_
            refine va_get (D := (dC, dI)) (ci := 1) (v := .ref oX) (C := mR_H) (T := mT_H) (N := 3) hx hb hg gu_H hown hK hP 0 rfl rfl 0 (by decide) (hg _ wd_66) (fun _ h9 => h9) rfl md_H_change_74 ?_
            refine lv_iload_n hx hb md_H_change_77 rfl (lv_at hl 4 rfl) ?_
            refine lv_iload hx hb md_H_change_78 (lv_at hl 2 rfl) ?_
            refine va_iast hx hb hK hP hD hS 1 1 rfl rfl hk md_H_change_80 (fun H locs hP hD hS => ?_)
            have hP : va_P (dC, dI) mC [(oA, .inr (1, [.ref oX, .ref oY, .ref oR])), (oX, .inl (cI, 16, .inl (upd ox (Int32.toNatClampNeg k) (Int64.toInt32 x0)))), (oY, .inl (cI, 16, .inl oy)), (oR, .inl (cI, 16, .inl oq))] H := hP
            have hD : va_D A [(oA, .inr (1, [.ref oX, .ref oY, .ref oR])), (oX, .inl (cI, 16, .inl (upd ox (Int32.toNatClampNeg k) (Int64.toInt32 x0)))), (oY, .inl (cI, 16, .inl oy)), (oR, .inl (cI, 16, .inl oq))] := hD
            refine lv_aload_n hx hb md_H_change_81 rfl (lv_at hl 3 rfl) ?_
            refine va_get (D := (dC, dI)) (ci := 1) (v := .ref oY) (C := mR_H) (T := mT_H) (N := 3) hx hb hg gu_H hown hK hP 0 rfl rfl 1 (by decide) (hg _ wd_67) (fun _ h9 => h9) rfl md_H_change_82 ?_
            refine lv_iload_n hx hb md_H_change_85 rfl (lv_at hl 4 rfl) ?_
            refine lv_iload hx hb md_H_change_86 (lv_at hl 1 rfl) ?_
            refine va_iast hx hb hK hP hD hS 2 1 rfl rfl hk md_H_change_88 (fun H locs hP hD hS => ?_)
            have hP : va_P (dC, dI) mC [(oA, .inr (1, [.ref oX, .ref oY, .ref oR])), (oX, .inl (cI, 16, .inl (upd ox (Int32.toNatClampNeg k) (Int64.toInt32 x0)))), (oY, .inl (cI, 16, .inl (upd oy (Int32.toNatClampNeg k) 0))), (oR, .inl (cI, 16, .inl oq))] H := hP
            have hD : va_D A [(oA, .inr (1, [.ref oX, .ref oY, .ref oR])), (oX, .inl (cI, 16, .inl (upd ox (Int32.toNatClampNeg k) (Int64.toInt32 x0)))), (oY, .inl (cI, 16, .inl (upd oy (Int32.toNatClampNeg k) 0))), (oR, .inl (cI, 16, .inl oq))] := hD
            refine lv_aload_n hx hb md_H_change_89 rfl (lv_at hl 3 rfl) ?_
            refine va_get (D := (dC, dI)) (ci := 1) (v := .ref oR) (C := mR_H) (T := mT_H) (N := 3) hx hb hg gu_H hown hK hP 0 rfl rfl 2 (by decide) (hg _ wd_68) (fun _ h9 => h9) rfl md_H_change_90 ?_
            refine lv_iload_n hx hb md_H_change_93 rfl (lv_at hl 4 rfl) ?_
            refine lv_lload hx hb md_H_change_94 (lv_at hl 7 rfl) ?_
            refine lv_l2i (v := Int64.toInt32 r0) hx hb md_H_change_96 rfl ?_
            refine va_iast hx hb hK hP hD hS 3 1 rfl rfl hk md_H_change_97 (fun H locs hP hD hS => ?_)
            have hP : va_P (dC, dI) mC [(oA, .inr (1, [.ref oX, .ref oY, .ref oR])), (oX, .inl (cI, 16, .inl (upd ox (Int32.toNatClampNeg k) (Int64.toInt32 x0)))), (oY, .inl (cI, 16, .inl (upd oy (Int32.toNatClampNeg k) 0))), (oR, .inl (cI, 16, .inl (upd oq (Int32.toNatClampNeg k) (Int64.toInt32 r0))))] H := hP
            have hD : va_D A [(oA, .inr (1, [.ref oX, .ref oY, .ref oR])), (oX, .inl (cI, 16, .inl (upd ox (Int32.toNatClampNeg k) (Int64.toInt32 x0)))), (oY, .inl (cI, 16, .inl (upd oy (Int32.toNatClampNeg k) 0))), (oR, .inl (cI, 16, .inl (upd oq (Int32.toNatClampNeg k) (Int64.toInt32 r0))))] := hD
            refine lv_iload hx hb md_H_change_98 (lv_at hl 0 rfl) ?_
            exact W.zret (v := 1) hx hb hr rfl (fun t ht hW => ⟨⟨1, (upd ox (Int32.toNatClampNeg k) (Int64.toInt32 x0), upd oy (Int32.toNatClampNeg k) 0, upd oq (Int32.toNatClampNeg k) (Int64.toInt32 r0)), rfl, (by rw [fH_change, if_neg c1, if_pos c2, if_pos c6, if_pos c7, if_neg c8]), by have h9 := hP; rw [← ht] at h9; exact h9⟩, hS.F ht⟩) hS.2.2 md_H_change_100 hlocks
  · refine lv_iconst (v := 0) hx hb md_H_change_7 (by decide) ?_
    refine lv_goto (tgt := 13) hx hb md_H_change_8 (by decide) ?_
    refine lv_istore (lv' := [(8, .int 0), (0, .ref oA), (1, .int k), (2, .long x0), (4, .long y0), (6, .long r0)]) hx hb md_H_change_13 hl (by decide) rfl (fun ls hl => ?_)
    refine lv_lload hx hb md_H_change_15 (lv_at hl 5 rfl) ?_
    refine lv_lconst (v := 0) hx hb md_H_change_17 (by decide) ?_
    refine lx_ne (tgt := 26) hx hb md_H_change_18 md_H_change_19 (by decide) (fun c9 => ?_) (fun c9 => ?_)
    · refine lv_lload hx hb md_H_change_26 (lv_at hl 4 rfl) ?_
      refine lv_l2i (v := Int64.toInt32 y0) hx hb md_H_change_28 rfl ?_
      refine lv_istore (lv' := [(9, .int (Int64.toInt32 y0)), (8, .int 0), (0, .ref oA), (1, .int k), (2, .long x0), (4, .long y0), (6, .long r0)]) hx hb md_H_change_29 hl (by decide) rfl (fun ls hl => ?_)
      refine lv_aload_n hx hb md_H_change_31 rfl (lv_at hl 2 rfl) ?_
      refine va_get (D := (dC, dI)) (ci := 1) (v := .ref oX) (C := mR_H) (T := mT_H) (N := 3) hx hb hg gu_H hown hK hP 0 rfl rfl 0 (by decide) (hg _ wd_66) (fun _ h9 => h9) rfl md_H_change_32 ?_
      refine lv_iload_n hx hb md_H_change_35 rfl (lv_at hl 3 rfl) ?_
      refine va_iald hx hb hK hP 1 1 rfl rfl hk md_H_change_36 ?_
      refine lv_iload hx hb md_H_change_37 (lv_at hl 1 rfl) ?_
      refine lv_icmp_ne (tgt := 66) hx hb md_H_change_39 (by decide) (fun c10 => ?_) (fun c10 => ?_)
      · refine lv_iconst (v := 1) hx hb md_H_change_66 (by decide) ?_
        refine lv_goto (tgt := 71) hx hb md_H_change_67 (by decide) ?_
        refine lv_istore (lv' := [(10, .int 1), (9, .int (Int64.toInt32 y0)), (8, .int 0), (0, .ref oA), (1, .int k), (2, .long x0), (4, .long y0), (6, .long r0)]) hx hb md_H_change_71 hl (by decide) rfl (fun ls hl => ?_)
        refine lv_aload_n hx hb md_H_change_73 rfl (lv_at hl 3 rfl) ?_
        refine va_get (D := (dC, dI)) (ci := 1) (v := .ref oX) (C := mR_H) (T := mT_H) (N := 3) hx hb hg gu_H hown hK hP 0 rfl rfl 0 (by decide) (hg _ wd_66) (fun _ h9 => h9) rfl md_H_change_74 ?_
        refine lv_iload_n hx hb md_H_change_77 rfl (lv_at hl 4 rfl) ?_
        refine lv_iload hx hb md_H_change_78 (lv_at hl 2 rfl) ?_
        refine va_iast hx hb hK hP hD hS 1 1 rfl rfl hk md_H_change_80 (fun H locs hP hD hS => ?_)
        have hP : va_P (dC, dI) mC [(oA, .inr (1, [.ref oX, .ref oY, .ref oR])), (oX, .inl (cI, 16, .inl (upd ox (Int32.toNatClampNeg k) 0))), (oY, .inl (cI, 16, .inl oy)), (oR, .inl (cI, 16, .inl oq))] H := hP
        have hD : va_D A [(oA, .inr (1, [.ref oX, .ref oY, .ref oR])), (oX, .inl (cI, 16, .inl (upd ox (Int32.toNatClampNeg k) 0))), (oY, .inl (cI, 16, .inl oy)), (oR, .inl (cI, 16, .inl oq))] := hD
        refine lv_aload_n hx hb md_H_change_81 rfl (lv_at hl 3 rfl) ?_
        refine va_get (D := (dC, dI)) (ci := 1) (v := .ref oY) (C := mR_H) (T := mT_H) (N := 3) hx hb hg gu_H hown hK hP 0 rfl rfl 1 (by decide) (hg _ wd_67) (fun _ h9 => h9) rfl md_H_change_82 ?_
        refine lv_iload_n hx hb md_H_change_85 rfl (lv_at hl 4 rfl) ?_
        refine lv_iload hx hb md_H_change_86 (lv_at hl 1 rfl) ?_
        refine va_iast hx hb hK hP hD hS 2 1 rfl rfl hk md_H_change_88 (fun H locs hP hD hS => ?_)
        have hP : va_P (dC, dI) mC [(oA, .inr (1, [.ref oX, .ref oY, .ref oR])), (oX, .inl (cI, 16, .inl (upd ox (Int32.toNatClampNeg k) 0))), (oY, .inl (cI, 16, .inl (upd oy (Int32.toNatClampNeg k) (Int64.toInt32 y0)))), (oR, .inl (cI, 16, .inl oq))] H := hP
        have hD : va_D A [(oA, .inr (1, [.ref oX, .ref oY, .ref oR])), (oX, .inl (cI, 16, .inl (upd ox (Int32.toNatClampNeg k) 0))), (oY, .inl (cI, 16, .inl (upd oy (Int32.toNatClampNeg k) (Int64.toInt32 y0)))), (oR, .inl (cI, 16, .inl oq))] := hD
        refine lv_aload_n hx hb md_H_change_89 rfl (lv_at hl 3 rfl) ?_
        refine va_get (D := (dC, dI)) (ci := 1) (v := .ref oR) (C := mR_H) (T := mT_H) (N := 3) hx hb hg gu_H hown hK hP 0 rfl rfl 2 (by decide) (hg _ wd_68) (fun _ h9 => h9) rfl md_H_change_90 ?_
        refine lv_iload_n hx hb md_H_change_93 rfl (lv_at hl 4 rfl) ?_
        refine lv_lload hx hb md_H_change_94 (lv_at hl 7 rfl) ?_
        refine lv_l2i (v := Int64.toInt32 r0) hx hb md_H_change_96 rfl ?_
        refine va_iast hx hb hK hP hD hS 3 1 rfl rfl hk md_H_change_97 (fun H locs hP hD hS => ?_)
        have hP : va_P (dC, dI) mC [(oA, .inr (1, [.ref oX, .ref oY, .ref oR])), (oX, .inl (cI, 16, .inl (upd ox (Int32.toNatClampNeg k) 0))), (oY, .inl (cI, 16, .inl (upd oy (Int32.toNatClampNeg k) (Int64.toInt32 y0)))), (oR, .inl (cI, 16, .inl (upd oq (Int32.toNatClampNeg k) (Int64.toInt32 r0))))] H := hP
        have hD : va_D A [(oA, .inr (1, [.ref oX, .ref oY, .ref oR])), (oX, .inl (cI, 16, .inl (upd ox (Int32.toNatClampNeg k) 0))), (oY, .inl (cI, 16, .inl (upd oy (Int32.toNatClampNeg k) (Int64.toInt32 y0)))), (oR, .inl (cI, 16, .inl (upd oq (Int32.toNatClampNeg k) (Int64.toInt32 r0))))] := hD
        refine lv_iload hx hb md_H_change_98 (lv_at hl 0 rfl) ?_
        exact W.zret (v := 1) hx hb hr rfl (fun t ht hW => ⟨⟨1, (upd ox (Int32.toNatClampNeg k) 0, upd oy (Int32.toNatClampNeg k) (Int64.toInt32 y0), upd oq (Int32.toNatClampNeg k) (Int64.toInt32 r0)), rfl, (by rw [fH_change, if_pos c1, if_neg c9, if_neg c10]), by have h9 := hP; rw [← ht] at h9; exact h9⟩, hS.F ht⟩) hS.2.2 md_H_change_100 hlocks
      · refine lv_aload_n hx hb md_H_change_42 rfl (lv_at hl 2 rfl) ?_
        refine va_get (D := (dC, dI)) (ci := 1) (v := .ref oY) (C := mR_H) (T := mT_H) (N := 3) hx hb hg gu_H hown hK hP 0 rfl rfl 1 (by decide) (hg _ wd_67) (fun _ h9 => h9) rfl md_H_change_43 ?_
        refine lv_iload_n hx hb md_H_change_46 rfl (lv_at hl 3 rfl) ?_
        refine va_iald hx hb hK hP 2 1 rfl rfl hk md_H_change_47 ?_
        refine lv_iload hx hb md_H_change_48 (lv_at hl 0 rfl) ?_
        refine lv_icmp_ne (tgt := 66) hx hb md_H_change_50 (by decide) (fun c11 => ?_) (fun c11 => ?_)
        · refine lv_iconst (v := 1) hx hb md_H_change_66 (by decide) ?_
          refine lv_goto (tgt := 71) hx hb md_H_change_67 (by decide) ?_
          refine lv_istore (lv' := [(10, .int 1), (9, .int (Int64.toInt32 y0)), (8, .int 0), (0, .ref oA), (1, .int k), (2, .long x0), (4, .long y0), (6, .long r0)]) hx hb md_H_change_71 hl (by decide) rfl (fun ls hl => ?_)
          refine lv_aload_n hx hb md_H_change_73 rfl (lv_at hl 3 rfl) ?_
          refine va_get (D := (dC, dI)) (ci := 1) (v := .ref oX) (C := mR_H) (T := mT_H) (N := 3) hx hb hg gu_H hown hK hP 0 rfl rfl 0 (by decide) (hg _ wd_66) (fun _ h9 => h9) rfl md_H_change_74 ?_
          refine lv_iload_n hx hb md_H_change_77 rfl (lv_at hl 4 rfl) ?_
          refine lv_iload hx hb md_H_change_78 (lv_at hl 2 rfl) ?_
          refine va_iast hx hb hK hP hD hS 1 1 rfl rfl hk md_H_change_80 (fun H locs hP hD hS => ?_)
          have hP : va_P (dC, dI) mC [(oA, .inr (1, [.ref oX, .ref oY, .ref oR])), (oX, .inl (cI, 16, .inl (upd ox (Int32.toNatClampNeg k) 0))), (oY, .inl (cI, 16, .inl oy)), (oR, .inl (cI, 16, .inl oq))] H := hP
          have hD : va_D A [(oA, .inr (1, [.ref oX, .ref oY, .ref oR])), (oX, .inl (cI, 16, .inl (upd ox (Int32.toNatClampNeg k) 0))), (oY, .inl (cI, 16, .inl oy)), (oR, .inl (cI, 16, .inl oq))] := hD
          refine lv_aload_n hx hb md_H_change_81 rfl (lv_at hl 3 rfl) ?_
          refine va_get (D := (dC, dI)) (ci := 1) (v := .ref oY) (C := mR_H) (T := mT_H) (N := 3) hx hb hg gu_H hown hK hP 0 rfl rfl 1 (by decide) (hg _ wd_67) (fun _ h9 => h9) rfl md_H_change_82 ?_
          refine lv_iload_n hx hb md_H_change_85 rfl (lv_at hl 4 rfl) ?_
          refine lv_iload hx hb md_H_change_86 (lv_at hl 1 rfl) ?_
          refine va_iast hx hb hK hP hD hS 2 1 rfl rfl hk md_H_change_88 (fun H locs hP hD hS => ?_)
          have hP : va_P (dC, dI) mC [(oA, .inr (1, [.ref oX, .ref oY, .ref oR])), (oX, .inl (cI, 16, .inl (upd ox (Int32.toNatClampNeg k) 0))), (oY, .inl (cI, 16, .inl (upd oy (Int32.toNatClampNeg k) (Int64.toInt32 y0)))), (oR, .inl (cI, 16, .inl oq))] H := hP
          have hD : va_D A [(oA, .inr (1, [.ref oX, .ref oY, .ref oR])), (oX, .inl (cI, 16, .inl (upd ox (Int32.toNatClampNeg k) 0))), (oY, .inl (cI, 16, .inl (upd oy (Int32.toNatClampNeg k) (Int64.toInt32 y0)))), (oR, .inl (cI, 16, .inl oq))] := hD
          refine lv_aload_n hx hb md_H_change_89 rfl (lv_at hl 3 rfl) ?_
          refine va_get (D := (dC, dI)) (ci := 1) (v := .ref oR) (C := mR_H) (T := mT_H) (N := 3) hx hb hg gu_H hown hK hP 0 rfl rfl 2 (by decide) (hg _ wd_68) (fun _ h9 => h9) rfl md_H_change_90 ?_
          refine lv_iload_n hx hb md_H_change_93 rfl (lv_at hl 4 rfl) ?_
          refine lv_lload hx hb md_H_change_94 (lv_at hl 7 rfl) ?_
          refine lv_l2i (v := Int64.toInt32 r0) hx hb md_H_change_96 rfl ?_
          refine va_iast hx hb hK hP hD hS 3 1 rfl rfl hk md_H_change_97 (fun H locs hP hD hS => ?_)
          have hP : va_P (dC, dI) mC [(oA, .inr (1, [.ref oX, .ref oY, .ref oR])), (oX, .inl (cI, 16, .inl (upd ox (Int32.toNatClampNeg k) 0))), (oY, .inl (cI, 16, .inl (upd oy (Int32.toNatClampNeg k) (Int64.toInt32 y0)))), (oR, .inl (cI, 16, .inl (upd oq (Int32.toNatClampNeg k) (Int64.toInt32 r0))))] H := hP
          have hD : va_D A [(oA, .inr (1, [.ref oX, .ref oY, .ref oR])), (oX, .inl (cI, 16, .inl (upd ox (Int32.toNatClampNeg k) 0))), (oY, .inl (cI, 16, .inl (upd oy (Int32.toNatClampNeg k) (Int64.toInt32 y0)))), (oR, .inl (cI, 16, .inl (upd oq (Int32.toNatClampNeg k) (Int64.toInt32 r0))))] := hD
          refine lv_iload hx hb md_H_change_98 (lv_at hl 0 rfl) ?_
          exact W.zret (v := 1) hx hb hr rfl (fun t ht hW => ⟨⟨1, (upd ox (Int32.toNatClampNeg k) 0, upd oy (Int32.toNatClampNeg k) (Int64.toInt32 y0), upd oq (Int32.toNatClampNeg k) (Int64.toInt32 r0)), rfl, (by rw [fH_change, if_pos c1, if_neg c9, if_pos c10, if_neg c11]), by have h9 := hP; rw [← ht] at h9; exact h9⟩, hS.F ht⟩) hS.2.2 md_H_change_100 hlocks
        · refine lv_aload_n hx hb md_H_change_53 rfl (lv_at hl 2 rfl) ?_
          refine va_get (D := (dC, dI)) (ci := 1) (v := .ref oR) (C := mR_H) (T := mT_H) (N := 3) hx hb hg gu_H hown hK hP 0 rfl rfl 2 (by decide) (hg _ wd_68) (fun _ h9 => h9) rfl md_H_change_54 ?_
          refine lv_iload_n hx hb md_H_change_57 rfl (lv_at hl 3 rfl) ?_
          refine va_iald hx hb hK hP 3 1 rfl rfl hk md_H_change_58 ?_
          refine lv_i2l (v := Int32.toInt64 (oq (Int32.toNatClampNeg k))) hx hb md_H_change_59 rfl ?_
          refine lv_lload hx hb md_H_change_60 (lv_at hl 6 rfl) ?_
          refine lx_eq (tgt := 70) hx hb md_H_change_62 md_H_change_63 (by decide) (fun c12 => ?_) (fun c12 => ?_)
          · refine lv_iconst (v := 0) hx hb md_H_change_70 (by decide) ?_
            refine lv_istore (lv' := [(10, .int 0), (9, .int (Int64.toInt32 y0)), (8, .int 0), (0, .ref oA), (1, .int k), (2, .long x0), (4, .long y0), (6, .long r0)]) hx hb md_H_change_71 hl (by decide) rfl (fun ls hl => ?_)
            refine lv_aload_n hx hb md_H_change_73 rfl (lv_at hl 3 rfl) ?_
            refine va_get (D := (dC, dI)) (ci := 1) (v := .ref oX) (C := mR_H) (T := mT_H) (N := 3) hx hb hg gu_H hown hK hP 0 rfl rfl 0 (by decide) (hg _ wd_66) (fun _ h9 => h9) rfl md_H_change_74 ?_
            refine lv_iload_n hx hb md_H_change_77 rfl (lv_at hl 4 rfl) ?_
            refine lv_iload hx hb md_H_change_78 (lv_at hl 2 rfl) ?_
            refine va_iast hx hb hK hP hD hS 1 1 rfl rfl hk md_H_change_80 (fun H locs hP hD hS => ?_)
            have hP : va_P (dC, dI) mC [(oA, .inr (1, [.ref oX, .ref oY, .ref oR])), (oX, .inl (cI, 16, .inl (upd ox (Int32.toNatClampNeg k) 0))), (oY, .inl (cI, 16, .inl oy)), (oR, .inl (cI, 16, .inl oq))] H := hP
            have hD : va_D A [(oA, .inr (1, [.ref oX, .ref oY, .ref oR])), (oX, .inl (cI, 16, .inl (upd ox (Int32.toNatClampNeg k) 0))), (oY, .inl (cI, 16, .inl oy)), (oR, .inl (cI, 16, .inl oq))] := hD
            refine lv_aload_n hx hb md_H_change_81 rfl (lv_at hl 3 rfl) ?_
            refine va_get (D := (dC, dI)) (ci := 1) (v := .ref oY) (C := mR_H) (T := mT_H) (N := 3) hx hb hg gu_H hown hK hP 0 rfl rfl 1 (by decide) (hg _ wd_67) (fun _ h9 => h9) rfl md_H_change_82 ?_
            refine lv_iload_n hx hb md_H_change_85 rfl (lv_at hl 4 rfl) ?_
            refine lv_iload hx hb md_H_change_86 (lv_at hl 1 rfl) ?_
            refine va_iast hx hb hK hP hD hS 2 1 rfl rfl hk md_H_change_88 (fun H locs hP hD hS => ?_)
            have hP : va_P (dC, dI) mC [(oA, .inr (1, [.ref oX, .ref oY, .ref oR])), (oX, .inl (cI, 16, .inl (upd ox (Int32.toNatClampNeg k) 0))), (oY, .inl (cI, 16, .inl (upd oy (Int32.toNatClampNeg k) (Int64.toInt32 y0)))), (oR, .inl (cI, 16, .inl oq))] H := hP
            have hD : va_D A [(oA, .inr (1, [.ref oX, .ref oY, .ref oR])), (oX, .inl (cI, 16, .inl (upd ox (Int32.toNatClampNeg k) 0))), (oY, .inl (cI, 16, .inl (upd oy (Int32.toNatClampNeg k) (Int64.toInt32 y0)))), (oR, .inl (cI, 16, .inl oq))] := hD
            refine lv_aload_n hx hb md_H_change_89 rfl (lv_at hl 3 rfl) ?_
            refine va_get (D := (dC, dI)) (ci := 1) (v := .ref oR) (C := mR_H) (T := mT_H) (N := 3) hx hb hg gu_H hown hK hP 0 rfl rfl 2 (by decide) (hg _ wd_68) (fun _ h9 => h9) rfl md_H_change_90 ?_
            refine lv_iload_n hx hb md_H_change_93 rfl (lv_at hl 4 rfl) ?_
            refine lv_lload hx hb md_H_change_94 (lv_at hl 7 rfl) ?_
            refine lv_l2i (v := Int64.toInt32 r0) hx hb md_H_change_96 rfl ?_
            refine va_iast hx hb hK hP hD hS 3 1 rfl rfl hk md_H_change_97 (fun H locs hP hD hS => ?_)
            have hP : va_P (dC, dI) mC [(oA, .inr (1, [.ref oX, .ref oY, .ref oR])), (oX, .inl (cI, 16, .inl (upd ox (Int32.toNatClampNeg k) 0))), (oY, .inl (cI, 16, .inl (upd oy (Int32.toNatClampNeg k) (Int64.toInt32 y0)))), (oR, .inl (cI, 16, .inl (upd oq (Int32.toNatClampNeg k) (Int64.toInt32 r0))))] H := hP
            have hD : va_D A [(oA, .inr (1, [.ref oX, .ref oY, .ref oR])), (oX, .inl (cI, 16, .inl (upd ox (Int32.toNatClampNeg k) 0))), (oY, .inl (cI, 16, .inl (upd oy (Int32.toNatClampNeg k) (Int64.toInt32 y0)))), (oR, .inl (cI, 16, .inl (upd oq (Int32.toNatClampNeg k) (Int64.toInt32 r0))))] := hD
            refine lv_iload hx hb md_H_change_98 (lv_at hl 0 rfl) ?_
            exact W.zret (v := 0) hx hb hr rfl (fun t ht hW => ⟨⟨0, (upd ox (Int32.toNatClampNeg k) 0, upd oy (Int32.toNatClampNeg k) (Int64.toInt32 y0), upd oq (Int32.toNatClampNeg k) (Int64.toInt32 r0)), rfl, (by rw [fH_change, if_pos c1, if_neg c9, if_pos c10, if_pos c11, if_pos c12]), by have h9 := hP; rw [← ht] at h9; exact h9⟩, hS.F ht⟩) hS.2.2 md_H_change_100 hlocks
          · refine lv_iconst (v := 1) hx hb md_H_change_66 (by decide) ?_
            refine lv_goto (tgt := 71) hx hb md_H_change_67 (by decide) ?_
            refine lv_istore (lv' := [(10, .int 1), (9, .int (Int64.toInt32 y0)), (8, .int 0), (0, .ref oA), (1, .int k), (2, .long x0), (4, .long y0), (6, .long r0)]) hx hb md_H_change_71 hl (by decide) rfl (fun ls hl => ?_)
            refine lv_aload_n hx hb md_H_change_73 rfl (lv_at hl 3 rfl) ?_
            refine va_get (D := (dC, dI)) (ci := 1) (v := .ref oX) (C := mR_H) (T := mT_H) (N := 3) hx hb hg gu_H hown hK hP 0 rfl rfl 0 (by decide) (hg _ wd_66) (fun _ h9 => h9) rfl md_H_change_74 ?_
            refine lv_iload_n hx hb md_H_change_77 rfl (lv_at hl 4 rfl) ?_
            refine lv_iload hx hb md_H_change_78 (lv_at hl 2 rfl) ?_
            refine va_iast hx hb hK hP hD hS 1 1 rfl rfl hk md_H_change_80 (fun H locs hP hD hS => ?_)
            have hP : va_P (dC, dI) mC [(oA, .inr (1, [.ref oX, .ref oY, .ref oR])), (oX, .inl (cI, 16, .inl (upd ox (Int32.toNatClampNeg k) 0))), (oY, .inl (cI, 16, .inl oy)), (oR, .inl (cI, 16, .inl oq))] H := hP
            have hD : va_D A [(oA, .inr (1, [.ref oX, .ref oY, .ref oR])), (oX, .inl (cI, 16, .inl (upd ox (Int32.toNatClampNeg k) 0))), (oY, .inl (cI, 16, .inl oy)), (oR, .inl (cI, 16, .inl oq))] := hD
            refine lv_aload_n hx hb md_H_change_81 rfl (lv_at hl 3 rfl) ?_
            refine va_get (D := (dC, dI)) (ci := 1) (v := .ref oY) (C := mR_H) (T := mT_H) (N := 3) hx hb hg gu_H hown hK hP 0 rfl rfl 1 (by decide) (hg _ wd_67) (fun _ h9 => h9) rfl md_H_change_82 ?_
            refine lv_iload_n hx hb md_H_change_85 rfl (lv_at hl 4 rfl) ?_
            refine lv_iload hx hb md_H_change_86 (lv_at hl 1 rfl) ?_
            refine va_iast hx hb hK hP hD hS 2 1 rfl rfl hk md_H_change_88 (fun H locs hP hD hS => ?_)
            have hP : va_P (dC, dI) mC [(oA, .inr (1, [.ref oX, .ref oY, .ref oR])), (oX, .inl (cI, 16, .inl (upd ox (Int32.toNatClampNeg k) 0))), (oY, .inl (cI, 16, .inl (upd oy (Int32.toNatClampNeg k) (Int64.toInt32 y0)))), (oR, .inl (cI, 16, .inl oq))] H := hP
            have hD : va_D A [(oA, .inr (1, [.ref oX, .ref oY, .ref oR])), (oX, .inl (cI, 16, .inl (upd ox (Int32.toNatClampNeg k) 0))), (oY, .inl (cI, 16, .inl (upd oy (Int32.toNatClampNeg k) (Int64.toInt32 y0)))), (oR, .inl (cI, 16, .inl oq))] := hD
            refine lv_aload_n hx hb md_H_change_89 rfl (lv_at hl 3 rfl) ?_
            refine va_get (D := (dC, dI)) (ci := 1) (v := .ref oR) (C := mR_H) (T := mT_H) (N := 3) hx hb hg gu_H hown hK hP 0 rfl rfl 2 (by decide) (hg _ wd_68) (fun _ h9 => h9) rfl md_H_change_90 ?_
            refine lv_iload_n hx hb md_H_change_93 rfl (lv_at hl 4 rfl) ?_
            refine lv_lload hx hb md_H_change_94 (lv_at hl 7 rfl) ?_
            refine lv_l2i (v := Int64.toInt32 r0) hx hb md_H_change_96 rfl ?_
            refine va_iast hx hb hK hP hD hS 3 1 rfl rfl hk md_H_change_97 (fun H locs hP hD hS => ?_)
            have hP : va_P (dC, dI) mC [(oA, .inr (1, [.ref oX, .ref oY, .ref oR])), (oX, .inl (cI, 16, .inl (upd ox (Int32.toNatClampNeg k) 0))), (oY, .inl (cI, 16, .inl (upd oy (Int32.toNatClampNeg k) (Int64.toInt32 y0)))), (oR, .inl (cI, 16, .inl (upd oq (Int32.toNatClampNeg k) (Int64.toInt32 r0))))] H := hP
            have hD : va_D A [(oA, .inr (1, [.ref oX, .ref oY, .ref oR])), (oX, .inl (cI, 16, .inl (upd ox (Int32.toNatClampNeg k) 0))), (oY, .inl (cI, 16, .inl (upd oy (Int32.toNatClampNeg k) (Int64.toInt32 y0)))), (oR, .inl (cI, 16, .inl (upd oq (Int32.toNatClampNeg k) (Int64.toInt32 r0))))] := hD
            refine lv_iload hx hb md_H_change_98 (lv_at hl 0 rfl) ?_
            exact W.zret (v := 1) hx hb hr rfl (fun t ht hW => ⟨⟨1, (upd ox (Int32.toNatClampNeg k) 0, upd oy (Int32.toNatClampNeg k) (Int64.toInt32 y0), upd oq (Int32.toNatClampNeg k) (Int64.toInt32 r0)), rfl, (by rw [fH_change, if_pos c1, if_neg c9, if_pos c10, if_pos c11, if_neg c12]), by have h9 := hP; rw [← ht] at h9; exact h9⟩, hS.F ht⟩) hS.2.2 md_H_change_100 hlocks
    · refine lv_iconst (v := 0) hx hb md_H_change_22 (by decide) ?_
      refine lv_goto (tgt := 29) hx hb md_H_change_23 (by decide) ?_
      refine lv_istore (lv' := [(9, .int 0), (8, .int 0), (0, .ref oA), (1, .int k), (2, .long x0), (4, .long y0), (6, .long r0)]) hx hb md_H_change_29 hl (by decide) rfl (fun ls hl => ?_)
      refine lv_aload_n hx hb md_H_change_31 rfl (lv_at hl 2 rfl) ?_
      refine va_get (D := (dC, dI)) (ci := 1) (v := .ref oX) (C := mR_H) (T := mT_H) (N := 3) hx hb hg gu_H hown hK hP 0 rfl rfl 0 (by decide) (hg _ wd_66) (fun _ h9 => h9) rfl md_H_change_32 ?_
      refine lv_iload_n hx hb md_H_change_35 rfl (lv_at hl 3 rfl) ?_
      refine va_iald hx hb hK hP 1 1 rfl rfl hk md_H_change_36 ?_
      refine lv_iload hx hb md_H_change_37 (lv_at hl 1 rfl) ?_
      refine lv_icmp_ne (tgt := 66) hx hb md_H_change_39 (by decide) (fun c13 => ?_) (fun c13 => ?_)
      · refine lv_iconst (v := 1) hx hb md_H_change_66 (by decide) ?_
        refine lv_goto (tgt := 71) hx hb md_H_change_67 (by decide) ?_
        refine lv_istore (lv' := [(10, .int 1), (9, .int 0), (8, .int 0), (0, .ref oA), (1, .int k), (2, .long x0), (4, .long y0), (6, .long r0)]) hx hb md_H_change_71 hl (by decide) rfl (fun ls hl => ?_)
        refine lv_aload_n hx hb md_H_change_73 rfl (lv_at hl 3 rfl) ?_
        refine va_get (D := (dC, dI)) (ci := 1) (v := .ref oX) (C := mR_H) (T := mT_H) (N := 3) hx hb hg gu_H hown hK hP 0 rfl rfl 0 (by decide) (hg _ wd_66) (fun _ h9 => h9) rfl md_H_change_74 ?_
        refine lv_iload_n hx hb md_H_change_77 rfl (lv_at hl 4 rfl) ?_
        refine lv_iload hx hb md_H_change_78 (lv_at hl 2 rfl) ?_
        refine va_iast hx hb hK hP hD hS 1 1 rfl rfl hk md_H_change_80 (fun H locs hP hD hS => ?_)
        have hP : va_P (dC, dI) mC [(oA, .inr (1, [.ref oX, .ref oY, .ref oR])), (oX, .inl (cI, 16, .inl (upd ox (Int32.toNatClampNeg k) 0))), (oY, .inl (cI, 16, .inl oy)), (oR, .inl (cI, 16, .inl oq))] H := hP
        have hD : va_D A [(oA, .inr (1, [.ref oX, .ref oY, .ref oR])), (oX, .inl (cI, 16, .inl (upd ox (Int32.toNatClampNeg k) 0))), (oY, .inl (cI, 16, .inl oy)), (oR, .inl (cI, 16, .inl oq))] := hD
        refine lv_aload_n hx hb md_H_change_81 rfl (lv_at hl 3 rfl) ?_
        refine va_get (D := (dC, dI)) (ci := 1) (v := .ref oY) (C := mR_H) (T := mT_H) (N := 3) hx hb hg gu_H hown hK hP 0 rfl rfl 1 (by decide) (hg _ wd_67) (fun _ h9 => h9) rfl md_H_change_82 ?_
        refine lv_iload_n hx hb md_H_change_85 rfl (lv_at hl 4 rfl) ?_
        refine lv_iload hx hb md_H_change_86 (lv_at hl 1 rfl) ?_
        refine va_iast hx hb hK hP hD hS 2 1 rfl rfl hk md_H_change_88 (fun H locs hP hD hS => ?_)
        have hP : va_P (dC, dI) mC [(oA, .inr (1, [.ref oX, .ref oY, .ref oR])), (oX, .inl (cI, 16, .inl (upd ox (Int32.toNatClampNeg k) 0))), (oY, .inl (cI, 16, .inl (upd oy (Int32.toNatClampNeg k) 0))), (oR, .inl (cI, 16, .inl oq))] H := hP
        have hD : va_D A [(oA, .inr (1, [.ref oX, .ref oY, .ref oR])), (oX, .inl (cI, 16, .inl (upd ox (Int32.toNatClampNeg k) 0))), (oY, .inl (cI, 16, .inl (upd oy (Int32.toNatClampNeg k) 0))), (oR, .inl (cI, 16, .inl oq))] := hD
        refine lv_aload_n hx hb md_H_change_89 rfl (lv_at hl 3 rfl) ?_
        refine va_get (D := (dC, dI)) (ci := 1) (v := .ref oR) (C := mR_H) (T := mT_H) (N := 3) hx hb hg gu_H hown hK hP 0 rfl rfl 2 (by decide) (hg _ wd_68) (fun _ h9 => h9) rfl md_H_change_90 ?_
        refine lv_iload_n hx hb md_H_change_93 rfl (lv_at hl 4 rfl) ?_
        refine lv_lload hx hb md_H_change_94 (lv_at hl 7 rfl) ?_
        refine lv_l2i (v := Int64.toInt32 r0) hx hb md_H_change_96 rfl ?_
        refine va_iast hx hb hK hP hD hS 3 1 rfl rfl hk md_H_change_97 (fun H locs hP hD hS => ?_)
        have hP : va_P (dC, dI) mC [(oA, .inr (1, [.ref oX, .ref oY, .ref oR])), (oX, .inl (cI, 16, .inl (upd ox (Int32.toNatClampNeg k) 0))), (oY, .inl (cI, 16, .inl (upd oy (Int32.toNatClampNeg k) 0))), (oR, .inl (cI, 16, .inl (upd oq (Int32.toNatClampNeg k) (Int64.toInt32 r0))))] H := hP
        have hD : va_D A [(oA, .inr (1, [.ref oX, .ref oY, .ref oR])), (oX, .inl (cI, 16, .inl (upd ox (Int32.toNatClampNeg k) 0))), (oY, .inl (cI, 16, .inl (upd oy (Int32.toNatClampNeg k) 0))), (oR, .inl (cI, 16, .inl (upd oq (Int32.toNatClampNeg k) (Int64.toInt32 r0))))] := hD
        refine lv_iload hx hb md_H_change_98 (lv_at hl 0 rfl) ?_
        exact W.zret (v := 1) hx hb hr rfl (fun t ht hW => ⟨⟨1, (upd ox (Int32.toNatClampNeg k) 0, upd oy (Int32.toNatClampNeg k) 0, upd oq (Int32.toNatClampNeg k) (Int64.toInt32 r0)), rfl, (by rw [fH_change, if_pos c1, if_pos c9, if_neg c13]), by have h9 := hP; rw [← ht] at h9; exact h9⟩, hS.F ht⟩) hS.2.2 md_H_change_100 hlocks
      · refine lv_aload_n hx hb md_H_change_42 rfl (lv_at hl 2 rfl) ?_
        refine va_get (D := (dC, dI)) (ci := 1) (v := .ref oY) (C := mR_H) (T := mT_H) (N := 3) hx hb hg gu_H hown hK hP 0 rfl rfl 1 (by decide) (hg _ wd_67) (fun _ h9 => h9) rfl md_H_change_43 ?_
        refine lv_iload_n hx hb md_H_change_46 rfl (lv_at hl 3 rfl) ?_
        refine va_iald hx hb hK hP 2 1 rfl rfl hk md_H_change_47 ?_
        refine lv_iload hx hb md_H_change_48 (lv_at hl 0 rfl) ?_
        refine lv_icmp_ne (tgt := 66) hx hb md_H_change_50 (by decide) (fun c14 => ?_) (fun c14 => ?_)
        · refine lv_iconst (v := 1) hx hb md_H_change_66 (by decide) ?_
          refine lv_goto (tgt := 71) hx hb md_H_change_67 (by decide) ?_
          refine lv_istore (lv' := [(10, .int 1), (9, .int 0), (8, .int 0), (0, .ref oA), (1, .int k), (2, .long x0), (4, .long y0), (6, .long r0)]) hx hb md_H_change_71 hl (by decide) rfl (fun ls hl => ?_)
          refine lv_aload_n hx hb md_H_change_73 rfl (lv_at hl 3 rfl) ?_
          refine va_get (D := (dC, dI)) (ci := 1) (v := .ref oX) (C := mR_H) (T := mT_H) (N := 3) hx hb hg gu_H hown hK hP 0 rfl rfl 0 (by decide) (hg _ wd_66) (fun _ h9 => h9) rfl md_H_change_74 ?_
          refine lv_iload_n hx hb md_H_change_77 rfl (lv_at hl 4 rfl) ?_
          refine lv_iload hx hb md_H_change_78 (lv_at hl 2 rfl) ?_
          refine va_iast hx hb hK hP hD hS 1 1 rfl rfl hk md_H_change_80 (fun H locs hP hD hS => ?_)
          have hP : va_P (dC, dI) mC [(oA, .inr (1, [.ref oX, .ref oY, .ref oR])), (oX, .inl (cI, 16, .inl (upd ox (Int32.toNatClampNeg k) 0))), (oY, .inl (cI, 16, .inl oy)), (oR, .inl (cI, 16, .inl oq))] H := hP
          have hD : va_D A [(oA, .inr (1, [.ref oX, .ref oY, .ref oR])), (oX, .inl (cI, 16, .inl (upd ox (Int32.toNatClampNeg k) 0))), (oY, .inl (cI, 16, .inl oy)), (oR, .inl (cI, 16, .inl oq))] := hD
          refine lv_aload_n hx hb md_H_change_81 rfl (lv_at hl 3 rfl) ?_
          refine va_get (D := (dC, dI)) (ci := 1) (v := .ref oY) (C := mR_H) (T := mT_H) (N := 3) hx hb hg gu_H hown hK hP 0 rfl rfl 1 (by decide) (hg _ wd_67) (fun _ h9 => h9) rfl md_H_change_82 ?_
          refine lv_iload_n hx hb md_H_change_85 rfl (lv_at hl 4 rfl) ?_
          refine lv_iload hx hb md_H_change_86 (lv_at hl 1 rfl) ?_
          refine va_iast hx hb hK hP hD hS 2 1 rfl rfl hk md_H_change_88 (fun H locs hP hD hS => ?_)
          have hP : va_P (dC, dI) mC [(oA, .inr (1, [.ref oX, .ref oY, .ref oR])), (oX, .inl (cI, 16, .inl (upd ox (Int32.toNatClampNeg k) 0))), (oY, .inl (cI, 16, .inl (upd oy (Int32.toNatClampNeg k) 0))), (oR, .inl (cI, 16, .inl oq))] H := hP
          have hD : va_D A [(oA, .inr (1, [.ref oX, .ref oY, .ref oR])), (oX, .inl (cI, 16, .inl (upd ox (Int32.toNatClampNeg k) 0))), (oY, .inl (cI, 16, .inl (upd oy (Int32.toNatClampNeg k) 0))), (oR, .inl (cI, 16, .inl oq))] := hD
          refine lv_aload_n hx hb md_H_change_89 rfl (lv_at hl 3 rfl) ?_
          refine va_get (D := (dC, dI)) (ci := 1) (v := .ref oR) (C := mR_H) (T := mT_H) (N := 3) hx hb hg gu_H hown hK hP 0 rfl rfl 2 (by decide) (hg _ wd_68) (fun _ h9 => h9) rfl md_H_change_90 ?_
          refine lv_iload_n hx hb md_H_change_93 rfl (lv_at hl 4 rfl) ?_
          refine lv_lload hx hb md_H_change_94 (lv_at hl 7 rfl) ?_
          refine lv_l2i (v := Int64.toInt32 r0) hx hb md_H_change_96 rfl ?_
          refine va_iast hx hb hK hP hD hS 3 1 rfl rfl hk md_H_change_97 (fun H locs hP hD hS => ?_)
          have hP : va_P (dC, dI) mC [(oA, .inr (1, [.ref oX, .ref oY, .ref oR])), (oX, .inl (cI, 16, .inl (upd ox (Int32.toNatClampNeg k) 0))), (oY, .inl (cI, 16, .inl (upd oy (Int32.toNatClampNeg k) 0))), (oR, .inl (cI, 16, .inl (upd oq (Int32.toNatClampNeg k) (Int64.toInt32 r0))))] H := hP
          have hD : va_D A [(oA, .inr (1, [.ref oX, .ref oY, .ref oR])), (oX, .inl (cI, 16, .inl (upd ox (Int32.toNatClampNeg k) 0))), (oY, .inl (cI, 16, .inl (upd oy (Int32.toNatClampNeg k) 0))), (oR, .inl (cI, 16, .inl (upd oq (Int32.toNatClampNeg k) (Int64.toInt32 r0))))] := hD
          refine lv_iload hx hb md_H_change_98 (lv_at hl 0 rfl) ?_
          exact W.zret (v := 1) hx hb hr rfl (fun t ht hW => ⟨⟨1, (upd ox (Int32.toNatClampNeg k) 0, upd oy (Int32.toNatClampNeg k) 0, upd oq (Int32.toNatClampNeg k) (Int64.toInt32 r0)), rfl, (by rw [fH_change, if_pos c1, if_pos c9, if_pos c13, if_neg c14]), by have h9 := hP; rw [← ht] at h9; exact h9⟩, hS.F ht⟩) hS.2.2 md_H_change_100 hlocks
        · refine lv_aload_n hx hb md_H_change_53 rfl (lv_at hl 2 rfl) ?_
          refine va_get (D := (dC, dI)) (ci := 1) (v := .ref oR) (C := mR_H) (T := mT_H) (N := 3) hx hb hg gu_H hown hK hP 0 rfl rfl 2 (by decide) (hg _ wd_68) (fun _ h9 => h9) rfl md_H_change_54 ?_
          refine lv_iload_n hx hb md_H_change_57 rfl (lv_at hl 3 rfl) ?_
          refine va_iald hx hb hK hP 3 1 rfl rfl hk md_H_change_58 ?_
          refine lv_i2l (v := Int32.toInt64 (oq (Int32.toNatClampNeg k))) hx hb md_H_change_59 rfl ?_
          refine lv_lload hx hb md_H_change_60 (lv_at hl 6 rfl) ?_
          refine lx_eq (tgt := 70) hx hb md_H_change_62 md_H_change_63 (by decide) (fun c15 => ?_) (fun c15 => ?_)
          · refine lv_iconst (v := 0) hx hb md_H_change_70 (by decide) ?_
            refine lv_istore (lv' := [(10, .int 0), (9, .int 0), (8, .int 0), (0, .ref oA), (1, .int k), (2, .long x0), (4, .long y0), (6, .long r0)]) hx hb md_H_change_71 hl (by decide) rfl (fun ls hl => ?_)
            refine lv_aload_n hx hb md_H_change_73 rfl (lv_at hl 3 rfl) ?_
            refine va_get (D := (dC, dI)) (ci := 1) (v := .ref oX) (C := mR_H) (T := mT_H) (N := 3) hx hb hg gu_H hown hK hP 0 rfl rfl 0 (by decide) (hg _ wd_66) (fun _ h9 => h9) rfl md_H_change_74 ?_
            refine lv_iload_n hx hb md_H_change_77 rfl (lv_at hl 4 rfl) ?_
            refine lv_iload hx hb md_H_change_78 (lv_at hl 2 rfl) ?_
            refine va_iast hx hb hK hP hD hS 1 1 rfl rfl hk md_H_change_80 (fun H locs hP hD hS => ?_)
            have hP : va_P (dC, dI) mC [(oA, .inr (1, [.ref oX, .ref oY, .ref oR])), (oX, .inl (cI, 16, .inl (upd ox (Int32.toNatClampNeg k) 0))), (oY, .inl (cI, 16, .inl oy)), (oR, .inl (cI, 16, .inl oq))] H := hP
            have hD : va_D A [(oA, .inr (1, [.ref oX, .ref oY, .ref oR])), (oX, .inl (cI, 16, .inl (upd ox (Int32.toNatClampNeg k) 0))), (oY, .inl (cI, 16, .inl oy)), (oR, .inl (cI, 16, .inl oq))] := hD
            refine lv_aload_n hx hb md_H_change_81 rfl (lv_at hl 3 rfl) ?_
            refine va_get (D := (dC, dI)) (ci := 1) (v := .ref oY) (C := mR_H) (T := mT_H) (N := 3) hx hb hg gu_H hown hK hP 0 rfl rfl 1 (by decide) (hg _ wd_67) (fun _ h9 => h9) rfl md_H_change_82 ?_
            refine lv_iload_n hx hb md_H_change_85 rfl (lv_at hl 4 rfl) ?_
            refine lv_iload hx hb md_H_change_86 (lv_at hl 1 rfl) ?_
            refine va_iast hx hb hK hP hD hS 2 1 rfl rfl hk md_H_change_88 (fun H locs hP hD hS => ?_)
            have hP : va_P (dC, dI) mC [(oA, .inr (1, [.ref oX, .ref oY, .ref oR])), (oX, .inl (cI, 16, .inl (upd ox (Int32.toNatClampNeg k) 0))), (oY, .inl (cI, 16, .inl (upd oy (Int32.toNatClampNeg k) 0))), (oR, .inl (cI, 16, .inl oq))] H := hP
            have hD : va_D A [(oA, .inr (1, [.ref oX, .ref oY, .ref oR])), (oX, .inl (cI, 16, .inl (upd ox (Int32.toNatClampNeg k) 0))), (oY, .inl (cI, 16, .inl (upd oy (Int32.toNatClampNeg k) 0))), (oR, .inl (cI, 16, .inl oq))] := hD
            refine lv_aload_n hx hb md_H_change_89 rfl (lv_at hl 3 rfl) ?_
            refine va_get (D := (dC, dI)) (ci := 1) (v := .ref oR) (C := mR_H) (T := mT_H) (N := 3) hx hb hg gu_H hown hK hP 0 rfl rfl 2 (by decide) (hg _ wd_68) (fun _ h9 => h9) rfl md_H_change_90 ?_
            refine lv_iload_n hx hb md_H_change_93 rfl (lv_at hl 4 rfl) ?_
            refine lv_lload hx hb md_H_change_94 (lv_at hl 7 rfl) ?_
            refine lv_l2i (v := Int64.toInt32 r0) hx hb md_H_change_96 rfl ?_
            refine va_iast hx hb hK hP hD hS 3 1 rfl rfl hk md_H_change_97 (fun H locs hP hD hS => ?_)
            have hP : va_P (dC, dI) mC [(oA, .inr (1, [.ref oX, .ref oY, .ref oR])), (oX, .inl (cI, 16, .inl (upd ox (Int32.toNatClampNeg k) 0))), (oY, .inl (cI, 16, .inl (upd oy (Int32.toNatClampNeg k) 0))), (oR, .inl (cI, 16, .inl (upd oq (Int32.toNatClampNeg k) (Int64.toInt32 r0))))] H := hP
            have hD : va_D A [(oA, .inr (1, [.ref oX, .ref oY, .ref oR])), (oX, .inl (cI, 16, .inl (upd ox (Int32.toNatClampNeg k) 0))), (oY, .inl (cI, 16, .inl (upd oy (Int32.toNatClampNeg k) 0))), (oR, .inl (cI, 16, .inl (upd oq (Int32.toNatClampNeg k) (Int64.toInt32 r0))))] := hD
            refine lv_iload hx hb md_H_change_98 (lv_at hl 0 rfl) ?_
            exact W.zret (v := 0) hx hb hr rfl (fun t ht hW => ⟨⟨0, (upd ox (Int32.toNatClampNeg k) 0, upd oy (Int32.toNatClampNeg k) 0, upd oq (Int32.toNatClampNeg k) (Int64.toInt32 r0)), rfl, (by rw [fH_change, if_pos c1, if_pos c9, if_pos c13, if_pos c14, if_pos c15]), by have h9 := hP; rw [← ht] at h9; exact h9⟩, hS.F ht⟩) hS.2.2 md_H_change_100 hlocks
          · refine lv_iconst (v := 1) hx hb md_H_change_66 (by decide) ?_
            refine lv_goto (tgt := 71) hx hb md_H_change_67 (by decide) ?_
            refine lv_istore (lv' := [(10, .int 1), (9, .int 0), (8, .int 0), (0, .ref oA), (1, .int k), (2, .long x0), (4, .long y0), (6, .long r0)]) hx hb md_H_change_71 hl (by decide) rfl (fun ls hl => ?_)
            refine lv_aload_n hx hb md_H_change_73 rfl (lv_at hl 3 rfl) ?_
            refine va_get (D := (dC, dI)) (ci := 1) (v := .ref oX) (C := mR_H) (T := mT_H) (N := 3) hx hb hg gu_H hown hK hP 0 rfl rfl 0 (by decide) (hg _ wd_66) (fun _ h9 => h9) rfl md_H_change_74 ?_
            refine lv_iload_n hx hb md_H_change_77 rfl (lv_at hl 4 rfl) ?_
            refine lv_iload hx hb md_H_change_78 (lv_at hl 2 rfl) ?_
            refine va_iast hx hb hK hP hD hS 1 1 rfl rfl hk md_H_change_80 (fun H locs hP hD hS => ?_)
            have hP : va_P (dC, dI) mC [(oA, .inr (1, [.ref oX, .ref oY, .ref oR])), (oX, .inl (cI, 16, .inl (upd ox (Int32.toNatClampNeg k) 0))), (oY, .inl (cI, 16, .inl oy)), (oR, .inl (cI, 16, .inl oq))] H := hP
            have hD : va_D A [(oA, .inr (1, [.ref oX, .ref oY, .ref oR])), (oX, .inl (cI, 16, .inl (upd ox (Int32.toNatClampNeg k) 0))), (oY, .inl (cI, 16, .inl oy)), (oR, .inl (cI, 16, .inl oq))] := hD
            refine lv_aload_n hx hb md_H_change_81 rfl (lv_at hl 3 rfl) ?_
            refine va_get (D := (dC, dI)) (ci := 1) (v := .ref oY) (C := mR_H) (T := mT_H) (N := 3) hx hb hg gu_H hown hK hP 0 rfl rfl 1 (by decide) (hg _ wd_67) (fun _ h9 => h9) rfl md_H_change_82 ?_
            refine lv_iload_n hx hb md_H_change_85 rfl (lv_at hl 4 rfl) ?_
            refine lv_iload hx hb md_H_change_86 (lv_at hl 1 rfl) ?_
            refine va_iast hx hb hK hP hD hS 2 1 rfl rfl hk md_H_change_88 (fun H locs hP hD hS => ?_)
            have hP : va_P (dC, dI) mC [(oA, .inr (1, [.ref oX, .ref oY, .ref oR])), (oX, .inl (cI, 16, .inl (upd ox (Int32.toNatClampNeg k) 0))), (oY, .inl (cI, 16, .inl (upd oy (Int32.toNatClampNeg k) 0))), (oR, .inl (cI, 16, .inl oq))] H := hP
            have hD : va_D A [(oA, .inr (1, [.ref oX, .ref oY, .ref oR])), (oX, .inl (cI, 16, .inl (upd ox (Int32.toNatClampNeg k) 0))), (oY, .inl (cI, 16, .inl (upd oy (Int32.toNatClampNeg k) 0))), (oR, .inl (cI, 16, .inl oq))] := hD
            refine lv_aload_n hx hb md_H_change_89 rfl (lv_at hl 3 rfl) ?_
            refine va_get (D := (dC, dI)) (ci := 1) (v := .ref oR) (C := mR_H) (T := mT_H) (N := 3) hx hb hg gu_H hown hK hP 0 rfl rfl 2 (by decide) (hg _ wd_68) (fun _ h9 => h9) rfl md_H_change_90 ?_
            refine lv_iload_n hx hb md_H_change_93 rfl (lv_at hl 4 rfl) ?_
            refine lv_lload hx hb md_H_change_94 (lv_at hl 7 rfl) ?_
            refine lv_l2i (v := Int64.toInt32 r0) hx hb md_H_change_96 rfl ?_
            refine va_iast hx hb hK hP hD hS 3 1 rfl rfl hk md_H_change_97 (fun H locs hP hD hS => ?_)
            have hP : va_P (dC, dI) mC [(oA, .inr (1, [.ref oX, .ref oY, .ref oR])), (oX, .inl (cI, 16, .inl (upd ox (Int32.toNatClampNeg k) 0))), (oY, .inl (cI, 16, .inl (upd oy (Int32.toNatClampNeg k) 0))), (oR, .inl (cI, 16, .inl (upd oq (Int32.toNatClampNeg k) (Int64.toInt32 r0))))] H := hP
            have hD : va_D A [(oA, .inr (1, [.ref oX, .ref oY, .ref oR])), (oX, .inl (cI, 16, .inl (upd ox (Int32.toNatClampNeg k) 0))), (oY, .inl (cI, 16, .inl (upd oy (Int32.toNatClampNeg k) 0))), (oR, .inl (cI, 16, .inl (upd oq (Int32.toNatClampNeg k) (Int64.toInt32 r0))))] := hD
            refine lv_iload hx hb md_H_change_98 (lv_at hl 0 rfl) ?_
            exact W.zret (v := 1) hx hb hr rfl (fun t ht hW => ⟨⟨1, (upd ox (Int32.toNatClampNeg k) 0, upd oy (Int32.toNatClampNeg k) 0, upd oq (Int32.toNatClampNeg k) (Int64.toInt32 r0)), rfl, (by rw [fH_change, if_pos c1, if_pos c9, if_pos c13, if_pos c14, if_neg c15]), by have h9 := hP; rw [← ht] at h9; exact h9⟩, hS.F ht⟩) hS.2.2 md_H_change_100 hlocks

def gT_finish (ts : Nat → Int32) (rows : Int32) : Nat → (Nat → Int32) → Nat → Int32 × (Nat → Int32) × Int32
  | 0, _, _ => (0, (fun _ => 0), 0)
  | n + 1, tv, i => if 16 ≤ (nI i) then (rows, tv, rows) else (gT_finish ts rows n (upd tv (Int32.toNatClampNeg (nI i)) 9) (i + 1))
def fT_finish (ts : Nat → Int32) (rows : Int32) : Int32 × (Nat → Int32) × Int32 := gT_finish ts rows 17 ts 0
set_option maxHeartbeats 1000000 in
set_option maxRecDepth 100000 in
theorem ct_T_finish (l : Launch) (dC : Nat → ClassId) (dI : Nat → Nat → Nat) (cC cI cJ : ClassId) (tA : Nat) (tL : Nat) (tN : Nat) (tS : Nat) (tl : Nat → Int32) (tn : Nat → Int32) (ts : Nat → Int32) (tz : Int32) (rows : Int32)   : Met l my_T_finish (.code my_T_finish mb_T_finish 3 (some .int) :: gw_l) ({ frames := 0, cells := 0, slots := 0, locals := 0 }) (mu_Pc (dC, dI) mC [(cC, .char), (cI, .int), (cJ, .long)] [(tA, .inr (2, [.ref tL, .ref tN, .ref tS, .int tz])), (tL, .inl (cC, 16, .inl tl)), (tN, .inl (cI, 96, .inl tn)), (tS, .inl (cI, 16, .inl ts))] (fun _ => True) [.ref tA, .int rows]) (va_Qi (fun (r : Int32) (u : (Nat → Int32) × Int32) => (r, u) = fT_finish ts rows) (fun u t => va_P (dC, dI) mC [(tA, .inr (2, [.ref tL, .ref tN, .ref tS, .int u.2])), (tL, .inl (cC, 16, .inl tl)), (tN, .inl (cI, 96, .inl tn)), (tS, .inl (cI, 16, .inl u.1))] t.heap) (mu_A [(tA, .inr (2, [.ref tL, .ref tN, .ref tS, .int tz])), (tL, .inl (cC, 16, .inl tl)), (tN, .inl (cI, 96, .inl tn)), (tS, .inl (cI, 16, .inl ts))])) 0 0 (mu_A [(tA, .inr (2, [.ref tL, .ref tN, .ref tS, .int tz])), (tL, .inl (cC, 16, .inl tl)), (tN, .inl (cI, 96, .inl tn)), (tS, .inl (cI, 16, .inl ts))]) := by
  refine Met.ofW (cc := mb_T_finish) (maxL := 3) (ret := (some .int)) (by decide) rfl ?_
  intro p e s m args below meth c s₁ B hml hv
  obtain ⟨rfl, hP, hK, hD0, hE⟩ := hv
  have hx := B.exec
  have hb := B.bytes
  have hr := B.returns
  have hts := atoms_spec (ws := (.code my_T_finish mb_T_finish 3 (some .int) :: gw_l)) B.pre
  have hg : ∀ w ∈ gw_l, w.before _ s = true := fun w h => hts w (List.mem_cons_of_mem _ h)
  have hown : s.vm.findClass mR_T = some m.cls := findClass_of_methodNamed B.named
  have hlocks := B.notSynchronized
  have hD := mu_self hD0
  have hS : va_S (mu_A [(tA, .inr (2, [.ref tL, .ref tN, .ref tS, .int tz])), (tL, .inl (cC, 16, .inl tl)), (tN, .inl (cI, 96, .inl tn)), (tS, .inl (cI, 16, .inl ts))]) s.heap s.heap [] := va_S.rf
  generalize hAe : mu_A [(tA, .inr (2, [.ref tL, .ref tN, .ref tS, .int tz])), (tL, .inl (cC, 16, .inl tl)), (tN, .inl (cI, 96, .inl tn)), (tS, .inl (cI, 16, .inl ts))] = A at hD hS ⊢
  have hl := lv_entry ([.ref tA, .int rows]) (n := 3) (Nat.le_of_ble_eq_true rfl)
  rw [lg_entry_eq]
  generalize (lg_sl ([.ref tA, .int rows]) ++ List.replicate (3 - (lg_sl ([.ref tA, .int rows])).length) Slot.unset).toArray = ls at hl ⊢
  have hl : lv_has ls 3 [(0, .ref tA), (1, .int rows)] := hl
  have loop : ∀ (n : Nat) (tv : Nat → Int32) (i : Nat) (H : Heap) (locs : List Loc) (ls : Array Slot), (i ≤ 16) → 16 - i < n → fT_finish ts rows = gT_finish ts rows n tv i → va_P (dC, dI) mC [(tA, .inr (2, [.ref tL, .ref tN, .ref tS, .int rows])), (tL, .inl (cC, 16, .inl tl)), (tN, .inl (cI, 96, .inl tn)), (tS, .inl (cI, 16, .inl tv))] H → va_D A [(tA, .inr (2, [.ref tL, .ref tN, .ref tS, .int rows])), (tL, .inl (cC, 16, .inl tl)), (tN, .inl (cI, 96, .inl tn)), (tS, .inl (cI, 16, .inl tv))] → va_S A s.heap H locs → lv_has ls 3 [(0, .ref tA), (1, .int rows), (2, .int (nI i))] → W p l e (headSpec (.code my_T_finish mb_T_finish 3 (some .int) :: gw_l) ({ frames := 0, cells := 0, slots := 0, locals := 0 })).room s m ([.ref tA, .int rows] : List Value).toArray below meth c H locs 0 0 (MQ below (va_Qi (fun (r : Int32) (u : (Nat → Int32) × Int32) => (r, u) = fT_finish ts rows) (fun u t => va_P (dC, dI) mC [(tA, .inr (2, [.ref tL, .ref tN, .ref tS, .int u.2])), (tL, .inl (cC, 16, .inl tl)), (tN, .inl (cI, 96, .inl tn)), (tS, .inl (cI, 16, .inl u.1))] t.heap) A) ([.ref tA, .int rows] : List Value).toArray s 0 0 A) (F0 m 7 ls []) := by
    intro n
    induction n with
    | zero =>
      intro tv i H locs ls h1 hm
      exact absurd hm (Nat.not_lt_zero _)
    | succ n ih =>
      intro tv i H locs ls h1 hm hv hP hD hS hl
      refine lv_iload_n hx hb md_T_finish_7 rfl (lv_at hl 2 rfl) ?_
      refine lv_bipush (v := 16) hx hb md_T_finish_8 (by decide) ?_
      refine lv_icmp_ge (tgt := 27) hx hb md_T_finish_10 (by decide) (fun c1 => ?_) (fun c1 => ?_)
      · refine lv_iload_n hx hb md_T_finish_27 rfl (lv_at hl 1 rfl) ?_
        exact W.iret (v := rows) hx hb hr (fun t ht hW => ⟨⟨rows, (tv, rows), rfl, (by rw [hv, gT_finish, if_pos c1]), by have h9 := hP; rw [← ht] at h9; exact h9⟩, hS.F ht⟩) hS.2.2 md_T_finish_28 hlocks
      · have hlt : i < 16 := nx_lt (a := i) (b := 16) (by omega) (by omega) c1
        refine lv_aload_n hx hb md_T_finish_13 rfl (lv_at hl 0 rfl) ?_
        refine va_get (D := (dC, dI)) (ci := 2) (v := .ref tS) (C := mR_T) (T := mT_T) (N := 4) hx hb hg gu_T hown hK hP 0 rfl rfl 2 (by decide) (hg _ wd_85) (fun _ h9 => h9) rfl md_T_finish_14 ?_
        refine lv_iload_n hx hb md_T_finish_17 rfl (lv_at hl 2 rfl) ?_
        refine lv_bipush (v := 9) hx hb md_T_finish_18 (by decide) ?_
        refine va_iast hx hb hK hP hD hS 3 1 rfl rfl (nx_16 hlt) md_T_finish_20 (fun H locs hP hD hS => ?_)
        have hP : va_P (dC, dI) mC [(tA, .inr (2, [.ref tL, .ref tN, .ref tS, .int rows])), (tL, .inl (cC, 16, .inl tl)), (tN, .inl (cI, 96, .inl tn)), (tS, .inl (cI, 16, .inl (upd tv (Int32.toNatClampNeg (nI i)) 9)))] H := hP
        have hD : va_D A [(tA, .inr (2, [.ref tL, .ref tN, .ref tS, .int rows])), (tL, .inl (cC, 16, .inl tl)), (tN, .inl (cI, 96, .inl tn)), (tS, .inl (cI, 16, .inl (upd tv (Int32.toNatClampNeg (nI i)) 9)))] := hD
        refine lv_iinc (v := nI (i + 1)) (lv' := [(2, .int (nI (i + 1))), (0, .ref tA), (1, .int rows)]) hx hb md_T_finish_21 hl (k := 2) rfl (by rw [nI_succ]; rfl) (by decide) rfl (fun ls hl => ?_)
        refine lv_goto (tgt := 7) hx hb md_T_finish_24 (by decide) ?_
        exact ih (upd tv (Int32.toNatClampNeg (nI i)) 9) (i + 1) _ _ ls (by omega) (by omega) (by rw [hv, gT_finish, if_neg c1]) hP hD hS (lv_sub hl [1, 2, 0] rfl)
  refine lv_aload_n hx hb md_T_finish_0 rfl (lv_at hl 0 rfl) ?_
  refine lv_iload_n hx hb md_T_finish_1 rfl (lv_at hl 1 rfl) ?_
  refine va_put (D := (dC, dI)) (ci := 2) (v := .int rows) (ty := .int) (C := mR_T) (T := mT_T) (N := 4) hx hb hg gu_T mF_T mO_T mN_T hown hK hP hD hS 0 rfl rfl 3 (by decide) (hg _ wd_86) (fun _ h9 => h9) rfl (by decide +kernel) rfl rfl (Nat.le_of_ble_eq_true rfl) md_T_finish_2 (fun H locs hP hD hS => ?_)
  have hP : va_P (dC, dI) mC [(tA, .inr (2, [.ref tL, .ref tN, .ref tS, .int rows])), (tL, .inl (cC, 16, .inl tl)), (tN, .inl (cI, 96, .inl tn)), (tS, .inl (cI, 16, .inl ts))] H := hP
  have hD : va_D A [(tA, .inr (2, [.ref tL, .ref tN, .ref tS, .int rows])), (tL, .inl (cC, 16, .inl tl)), (tN, .inl (cI, 96, .inl tn)), (tS, .inl (cI, 16, .inl ts))] := hD
  refine lv_iconst (v := 0) hx hb md_T_finish_5 (by decide) ?_
  refine lv_istore_n (lv' := [(2, .int 0), (0, .ref tA), (1, .int rows)]) hx hb md_T_finish_6 rfl hl (by decide) rfl (fun ls hl => ?_)
  exact loop 17 ts 0 _ _ ls (by omega) (by omega) (by rw [fT_finish]) hP hD hS (lv_sub hl [1, 2, 0] rfl)

def gT_fillNumber (tl : Nat → Int32) (tn : Nat → Int32) (xl : Nat → Int32) (xz : Int32) (row : Int32) (k : Int32) (start : Int32) : Nat → Int32 → Int32 → Nat → Int32 × (Nat → Int32)
  | 0, _, _, _ => (0, (fun _ => 0))
  | n + 1, value, pos, dg => if 5 ≤ (nI dg) then (if pos = start then (fT_fault start, tn) else (if (fT_mayStand tl tn row k value) = 0 then (fT_fault start, tn) else (pos, upd tn (Int32.toNatClampNeg ((row * 6) + k)) value))) else (if (fT_isDigit (fS_at xl xz pos)) = 0 then (if pos = start then (fT_fault start, tn) else (if (fT_mayStand tl tn row k value) = 0 then (fT_fault start, tn) else (pos, upd tn (Int32.toNatClampNeg ((row * 6) + k)) value))) else (gT_fillNumber tl tn xl xz row k start n ((10 * value) + ((fS_at xl xz pos) - 48)) (pos + 1) (dg + 1)))
def fT_fillNumber (tl : Nat → Int32) (tn : Nat → Int32) (xl : Nat → Int32) (xz : Int32) (row : Int32) (k : Int32) (start : Int32) : Int32 × (Nat → Int32) := gT_fillNumber tl tn xl xz row k start 6 0 start 0
set_option maxHeartbeats 1000000 in
set_option maxRecDepth 100000 in
theorem ct_T_fillNumber (l : Launch) (dC : Nat → ClassId) (dI : Nat → Nat → Nat) (cC cI cJ : ClassId) (tA : Nat) (tL : Nat) (tN : Nat) (tS : Nat) (tl : Nat → Int32) (tn : Nat → Int32) (ts : Nat → Int32) (tz : Int32) (xA : Nat) (xL : Nat) (xl : Nat → Int32) (xz : Int32) (row : Int32) (k : Int32) (start : Int32)  (hxp : ∀ q : Int32, ¬ q < 0 → ¬ xz ≤ q → vp_in q 300) (hch : ∀ j, narrow .char (.int (xl j)) = .int (xl j)) (hrow : vp_in row 16) (hi : vp_in (row * 6 + k) 96) (hmk : k = 1 ∨ k = 3 → vp_in (row * 6 + (k - 1)) 96) : Met l my_T_fillNumber (.code my_T_fillNumber mb_T_fillNumber 8 (some .int) :: gw_l) ({ frames := 2, cells := 0, slots := 0, locals := 45 }) (mu_Pc (dC, dI) mC [(cC, .char), (cI, .int), (cJ, .long)] [(tA, .inr (2, [.ref tL, .ref tN, .ref tS, .int tz])), (tL, .inl (cC, 16, .inl tl)), (tN, .inl (cI, 96, .inl tn)), (tS, .inl (cI, 16, .inl ts)), (xA, .inr (3, [.ref xL, .int xz])), (xL, .inl (cC, 300, .inl xl))] (fun _ => True) [.ref tA, .ref xA, .int row, .int k, .int start]) (va_Qi (fun (r : Int32) (u : (Nat → Int32)) => (r, u) = fT_fillNumber tl tn xl xz row k start) (fun u t => va_P (dC, dI) mC [(tA, .inr (2, [.ref tL, .ref tN, .ref tS, .int tz])), (tL, .inl (cC, 16, .inl tl)), (tN, .inl (cI, 96, .inl u)), (tS, .inl (cI, 16, .inl ts)), (xA, .inr (3, [.ref xL, .int xz])), (xL, .inl (cC, 300, .inl xl))] t.heap) (mu_A [(tA, .inr (2, [.ref tL, .ref tN, .ref tS, .int tz])), (tL, .inl (cC, 16, .inl tl)), (tN, .inl (cI, 96, .inl tn)), (tS, .inl (cI, 16, .inl ts)), (xA, .inr (3, [.ref xL, .int xz])), (xL, .inl (cC, 300, .inl xl))])) 0 0 (mu_A [(tA, .inr (2, [.ref tL, .ref tN, .ref tS, .int tz])), (tL, .inl (cC, 16, .inl tl)), (tN, .inl (cI, 96, .inl tn)), (tS, .inl (cI, 16, .inl ts)), (xA, .inr (3, [.ref xL, .int xz])), (xL, .inl (cC, 300, .inl xl))]) := by
  refine Met.ofW (cc := mb_T_fillNumber) (maxL := 8) (ret := (some .int)) (by decide) rfl ?_
  intro p e s m args below meth c s₁ B hml hv
  obtain ⟨rfl, hP, hK, hD0, hE⟩ := hv
  have hx := B.exec
  have hb := B.bytes
  have hr := B.returns
  have hts := atoms_spec (ws := (.code my_T_fillNumber mb_T_fillNumber 8 (some .int) :: gw_l)) B.pre
  have hg : ∀ w ∈ gw_l, w.before _ s = true := fun w h => hts w (List.mem_cons_of_mem _ h)
  have hown : s.vm.findClass mR_T = some m.cls := findClass_of_methodNamed B.named
  have hlocks := B.notSynchronized
  have hD := mu_self hD0
  have hS : va_S (mu_A [(tA, .inr (2, [.ref tL, .ref tN, .ref tS, .int tz])), (tL, .inl (cC, 16, .inl tl)), (tN, .inl (cI, 96, .inl tn)), (tS, .inl (cI, 16, .inl ts)), (xA, .inr (3, [.ref xL, .int xz])), (xL, .inl (cC, 300, .inl xl))]) s.heap s.heap [] := va_S.rf
  generalize hAe : mu_A [(tA, .inr (2, [.ref tL, .ref tN, .ref tS, .int tz])), (tL, .inl (cC, 16, .inl tl)), (tN, .inl (cI, 96, .inl tn)), (tS, .inl (cI, 16, .inl ts)), (xA, .inr (3, [.ref xL, .int xz])), (xL, .inl (cC, 300, .inl xl))] = A at hD hS ⊢
  have hl := lv_entry ([.ref tA, .ref xA, .int row, .int k, .int start]) (n := 8) (Nat.le_of_ble_eq_true rfl)
  rw [lg_entry_eq]
  generalize (lg_sl ([.ref tA, .ref xA, .int row, .int k, .int start]) ++ List.replicate (8 - (lg_sl ([.ref tA, .ref xA, .int row, .int k, .int start])).length) Slot.unset).toArray = ls at hl ⊢
  have hl : lv_has ls 8 [(0, .ref tA), (1, .ref xA), (2, .int row), (3, .int k), (4, .int start)] := hl
  have loop : ∀ (n : Nat) (value : Int32) (pos : Int32) (dg : Nat) (H : Heap) (locs : List Loc) (ls : Array Slot), (dg ≤ 5) → 5 - dg < n → fT_fillNumber tl tn xl xz row k start = gT_fillNumber tl tn xl xz row k start n value pos dg → va_P (dC, dI) mC [(tA, .inr (2, [.ref tL, .ref tN, .ref tS, .int tz])), (tL, .inl (cC, 16, .inl tl)), (tN, .inl (cI, 96, .inl tn)), (tS, .inl (cI, 16, .inl ts)), (xA, .inr (3, [.ref xL, .int xz])), (xL, .inl (cC, 300, .inl xl))] H → va_D A [(tA, .inr (2, [.ref tL, .ref tN, .ref tS, .int tz])), (tL, .inl (cC, 16, .inl tl)), (tN, .inl (cI, 96, .inl tn)), (tS, .inl (cI, 16, .inl ts)), (xA, .inr (3, [.ref xL, .int xz])), (xL, .inl (cC, 300, .inl xl))] → va_S A s.heap H locs → lv_has ls 8 [(0, .ref tA), (1, .ref xA), (2, .int row), (3, .int k), (4, .int start), (5, .int value), (6, .int pos), (7, .int (nI dg))] → W p l e (headSpec (.code my_T_fillNumber mb_T_fillNumber 8 (some .int) :: gw_l) ({ frames := 2, cells := 0, slots := 0, locals := 45 })).room s m ([.ref tA, .ref xA, .int row, .int k, .int start] : List Value).toArray below meth c H locs 0 0 (MQ below (va_Qi (fun (r : Int32) (u : (Nat → Int32)) => (r, u) = fT_fillNumber tl tn xl xz row k start) (fun u t => va_P (dC, dI) mC [(tA, .inr (2, [.ref tL, .ref tN, .ref tS, .int tz])), (tL, .inl (cC, 16, .inl tl)), (tN, .inl (cI, 96, .inl u)), (tS, .inl (cI, 16, .inl ts)), (xA, .inr (3, [.ref xL, .int xz])), (xL, .inl (cC, 300, .inl xl))] t.heap) A) ([.ref tA, .ref xA, .int row, .int k, .int start] : List Value).toArray s 0 0 A) (F0 m 10 ls []) := by
    intro n
    induction n with
    | zero =>
      intro value pos dg H locs ls h1 hm
      exact absurd hm (Nat.not_lt_zero _)
    | succ n ih =>
      intro value pos dg H locs ls h1 hm hv hP hD hS hl
      refine lv_iload hx hb md_T_fillNumber_10 (lv_at hl 7 rfl) ?_
      refine lv_iconst (v := 5) hx hb md_T_fillNumber_12 (by decide) ?_
      refine lv_icmp_ge (tgt := 54) hx hb md_T_fillNumber_13 (by decide) (fun c1 => ?_) (fun c1 => ?_)
      · refine lv_iload hx hb md_T_fillNumber_54 (lv_at hl 6 rfl) ?_
        refine lv_iload hx hb md_T_fillNumber_56 (lv_at hl 4 rfl) ?_
        refine lv_icmp_eq (tgt := 72) hx hb md_T_fillNumber_58 (by decide) (fun c2 => ?_) (fun c2 => ?_)
        · refine lv_iload hx hb md_T_fillNumber_72 (lv_at hl 4 rfl) ?_
          have hPc3 := hP.sub (ws' := []) [] rfl
          refine pu_i (W.runS (As := [.int start]) (rest := []) ⟨hx, hb, hml, hown, hg⟩ (ct_T_fault l dC dI cC cI cJ start) (gw_cwS hg wd_141 mv_T_fault rfl rfl ⟨Nat.le_of_ble_eq_true rfl, Nat.le_of_ble_eq_true rfl⟩) (pu_preS pu_blT hK hPc3 pu_e1) rfl rfl hl.1 rfl (lv_room (Nat.le_of_ble_eq_true rfl)) md_T_fillNumber_74 ⟨Nat.zero_le _, Nat.zero_le _⟩) ?_
          exact W.iret (v := fT_fault start) hx hb hr (fun t ht hW => ⟨⟨fT_fault start, (tn), rfl, (by rw [hv, gT_fillNumber, if_pos c1, if_pos c2]), by have h9 := hP; rw [← ht] at h9; exact h9⟩, hS.F ht⟩) hS.2.2 md_T_fillNumber_77 hlocks
        · refine lv_aload_n hx hb md_T_fillNumber_61 rfl (lv_at hl 0 rfl) ?_
          refine lv_iload_n hx hb md_T_fillNumber_62 rfl (lv_at hl 2 rfl) ?_
          refine lv_iload_n hx hb md_T_fillNumber_63 rfl (lv_at hl 3 rfl) ?_
          refine lv_iload hx hb md_T_fillNumber_64 (lv_at hl 5 rfl) ?_
          have hPc4 := hP.sub (ws' := [(tA, .inr (2, [.ref tL, .ref tN, .ref tS, .int tz])), (tL, .inl (cC, 16, .inl tl)), (tN, .inl (cI, 96, .inl tn)), (tS, .inl (cI, 16, .inl ts))]) [0, 1, 2, 3] rfl
          refine pu_i (W.runV (As := [.int row, .int k, .int value]) (rest := []) ⟨hx, hb, hml, hown, hg⟩ (ct_T_mayStand l dC dI cC cI cJ tA tL tN tS tl tn ts tz row k value hrow hmk) (gw_cwV hg wd_158 mv_T_mayStand rfl rfl ⟨Nat.le_of_ble_eq_true rfl, Nat.le_of_ble_eq_true rfl⟩) (pu_preV (ci := 2) (q0 := 0) pu_blT hK hPc4 pu_e1 rfl rfl) rfl rfl hl.1 rfl (lv_room (Nat.le_of_ble_eq_true rfl)) md_T_fillNumber_66 ⟨Nat.zero_le _, Nat.zero_le _⟩) ?_
          refine lv_if_ne (tgt := 78) hx hb md_T_fillNumber_69 (by decide) (fun c5 => ?_) (fun c5 => ?_)
          · refine lv_aload_n hx hb md_T_fillNumber_78 rfl (lv_at hl 0 rfl) ?_
            refine va_get (D := (dC, dI)) (ci := 2) (v := .ref tN) (C := mR_T) (T := mT_T) (N := 4) hx hb hg gu_T hown hK hP 0 rfl rfl 1 (by decide) (hg _ wd_84) (fun _ h9 => h9) rfl md_T_fillNumber_79 ?_
            refine lv_iload_n hx hb md_T_fillNumber_82 rfl (lv_at hl 2 rfl) ?_
            refine lv_bipush (v := 6) hx hb md_T_fillNumber_83 (by decide) ?_
            refine lv_imul hx hb md_T_fillNumber_85 ?_
            refine lv_iload_n hx hb md_T_fillNumber_86 rfl (lv_at hl 3 rfl) ?_
            refine lv_iadd hx hb md_T_fillNumber_87 ?_
            refine lv_iload hx hb md_T_fillNumber_88 (lv_at hl 5 rfl) ?_
            refine va_iast hx hb hK hP hD hS 2 1 rfl rfl hi md_T_fillNumber_90 (fun H locs hP hD hS => ?_)
            have hP : va_P (dC, dI) mC [(tA, .inr (2, [.ref tL, .ref tN, .ref tS, .int tz])), (tL, .inl (cC, 16, .inl tl)), (tN, .inl (cI, 96, .inl (upd tn (Int32.toNatClampNeg ((row * 6) + k)) value))), (tS, .inl (cI, 16, .inl ts)), (xA, .inr (3, [.ref xL, .int xz])), (xL, .inl (cC, 300, .inl xl))] H := hP
            have hD : va_D A [(tA, .inr (2, [.ref tL, .ref tN, .ref tS, .int tz])), (tL, .inl (cC, 16, .inl tl)), (tN, .inl (cI, 96, .inl (upd tn (Int32.toNatClampNeg ((row * 6) + k)) value))), (tS, .inl (cI, 16, .inl ts)), (xA, .inr (3, [.ref xL, .int xz])), (xL, .inl (cC, 300, .inl xl))] := hD
            refine lv_iload hx hb md_T_fillNumber_91 (lv_at hl 6 rfl) ?_
            exact W.iret (v := pos) hx hb hr (fun t ht hW => ⟨⟨pos, (upd tn (Int32.toNatClampNeg ((row * 6) + k)) value), rfl, (by rw [hv, gT_fillNumber, if_pos c1, if_neg c2, if_neg c5]), by have h9 := hP; rw [← ht] at h9; exact h9⟩, hS.F ht⟩) hS.2.2 md_T_fillNumber_93 hlocks
          · refine lv_iload hx hb md_T_fillNumber_72 (lv_at hl 4 rfl) ?_
            have hPc6 := hP.sub (ws' := []) [] rfl
            refine pu_i (W.runS (As := [.int start]) (rest := []) ⟨hx, hb, hml, hown, hg⟩ (ct_T_fault l dC dI cC cI cJ start) (gw_cwS hg wd_141 mv_T_fault rfl rfl ⟨Nat.le_of_ble_eq_true rfl, Nat.le_of_ble_eq_true rfl⟩) (pu_preS pu_blT hK hPc6 pu_e1) rfl rfl hl.1 rfl (lv_room (Nat.le_of_ble_eq_true rfl)) md_T_fillNumber_74 ⟨Nat.zero_le _, Nat.zero_le _⟩) ?_
            exact W.iret (v := fT_fault start) hx hb hr (fun t ht hW => ⟨⟨fT_fault start, (tn), rfl, (by rw [hv, gT_fillNumber, if_pos c1, if_neg c2, if_pos c5]), by have h9 := hP; rw [← ht] at h9; exact h9⟩, hS.F ht⟩) hS.2.2 md_T_fillNumber_77 hlocks
      · have hlt : dg < 5 := nx_lt (a := dg) (b := 5) (by omega) (by omega) c1
        refine lv_aload_n hx hb md_T_fillNumber_16 rfl (lv_at hl 1 rfl) ?_
        refine lv_iload hx hb md_T_fillNumber_17 (lv_at hl 6 rfl) ?_
        have hPc7 := hP.sub (ws' := [(xA, .inr (3, [.ref xL, .int xz])), (xL, .inl (cC, 300, .inl xl))]) [4, 5] rfl
        refine pu_i (W.runV (As := [.int pos]) (rest := []) ⟨hx, hb, hml, hown, hg⟩ (ct_S_at l dC dI cC cI cJ xA xL xl xz pos (hxp _) hch) (gw_cwV hg wd_137 mv_S_at rfl rfl ⟨Nat.le_of_ble_eq_true rfl, Nat.le_of_ble_eq_true rfl⟩) (pu_preV (ci := 3) (q0 := 0) pu_blT hK hPc7 pu_e1 rfl rfl) rfl rfl hl.1 rfl (lv_room (Nat.le_of_ble_eq_true rfl)) md_T_fillNumber_19 ⟨Nat.zero_le _, Nat.zero_le _⟩) ?_
        have hPc8 := hP.sub (ws' := []) [] rfl
        refine pu_i (W.runS (As := [.int (fS_at xl xz pos)]) (rest := []) ⟨hx, hb, hml, hown, hg⟩ (ct_T_isDigit l dC dI cC cI cJ (fS_at xl xz pos)) (gw_cwS hg wd_155 mv_T_isDigit rfl rfl ⟨Nat.le_of_ble_eq_true rfl, Nat.le_of_ble_eq_true rfl⟩) (pu_preS pu_blT hK hPc8 pu_e1) rfl rfl hl.1 rfl (lv_room (Nat.le_of_ble_eq_true rfl)) md_T_fillNumber_22 ⟨Nat.zero_le _, Nat.zero_le _⟩) ?_
        refine lv_if_eq (tgt := 54) hx hb md_T_fillNumber_25 (by decide) (fun c9 => ?_) (fun c9 => ?_)
        · refine lv_iload hx hb md_T_fillNumber_54 (lv_at hl 6 rfl) ?_
          refine lv_iload hx hb md_T_fillNumber_56 (lv_at hl 4 rfl) ?_
          refine lv_icmp_eq (tgt := 72) hx hb md_T_fillNumber_58 (by decide) (fun c10 => ?_) (fun c10 => ?_)
          · refine lv_iload hx hb md_T_fillNumber_72 (lv_at hl 4 rfl) ?_
            have hPc11 := hP.sub (ws' := []) [] rfl
            refine pu_i (W.runS (As := [.int start]) (rest := []) ⟨hx, hb, hml, hown, hg⟩ (ct_T_fault l dC dI cC cI cJ start) (gw_cwS hg wd_141 mv_T_fault rfl rfl ⟨Nat.le_of_ble_eq_true rfl, Nat.le_of_ble_eq_true rfl⟩) (pu_preS pu_blT hK hPc11 pu_e1) rfl rfl hl.1 rfl (lv_room (Nat.le_of_ble_eq_true rfl)) md_T_fillNumber_74 ⟨Nat.zero_le _, Nat.zero_le _⟩) ?_
            exact W.iret (v := fT_fault start) hx hb hr (fun t ht hW => ⟨⟨fT_fault start, (tn), rfl, (by rw [hv, gT_fillNumber, if_neg c1, if_pos c9, if_pos c10]), by have h9 := hP; rw [← ht] at h9; exact h9⟩, hS.F ht⟩) hS.2.2 md_T_fillNumber_77 hlocks
          · refine lv_aload_n hx hb md_T_fillNumber_61 rfl (lv_at hl 0 rfl) ?_
            refine lv_iload_n hx hb md_T_fillNumber_62 rfl (lv_at hl 2 rfl) ?_
            refine lv_iload_n hx hb md_T_fillNumber_63 rfl (lv_at hl 3 rfl) ?_
            refine lv_iload hx hb md_T_fillNumber_64 (lv_at hl 5 rfl) ?_
            have hPc12 := hP.sub (ws' := [(tA, .inr (2, [.ref tL, .ref tN, .ref tS, .int tz])), (tL, .inl (cC, 16, .inl tl)), (tN, .inl (cI, 96, .inl tn)), (tS, .inl (cI, 16, .inl ts))]) [0, 1, 2, 3] rfl
            refine pu_i (W.runV (As := [.int row, .int k, .int value]) (rest := []) ⟨hx, hb, hml, hown, hg⟩ (ct_T_mayStand l dC dI cC cI cJ tA tL tN tS tl tn ts tz row k value hrow hmk) (gw_cwV hg wd_158 mv_T_mayStand rfl rfl ⟨Nat.le_of_ble_eq_true rfl, Nat.le_of_ble_eq_true rfl⟩) (pu_preV (ci := 2) (q0 := 0) pu_blT hK hPc12 pu_e1 rfl rfl) rfl rfl hl.1 rfl (lv_room (Nat.le_of_ble_eq_true rfl)) md_T_fillNumber_66 ⟨Nat.zero_le _, Nat.zero_le _⟩) ?_
            refine lv_if_ne (tgt := 78) hx hb md_T_fillNumber_69 (by decide) (fun c13 => ?_) (fun c13 => ?_)
            · refine lv_aload_n hx hb md_T_fillNumber_78 rfl (lv_at hl 0 rfl) ?_
              refine va_get (D := (dC, dI)) (ci := 2) (v := .ref tN) (C := mR_T) (T := mT_T) (N := 4) hx hb hg gu_T hown hK hP 0 rfl rfl 1 (by decide) (hg _ wd_84) (fun _ h9 => h9) rfl md_T_fillNumber_79 ?_
              refine lv_iload_n hx hb md_T_fillNumber_82 rfl (lv_at hl 2 rfl) ?_
              refine lv_bipush (v := 6) hx hb md_T_fillNumber_83 (by decide) ?_
              refine lv_imul hx hb md_T_fillNumber_85 ?_
              refine lv_iload_n hx hb md_T_fillNumber_86 rfl (lv_at hl 3 rfl) ?_
              refine lv_iadd hx hb md_T_fillNumber_87 ?_
              refine lv_iload hx hb md_T_fillNumber_88 (lv_at hl 5 rfl) ?_
              refine va_iast hx hb hK hP hD hS 2 1 rfl rfl hi md_T_fillNumber_90 (fun H locs hP hD hS => ?_)
              have hP : va_P (dC, dI) mC [(tA, .inr (2, [.ref tL, .ref tN, .ref tS, .int tz])), (tL, .inl (cC, 16, .inl tl)), (tN, .inl (cI, 96, .inl (upd tn (Int32.toNatClampNeg ((row * 6) + k)) value))), (tS, .inl (cI, 16, .inl ts)), (xA, .inr (3, [.ref xL, .int xz])), (xL, .inl (cC, 300, .inl xl))] H := hP
              have hD : va_D A [(tA, .inr (2, [.ref tL, .ref tN, .ref tS, .int tz])), (tL, .inl (cC, 16, .inl tl)), (tN, .inl (cI, 96, .inl (upd tn (Int32.toNatClampNeg ((row * 6) + k)) value))), (tS, .inl (cI, 16, .inl ts)), (xA, .inr (3, [.ref xL, .int xz])), (xL, .inl (cC, 300, .inl xl))] := hD
              refine lv_iload hx hb md_T_fillNumber_91 (lv_at hl 6 rfl) ?_
              exact W.iret (v := pos) hx hb hr (fun t ht hW => ⟨⟨pos, (upd tn (Int32.toNatClampNeg ((row * 6) + k)) value), rfl, (by rw [hv, gT_fillNumber, if_neg c1, if_pos c9, if_neg c10, if_neg c13]), by have h9 := hP; rw [← ht] at h9; exact h9⟩, hS.F ht⟩) hS.2.2 md_T_fillNumber_93 hlocks
            · refine lv_iload hx hb md_T_fillNumber_72 (lv_at hl 4 rfl) ?_
              have hPc14 := hP.sub (ws' := []) [] rfl
              refine pu_i (W.runS (As := [.int start]) (rest := []) ⟨hx, hb, hml, hown, hg⟩ (ct_T_fault l dC dI cC cI cJ start) (gw_cwS hg wd_141 mv_T_fault rfl rfl ⟨Nat.le_of_ble_eq_true rfl, Nat.le_of_ble_eq_true rfl⟩) (pu_preS pu_blT hK hPc14 pu_e1) rfl rfl hl.1 rfl (lv_room (Nat.le_of_ble_eq_true rfl)) md_T_fillNumber_74 ⟨Nat.zero_le _, Nat.zero_le _⟩) ?_
              exact W.iret (v := fT_fault start) hx hb hr (fun t ht hW => ⟨⟨fT_fault start, (tn), rfl, (by rw [hv, gT_fillNumber, if_neg c1, if_pos c9, if_neg c10, if_pos c13]), by have h9 := hP; rw [← ht] at h9; exact h9⟩, hS.F ht⟩) hS.2.2 md_T_fillNumber_77 hlocks
        · refine lv_bipush (v := 10) hx hb md_T_fillNumber_28 (by decide) ?_
          refine lv_iload hx hb md_T_fillNumber_30 (lv_at hl 5 rfl) ?_
          refine lv_imul hx hb md_T_fillNumber_32 ?_
          refine lv_aload_n hx hb md_T_fillNumber_33 rfl (lv_at hl 1 rfl) ?_
          refine lv_iload hx hb md_T_fillNumber_34 (lv_at hl 6 rfl) ?_
          have hPc15 := hP.sub (ws' := [(xA, .inr (3, [.ref xL, .int xz])), (xL, .inl (cC, 300, .inl xl))]) [4, 5] rfl
          refine pu_i (W.runV (As := [.int pos]) (rest := [.int (10 * value)]) ⟨hx, hb, hml, hown, hg⟩ (ct_S_at l dC dI cC cI cJ xA xL xl xz pos (hxp _) hch) (gw_cwV hg wd_137 mv_S_at rfl rfl ⟨Nat.le_of_ble_eq_true rfl, Nat.le_of_ble_eq_true rfl⟩) (pu_preV (ci := 3) (q0 := 0) pu_blT hK hPc15 pu_e1 rfl rfl) rfl rfl hl.1 rfl (lv_room (Nat.le_of_ble_eq_true rfl)) md_T_fillNumber_36 ⟨Nat.zero_le _, Nat.zero_le _⟩) ?_
          refine lv_bipush (v := 48) hx hb md_T_fillNumber_39 (by decide) ?_
          refine lv_isub hx hb md_T_fillNumber_41 ?_
          refine lv_iadd hx hb md_T_fillNumber_42 ?_
          refine lv_istore (lv' := [(5, .int ((10 * value) + ((fS_at xl xz pos) - 48))), (0, .ref tA), (1, .ref xA), (2, .int row), (3, .int k), (4, .int start), (6, .int pos), (7, .int (nI dg))]) hx hb md_T_fillNumber_43 hl (by decide) rfl (fun ls hl => ?_)
          refine lv_iinc (v := pos + 1) (lv' := [(6, .int (pos + 1)), (5, .int ((10 * value) + ((fS_at xl xz pos) - 48))), (0, .ref tA), (1, .ref xA), (2, .int row), (3, .int k), (4, .int start), (7, .int (nI dg))]) hx hb md_T_fillNumber_45 hl (k := 6) rfl rfl (by decide) rfl (fun ls hl => ?_)
          refine lv_iinc (v := nI (dg + 1)) (lv' := [(7, .int (nI (dg + 1))), (6, .int (pos + 1)), (5, .int ((10 * value) + ((fS_at xl xz pos) - 48))), (0, .ref tA), (1, .ref xA), (2, .int row), (3, .int k), (4, .int start)]) hx hb md_T_fillNumber_48 hl (k := 7) rfl (by rw [nI_succ]; rfl) (by decide) rfl (fun ls hl => ?_)
          refine lv_goto (tgt := 10) hx hb md_T_fillNumber_51 (by decide) ?_
          exact ih ((10 * value) + ((fS_at xl xz pos) - 48)) (pos + 1) (dg + 1) _ _ ls (by omega) (by omega) (by rw [hv, gT_fillNumber, if_neg c1, if_neg c9]) hP hD hS (lv_sub hl [3, 4, 5, 6, 7, 2, 1, 0] rfl)
  refine lv_iconst (v := 0) hx hb md_T_fillNumber_0 (by decide) ?_
  refine lv_istore (lv' := [(5, .int 0), (0, .ref tA), (1, .ref xA), (2, .int row), (3, .int k), (4, .int start)]) hx hb md_T_fillNumber_1 hl (by decide) rfl (fun ls hl => ?_)
  refine lv_iload hx hb md_T_fillNumber_3 (lv_at hl 5 rfl) ?_
  refine lv_istore (lv' := [(6, .int start), (5, .int 0), (0, .ref tA), (1, .ref xA), (2, .int row), (3, .int k), (4, .int start)]) hx hb md_T_fillNumber_5 hl (by decide) rfl (fun ls hl => ?_)
  refine lv_iconst (v := 0) hx hb md_T_fillNumber_7 (by decide) ?_
  refine lv_istore (lv' := [(7, .int 0), (6, .int start), (5, .int 0), (0, .ref tA), (1, .ref xA), (2, .int row), (3, .int k), (4, .int start)]) hx hb md_T_fillNumber_8 hl (by decide) rfl (fun ls hl => ?_)
  exact loop 6 0 start 0 _ _ ls (by omega) (by omega) (by rw [fT_fillNumber]) hP hD hS (lv_sub hl [3, 4, 5, 6, 7, 2, 1, 0] rfl)
