def fM_isIn (v0 : Int64) (lo : Int64) (hi : Int64) : Int32 := if v0 < lo then 0 else (if hi < v0 then 0 else 1)
theorem zM_isIn (v0 : Int64) (lo : Int64) (hi : Int64) : narrow .boolean (.int (fM_isIn v0 lo hi)) = .int (fM_isIn v0 lo hi) := by
  unfold fM_isIn
  repeat' split
  all_goals first | rfl | exact zK_isWithin _ _ _
set_option maxHeartbeats 1000000 in
set_option maxRecDepth 100000 in
theorem ct_M_isIn (l : Launch) (dC : Nat → ClassId) (dI : Nat → Nat → Nat) (cC cI cJ : ClassId)  (v0 : Int64) (lo : Int64) (hi : Int64)  : Met l my_M_isIn (.code my_M_isIn mb_M_isIn 6 (some .boolean) :: gw_l) ({ frames := 0, cells := 0, slots := 0, locals := 0 }) (pu_Pc (dC, dI) mC [(cC, .char), (cI, .int), (cJ, .long)] [] (fun _ => True) [.long v0, .long lo, .long hi]) (vp_Si (fun r => r = fM_isIn v0 lo hi)) 0 0 (fun _ => False) := by
  refine Met.ofW (cc := mb_M_isIn) (maxL := 6) (ret := (some .boolean)) (by decide) rfl ?_
  intro p e s m args below meth c s₁ B hml hv
  obtain ⟨rfl, hP, hK, hE⟩ := hv
  have hx := B.exec
  have hb := B.bytes
  have hr := B.returns
  have hts := atoms_spec (ws := (.code my_M_isIn mb_M_isIn 6 (some .boolean) :: gw_l)) B.pre
  have hg : ∀ w ∈ gw_l, w.before _ s = true := fun w h => hts w (List.mem_cons_of_mem _ h)
  have hown : s.vm.findClass mR_M = some m.cls := findClass_of_methodNamed B.named
  have hlocks := B.notSynchronized
  have hl := lv_entry ([.long v0, .long lo, .long hi]) (n := 6) (Nat.le_of_ble_eq_true rfl)
  rw [lg_entry_eq]
  generalize (lg_sl ([.long v0, .long lo, .long hi]) ++ List.replicate (6 - (lg_sl ([.long v0, .long lo, .long hi])).length) Slot.unset).toArray = ls at hl ⊢
  have hl : lv_has ls 6 [(0, .long v0), (2, .long lo), (4, .long hi)] := hl
  refine lv_lload_n hx hb md_M_isIn_0 rfl (lv_at hl 0 rfl) ?_
  refine lv_lload_n hx hb md_M_isIn_1 rfl (lv_at hl 1 rfl) ?_
  refine lx_lt (tgt := 17) hx hb md_M_isIn_2 md_M_isIn_3 (by decide) (fun c1 => ?_) (fun c1 => ?_)
  · refine lv_iconst (v := 0) hx hb md_M_isIn_17 (by decide) ?_
    exact pu_zret hx hb hr hlocks rfl md_M_isIn_18 (by rw [fM_isIn, if_pos c1])
  · refine lv_lload_n hx hb md_M_isIn_6 rfl (lv_at hl 0 rfl) ?_
    refine lv_lload hx hb md_M_isIn_7 (lv_at hl 2 rfl) ?_
    refine lx_gt (tgt := 17) hx hb md_M_isIn_9 md_M_isIn_10 (by decide) (fun c2 => ?_) (fun c2 => ?_)
    · refine lv_iconst (v := 0) hx hb md_M_isIn_17 (by decide) ?_
      exact pu_zret hx hb hr hlocks rfl md_M_isIn_18 (by rw [fM_isIn, if_neg c1, if_pos c2])
    · refine lv_iconst (v := 1) hx hb md_M_isIn_13 (by decide) ?_
      refine lv_goto (tgt := 18) hx hb md_M_isIn_14 (by decide) ?_
      exact pu_zret hx hb hr hlocks rfl md_M_isIn_18 (by rw [fM_isIn, if_neg c1, if_neg c2])

def fM_isSize (v0 : Int64) : Int32 := if v0 < 1 then 0 else (if 10000 < v0 then 0 else 1)
theorem zM_isSize (v0 : Int64) : narrow .boolean (.int (fM_isSize v0)) = .int (fM_isSize v0) := by
  unfold fM_isSize
  repeat' split
  all_goals first | rfl | exact zK_isWithin _ _ _
set_option maxHeartbeats 1000000 in
set_option maxRecDepth 100000 in
theorem ct_M_isSize (l : Launch) (dC : Nat → ClassId) (dI : Nat → Nat → Nat) (cC cI cJ : ClassId)  (v0 : Int64)  : Met l my_M_isSize (.code my_M_isSize mb_M_isSize 2 (some .boolean) :: gw_l) ({ frames := 0, cells := 0, slots := 0, locals := 0 }) (pu_Pc (dC, dI) mC [(cC, .char), (cI, .int), (cJ, .long)] [] (fun _ => True) [.long v0]) (vp_Si (fun r => r = fM_isSize v0)) 0 0 (fun _ => False) := by
  refine Met.ofW (cc := mb_M_isSize) (maxL := 2) (ret := (some .boolean)) (by decide) rfl ?_
  intro p e s m args below meth c s₁ B hml hv
  obtain ⟨rfl, hP, hK, hE⟩ := hv
  have hx := B.exec
  have hb := B.bytes
  have hr := B.returns
  have hts := atoms_spec (ws := (.code my_M_isSize mb_M_isSize 2 (some .boolean) :: gw_l)) B.pre
  have hg : ∀ w ∈ gw_l, w.before _ s = true := fun w h => hts w (List.mem_cons_of_mem _ h)
  have hown : s.vm.findClass mR_M = some m.cls := findClass_of_methodNamed B.named
  have hlocks := B.notSynchronized
  have hl := lv_entry ([.long v0]) (n := 2) (Nat.le_of_ble_eq_true rfl)
  rw [lg_entry_eq]
  generalize (lg_sl ([.long v0]) ++ List.replicate (2 - (lg_sl ([.long v0])).length) Slot.unset).toArray = ls at hl ⊢
  have hl : lv_has ls 2 [(0, .long v0)] := hl
  refine lv_lload_n hx hb md_M_isSize_0 rfl (lv_at hl 0 rfl) ?_
  refine lv_lconst (v := 1) hx hb md_M_isSize_1 (by decide) ?_
  refine lx_lt (tgt := 18) hx hb md_M_isSize_2 md_M_isSize_3 (by decide) (fun c1 => ?_) (fun c1 => ?_)
  · refine lv_iconst (v := 0) hx hb md_M_isSize_18 (by decide) ?_
    exact pu_zret hx hb hr hlocks rfl md_M_isSize_19 (by rw [fM_isSize, if_pos c1])
  · refine lv_lload_n hx hb md_M_isSize_6 rfl (lv_at hl 0 rfl) ?_
    refine lv_ldc2 hx hb hown (hg _ wd_667) md_M_isSize_7 ?_
    refine lx_gt (tgt := 18) hx hb md_M_isSize_10 md_M_isSize_11 (by decide) (fun c2 => ?_) (fun c2 => ?_)
    · refine lv_iconst (v := 0) hx hb md_M_isSize_18 (by decide) ?_
      exact pu_zret hx hb hr hlocks rfl md_M_isSize_19 (by rw [fM_isSize, if_neg c1, if_pos c2])
    · refine lv_iconst (v := 1) hx hb md_M_isSize_14 (by decide) ?_
      refine lv_goto (tgt := 19) hx hb md_M_isSize_15 (by decide) ?_
      exact pu_zret hx hb hr hlocks rfl md_M_isSize_19 (by rw [fM_isSize, if_neg c1, if_neg c2])

def fM_sizeOf (letter : Int32) : Int32 := if letter = 104 then 6 else (if letter = 115 then 2 else (if letter = 99 then 3 else 0))
set_option maxHeartbeats 1000000 in
set_option maxRecDepth 100000 in
theorem ct_M_sizeOf (l : Launch) (dC : Nat → ClassId) (dI : Nat → Nat → Nat) (cC cI cJ : ClassId)  (letter : Int32)  : Met l my_M_sizeOf (.code my_M_sizeOf mb_M_sizeOf 1 (some .int) :: gw_l) ({ frames := 0, cells := 0, slots := 0, locals := 0 }) (pu_Pc (dC, dI) mC [(cC, .char), (cI, .int), (cJ, .long)] [] (fun _ => True) [.int letter]) (vp_Si (fun r => r = fM_sizeOf letter)) 0 0 (fun _ => False) := by
  refine Met.ofW (cc := mb_M_sizeOf) (maxL := 1) (ret := (some .int)) (by decide) rfl ?_
  intro p e s m args below meth c s₁ B hml hv
  obtain ⟨rfl, hP, hK, hE⟩ := hv
  have hx := B.exec
  have hb := B.bytes
  have hr := B.returns
  have hts := atoms_spec (ws := (.code my_M_sizeOf mb_M_sizeOf 1 (some .int) :: gw_l)) B.pre
  have hg : ∀ w ∈ gw_l, w.before _ s = true := fun w h => hts w (List.mem_cons_of_mem _ h)
  have hown : s.vm.findClass mR_M = some m.cls := findClass_of_methodNamed B.named
  have hlocks := B.notSynchronized
  have hl := lv_entry ([.int letter]) (n := 1) (Nat.le_of_ble_eq_true rfl)
  rw [lg_entry_eq]
  generalize (lg_sl ([.int letter]) ++ List.replicate (1 - (lg_sl ([.int letter])).length) Slot.unset).toArray = ls at hl ⊢
  have hl : lv_has ls 1 [(0, .int letter)] := hl
  refine lv_iload_n hx hb md_M_sizeOf_0 rfl (lv_at hl 0 rfl) ?_
  refine lv_bipush (v := 104) hx hb md_M_sizeOf_1 (by decide) ?_
  refine lv_icmp_ne (tgt := 11) hx hb md_M_sizeOf_3 (by decide) (fun c1 => ?_) (fun c1 => ?_)
  · refine lv_iload_n hx hb md_M_sizeOf_11 rfl (lv_at hl 0 rfl) ?_
    refine lv_bipush (v := 115) hx hb md_M_sizeOf_12 (by decide) ?_
    refine lv_icmp_ne (tgt := 21) hx hb md_M_sizeOf_14 (by decide) (fun c2 => ?_) (fun c2 => ?_)
    · refine lv_iload_n hx hb md_M_sizeOf_21 rfl (lv_at hl 0 rfl) ?_
      refine lv_bipush (v := 99) hx hb md_M_sizeOf_22 (by decide) ?_
      refine lv_icmp_ne (tgt := 31) hx hb md_M_sizeOf_24 (by decide) (fun c3 => ?_) (fun c3 => ?_)
      · refine lv_iconst (v := 0) hx hb md_M_sizeOf_31 (by decide) ?_
        exact pu_iret hx hb hr hlocks md_M_sizeOf_32 (by rw [fM_sizeOf, if_neg c1, if_neg c2, if_neg c3])
      · refine lv_iconst (v := 3) hx hb md_M_sizeOf_27 (by decide) ?_
        refine lv_goto (tgt := 32) hx hb md_M_sizeOf_28 (by decide) ?_
        exact pu_iret hx hb hr hlocks md_M_sizeOf_32 (by rw [fM_sizeOf, if_neg c1, if_neg c2, if_pos c3])
    · refine lv_iconst (v := 2) hx hb md_M_sizeOf_17 (by decide) ?_
      refine lv_goto (tgt := 32) hx hb md_M_sizeOf_18 (by decide) ?_
      exact pu_iret hx hb hr hlocks md_M_sizeOf_32 (by rw [fM_sizeOf, if_neg c1, if_pos c2])
  · refine lv_bipush (v := 6) hx hb md_M_sizeOf_6 (by decide) ?_
    refine lv_goto (tgt := 32) hx hb md_M_sizeOf_8 (by decide) ?_
    exact pu_iret hx hb hr hlocks md_M_sizeOf_32 (by rw [fM_sizeOf, if_pos c1])

def fM_thrown (vc : Int32) : Int32 := vc
set_option maxHeartbeats 1000000 in
set_option maxRecDepth 100000 in
theorem ct_M_thrown (l : Launch) (dC : Nat → ClassId) (dI : Nat → Nat → Nat) (cC cI cJ : ClassId) (nA : Nat) (nT : Nat) (nO : Nat) (nU : Nat) (nV : Nat) (nX : Nat) (nY : Nat) (nR : Nat) (nC : Nat) (nS : Nat) (gT : Nat → Int32) (gO : Nat → Int32) (gU : Nat → Int32) (gV : Nat → Int32) (gX : Nat → Int64) (gY : Nat → Int64) (gR : Nat → Int64) (gC : Nat → Int32) (gS : Nat → Int32) (vc : Int32) (vs : Int32) (va : Int32) (vf : Int32) (vr : Int32) (vw : Int64) (vh : Int64) (vt : Int64) (vd : Int64)   : Met l my_M_thrown (.code my_M_thrown mb_M_thrown 1 (some .int) :: gw_l) ({ frames := 0, cells := 0, slots := 0, locals := 0 }) (pu_Pc (dC, dI) mC [(cC, .char), (cI, .int), (cJ, .long)] [(nA, .inr (5, [.int vc, .ref nT, .int vs, .int va, .int vf, .int vr, .ref nO, .ref nU, .ref nV, .long vw, .long vh, .long vt, .long vd, .ref nX, .ref nY, .ref nR, .ref nC, .ref nS])), (nT, .inl (cI, 300, .inl gT)), (nO, .inl (cI, 128, .inl gO)), (nU, .inl (cI, 128, .inl gU)), (nV, .inl (cI, 16, .inl gV)), (nX, .inl (cJ, 16, .inr (.inl gX))), (nY, .inl (cJ, 16, .inr (.inl gY))), (nR, .inl (cJ, 16, .inr (.inl gR))), (nC, .inl (cI, 9, .inl gC)), (nS, .inl (cI, 9, .inl gS))] (fun _ => True) [.ref nA]) (vp_Si (fun r => r = fM_thrown vc)) 0 0 (fun _ => False) := by
  refine Met.ofW (cc := mb_M_thrown) (maxL := 1) (ret := (some .int)) (by decide) rfl ?_
  intro p e s m args below meth c s₁ B hml hv
  obtain ⟨rfl, hP, hK, hE⟩ := hv
  have hx := B.exec
  have hb := B.bytes
  have hr := B.returns
  have hts := atoms_spec (ws := (.code my_M_thrown mb_M_thrown 1 (some .int) :: gw_l)) B.pre
  have hg : ∀ w ∈ gw_l, w.before _ s = true := fun w h => hts w (List.mem_cons_of_mem _ h)
  have hown : s.vm.findClass mR_M = some m.cls := findClass_of_methodNamed B.named
  have hlocks := B.notSynchronized
  have hl := lv_entry ([.ref nA]) (n := 1) (Nat.le_of_ble_eq_true rfl)
  rw [lg_entry_eq]
  generalize (lg_sl ([.ref nA]) ++ List.replicate (1 - (lg_sl ([.ref nA])).length) Slot.unset).toArray = ls at hl ⊢
  have hl : lv_has ls 1 [(0, .ref nA)] := hl
  refine lv_aload_n hx hb md_M_thrown_0 rfl (lv_at hl 0 rfl) ?_
  refine va_get (D := (dC, dI)) (ci := 5) (v := .int vc) (C := mR_M) (T := mT_M) (N := 18) hx hb hg gu_M hown hK hP 0 rfl rfl 0 (by decide) (hg _ wd_532) (fun _ h9 => h9) rfl md_M_thrown_1 ?_
  exact pu_iret hx hb hr hlocks md_M_thrown_4 rfl

def fM_here (gT : Nat → Int32) (vs : Int32) (va : Int32) : Int32 := if vs ≤ va then (-1) else (gT (Int32.toNatClampNeg va))
set_option maxHeartbeats 1000000 in
set_option maxRecDepth 100000 in
theorem ct_M_here (l : Launch) (dC : Nat → ClassId) (dI : Nat → Nat → Nat) (cC cI cJ : ClassId) (nA : Nat) (nT : Nat) (nO : Nat) (nU : Nat) (nV : Nat) (nX : Nat) (nY : Nat) (nR : Nat) (nC : Nat) (nS : Nat) (gT : Nat → Int32) (gO : Nat → Int32) (gU : Nat → Int32) (gV : Nat → Int32) (gX : Nat → Int64) (gY : Nat → Int64) (gR : Nat → Int64) (gC : Nat → Int32) (gS : Nat → Int32) (vc : Int32) (vs : Int32) (va : Int32) (vf : Int32) (vr : Int32) (vw : Int64) (vh : Int64) (vt : Int64) (vd : Int64)  (hin : ¬ vs ≤ va → vp_in va 300) : Met l my_M_here (.code my_M_here mb_M_here 1 (some .int) :: gw_l) ({ frames := 0, cells := 0, slots := 0, locals := 0 }) (pu_Pc (dC, dI) mC [(cC, .char), (cI, .int), (cJ, .long)] [(nA, .inr (5, [.int vc, .ref nT, .int vs, .int va, .int vf, .int vr, .ref nO, .ref nU, .ref nV, .long vw, .long vh, .long vt, .long vd, .ref nX, .ref nY, .ref nR, .ref nC, .ref nS])), (nT, .inl (cI, 300, .inl gT)), (nO, .inl (cI, 128, .inl gO)), (nU, .inl (cI, 128, .inl gU)), (nV, .inl (cI, 16, .inl gV)), (nX, .inl (cJ, 16, .inr (.inl gX))), (nY, .inl (cJ, 16, .inr (.inl gY))), (nR, .inl (cJ, 16, .inr (.inl gR))), (nC, .inl (cI, 9, .inl gC)), (nS, .inl (cI, 9, .inl gS))] (fun _ => True) [.ref nA]) (vp_Si (fun r => r = fM_here gT vs va)) 0 0 (fun _ => False) := by
  refine Met.ofW (cc := mb_M_here) (maxL := 1) (ret := (some .int)) (by decide) rfl ?_
  intro p e s m args below meth c s₁ B hml hv
  obtain ⟨rfl, hP, hK, hE⟩ := hv
  have hx := B.exec
  have hb := B.bytes
  have hr := B.returns
  have hts := atoms_spec (ws := (.code my_M_here mb_M_here 1 (some .int) :: gw_l)) B.pre
  have hg : ∀ w ∈ gw_l, w.before _ s = true := fun w h => hts w (List.mem_cons_of_mem _ h)
  have hown : s.vm.findClass mR_M = some m.cls := findClass_of_methodNamed B.named
  have hlocks := B.notSynchronized
  have hl := lv_entry ([.ref nA]) (n := 1) (Nat.le_of_ble_eq_true rfl)
  rw [lg_entry_eq]
  generalize (lg_sl ([.ref nA]) ++ List.replicate (1 - (lg_sl ([.ref nA])).length) Slot.unset).toArray = ls at hl ⊢
  have hl : lv_has ls 1 [(0, .ref nA)] := hl
  refine lv_aload_n hx hb md_M_here_0 rfl (lv_at hl 0 rfl) ?_
  refine va_get (D := (dC, dI)) (ci := 5) (v := .int va) (C := mR_M) (T := mT_M) (N := 18) hx hb hg gu_M hown hK hP 0 rfl rfl 3 (by decide) (hg _ wd_535) (fun _ h9 => h9) rfl md_M_here_1 ?_
  refine lv_aload_n hx hb md_M_here_4 rfl (lv_at hl 0 rfl) ?_
  refine va_get (D := (dC, dI)) (ci := 5) (v := .int vs) (C := mR_M) (T := mT_M) (N := 18) hx hb hg gu_M hown hK hP 0 rfl rfl 2 (by decide) (hg _ wd_534) (fun _ h9 => h9) rfl md_M_here_5 ?_
  refine lv_icmp_ge (tgt := 23) hx hb md_M_here_8 (by decide) (fun c1 => ?_) (fun c1 => ?_)
  · refine lv_iconst (v := (-1)) hx hb md_M_here_23 (by decide) ?_
    exact pu_iret hx hb hr hlocks md_M_here_24 (by rw [fM_here, if_pos c1])
  · refine lv_aload_n hx hb md_M_here_11 rfl (lv_at hl 0 rfl) ?_
    refine va_get (D := (dC, dI)) (ci := 5) (v := .ref nT) (C := mR_M) (T := mT_M) (N := 18) hx hb hg gu_M hown hK hP 0 rfl rfl 1 (by decide) (hg _ wd_533) (fun _ h9 => h9) rfl md_M_here_12 ?_
    refine lv_aload_n hx hb md_M_here_15 rfl (lv_at hl 0 rfl) ?_
    refine va_get (D := (dC, dI)) (ci := 5) (v := .int va) (C := mR_M) (T := mT_M) (N := 18) hx hb hg gu_M hown hK hP 0 rfl rfl 3 (by decide) (hg _ wd_535) (fun _ h9 => h9) rfl md_M_here_16 ?_
    refine va_iald hx hb hK hP 1 1 rfl rfl (hin c1) md_M_here_19 ?_
    refine lv_goto (tgt := 24) hx hb md_M_here_20 (by decide) ?_
    exact pu_iret hx hb hr hlocks md_M_here_24 (by rw [fM_here, if_neg c1])

def fM_rowCode (vr : Int32) (row : Int32) : Int32 := if vr = 0 then 1 else (if row < 0 then 2 else (if row < vr then 0 else 2))
set_option maxHeartbeats 1000000 in
set_option maxRecDepth 100000 in
theorem ct_M_rowCode (l : Launch) (dC : Nat → ClassId) (dI : Nat → Nat → Nat) (cC cI cJ : ClassId) (nA : Nat) (nT : Nat) (nO : Nat) (nU : Nat) (nV : Nat) (nX : Nat) (nY : Nat) (nR : Nat) (nC : Nat) (nS : Nat) (gT : Nat → Int32) (gO : Nat → Int32) (gU : Nat → Int32) (gV : Nat → Int32) (gX : Nat → Int64) (gY : Nat → Int64) (gR : Nat → Int64) (gC : Nat → Int32) (gS : Nat → Int32) (vc : Int32) (vs : Int32) (va : Int32) (vf : Int32) (vr : Int32) (vw : Int64) (vh : Int64) (vt : Int64) (vd : Int64) (row : Int32)  : Met l my_M_rowCode (.code my_M_rowCode mb_M_rowCode 2 (some .int) :: gw_l) ({ frames := 0, cells := 0, slots := 0, locals := 0 }) (pu_Pc (dC, dI) mC [(cC, .char), (cI, .int), (cJ, .long)] [(nA, .inr (5, [.int vc, .ref nT, .int vs, .int va, .int vf, .int vr, .ref nO, .ref nU, .ref nV, .long vw, .long vh, .long vt, .long vd, .ref nX, .ref nY, .ref nR, .ref nC, .ref nS])), (nT, .inl (cI, 300, .inl gT)), (nO, .inl (cI, 128, .inl gO)), (nU, .inl (cI, 128, .inl gU)), (nV, .inl (cI, 16, .inl gV)), (nX, .inl (cJ, 16, .inr (.inl gX))), (nY, .inl (cJ, 16, .inr (.inl gY))), (nR, .inl (cJ, 16, .inr (.inl gR))), (nC, .inl (cI, 9, .inl gC)), (nS, .inl (cI, 9, .inl gS))] (fun _ => True) [.ref nA, .int row]) (vp_Si (fun r => r = fM_rowCode vr row)) 0 0 (fun _ => False) := by
  refine Met.ofW (cc := mb_M_rowCode) (maxL := 2) (ret := (some .int)) (by decide) rfl ?_
  intro p e s m args below meth c s₁ B hml hv
  obtain ⟨rfl, hP, hK, hE⟩ := hv
  have hx := B.exec
  have hb := B.bytes
  have hr := B.returns
  have hts := atoms_spec (ws := (.code my_M_rowCode mb_M_rowCode 2 (some .int) :: gw_l)) B.pre
  have hg : ∀ w ∈ gw_l, w.before _ s = true := fun w h => hts w (List.mem_cons_of_mem _ h)
  have hown : s.vm.findClass mR_M = some m.cls := findClass_of_methodNamed B.named
  have hlocks := B.notSynchronized
  have hl := lv_entry ([.ref nA, .int row]) (n := 2) (Nat.le_of_ble_eq_true rfl)
  rw [lg_entry_eq]
  generalize (lg_sl ([.ref nA, .int row]) ++ List.replicate (2 - (lg_sl ([.ref nA, .int row])).length) Slot.unset).toArray = ls at hl ⊢
  have hl : lv_has ls 2 [(0, .ref nA), (1, .int row)] := hl
  refine lv_aload_n hx hb md_M_rowCode_0 rfl (lv_at hl 0 rfl) ?_
  refine va_get (D := (dC, dI)) (ci := 5) (v := .int vr) (C := mR_M) (T := mT_M) (N := 18) hx hb hg gu_M hown hK hP 0 rfl rfl 5 (by decide) (hg _ wd_537) (fun _ h9 => h9) rfl md_M_rowCode_1 ?_
  refine lv_if_ne (tgt := 11) hx hb md_M_rowCode_4 (by decide) (fun c1 => ?_) (fun c1 => ?_)
  · refine lv_iload_n hx hb md_M_rowCode_11 rfl (lv_at hl 1 rfl) ?_
    refine lv_if_lt (tgt := 23) hx hb md_M_rowCode_12 (by decide) (fun c2 => ?_) (fun c2 => ?_)
    · refine lv_iconst (v := 2) hx hb md_M_rowCode_23 (by decide) ?_
      refine lv_goto (tgt := 28) hx hb md_M_rowCode_24 (by decide) ?_
      exact pu_iret hx hb hr hlocks md_M_rowCode_28 (by rw [fM_rowCode, if_neg c1, if_pos c2])
    · refine lv_iload_n hx hb md_M_rowCode_15 rfl (lv_at hl 1 rfl) ?_
      refine lv_aload_n hx hb md_M_rowCode_16 rfl (lv_at hl 0 rfl) ?_
      refine va_get (D := (dC, dI)) (ci := 5) (v := .int vr) (C := mR_M) (T := mT_M) (N := 18) hx hb hg gu_M hown hK hP 0 rfl rfl 5 (by decide) (hg _ wd_537) (fun _ h9 => h9) rfl md_M_rowCode_17 ?_
      refine lv_icmp_lt (tgt := 27) hx hb md_M_rowCode_20 (by decide) (fun c3 => ?_) (fun c3 => ?_)
      · refine lv_iconst (v := 0) hx hb md_M_rowCode_27 (by decide) ?_
        exact pu_iret hx hb hr hlocks md_M_rowCode_28 (by rw [fM_rowCode, if_neg c1, if_neg c2, if_pos c3])
      · refine lv_iconst (v := 2) hx hb md_M_rowCode_23 (by decide) ?_
        refine lv_goto (tgt := 28) hx hb md_M_rowCode_24 (by decide) ?_
        exact pu_iret hx hb hr hlocks md_M_rowCode_28 (by rw [fM_rowCode, if_neg c1, if_neg c2, if_neg c3])
  · refine lv_iconst (v := 1) hx hb md_M_rowCode_7 (by decide) ?_
    refine lv_goto (tgt := 28) hx hb md_M_rowCode_8 (by decide) ?_
    exact pu_iret hx hb hr hlocks md_M_rowCode_28 (by rw [fM_rowCode, if_pos c1])

def fM_number (gO : Nat → Int32) (row : Int32) (k : Int32) : Int64 := Int32.toInt64 (gO (Int32.toNatClampNeg (((8 * row) + 2) + k)))
set_option maxHeartbeats 1000000 in
set_option maxRecDepth 100000 in
theorem ct_M_number (l : Launch) (dC : Nat → ClassId) (dI : Nat → Nat → Nat) (cC cI cJ : ClassId) (nA : Nat) (nT : Nat) (nO : Nat) (nU : Nat) (nV : Nat) (nX : Nat) (nY : Nat) (nR : Nat) (nC : Nat) (nS : Nat) (gT : Nat → Int32) (gO : Nat → Int32) (gU : Nat → Int32) (gV : Nat → Int32) (gX : Nat → Int64) (gY : Nat → Int64) (gR : Nat → Int64) (gC : Nat → Int32) (gS : Nat → Int32) (vc : Int32) (vs : Int32) (va : Int32) (vf : Int32) (vr : Int32) (vw : Int64) (vh : Int64) (vt : Int64) (vd : Int64) (row : Int32) (k : Int32) (hi : vp_in (8 * row + 2 + k) 128) : Met l my_M_number (.code my_M_number mb_M_number 3 (some .long) :: gw_l) ({ frames := 0, cells := 0, slots := 0, locals := 0 }) (pu_Pc (dC, dI) mC [(cC, .char), (cI, .int), (cJ, .long)] [(nA, .inr (5, [.int vc, .ref nT, .int vs, .int va, .int vf, .int vr, .ref nO, .ref nU, .ref nV, .long vw, .long vh, .long vt, .long vd, .ref nX, .ref nY, .ref nR, .ref nC, .ref nS])), (nT, .inl (cI, 300, .inl gT)), (nO, .inl (cI, 128, .inl gO)), (nU, .inl (cI, 128, .inl gU)), (nV, .inl (cI, 16, .inl gV)), (nX, .inl (cJ, 16, .inr (.inl gX))), (nY, .inl (cJ, 16, .inr (.inl gY))), (nR, .inl (cJ, 16, .inr (.inl gR))), (nC, .inl (cI, 9, .inl gC)), (nS, .inl (cI, 9, .inl gS))] (fun _ => True) [.ref nA, .int row, .int k]) (vp_Sl (fun r => r = fM_number gO row k)) 0 0 (fun _ => False) := by
  refine Met.ofW (cc := mb_M_number) (maxL := 3) (ret := (some .long)) (by decide) rfl ?_
  intro p e s m args below meth c s₁ B hml hv
  obtain ⟨rfl, hP, hK, hE⟩ := hv
  have hx := B.exec
  have hb := B.bytes
  have hr := B.returns
  have hts := atoms_spec (ws := (.code my_M_number mb_M_number 3 (some .long) :: gw_l)) B.pre
  have hg : ∀ w ∈ gw_l, w.before _ s = true := fun w h => hts w (List.mem_cons_of_mem _ h)
  have hown : s.vm.findClass mR_M = some m.cls := findClass_of_methodNamed B.named
  have hlocks := B.notSynchronized
  have hl := lv_entry ([.ref nA, .int row, .int k]) (n := 3) (Nat.le_of_ble_eq_true rfl)
  rw [lg_entry_eq]
  generalize (lg_sl ([.ref nA, .int row, .int k]) ++ List.replicate (3 - (lg_sl ([.ref nA, .int row, .int k])).length) Slot.unset).toArray = ls at hl ⊢
  have hl : lv_has ls 3 [(0, .ref nA), (1, .int row), (2, .int k)] := hl
  refine lv_aload_n hx hb md_M_number_0 rfl (lv_at hl 0 rfl) ?_
  refine va_get (D := (dC, dI)) (ci := 5) (v := .ref nO) (C := mR_M) (T := mT_M) (N := 18) hx hb hg gu_M hown hK hP 0 rfl rfl 6 (by decide) (hg _ wd_538) (fun _ h9 => h9) rfl md_M_number_1 ?_
  refine lv_bipush (v := 8) hx hb md_M_number_4 (by decide) ?_
  refine lv_iload_n hx hb md_M_number_6 rfl (lv_at hl 1 rfl) ?_
  refine lv_imul hx hb md_M_number_7 ?_
  refine lv_iconst (v := 2) hx hb md_M_number_8 (by decide) ?_
  refine lv_iadd hx hb md_M_number_9 ?_
  refine lv_iload_n hx hb md_M_number_10 rfl (lv_at hl 2 rfl) ?_
  refine lv_iadd hx hb md_M_number_11 ?_
  refine va_iald hx hb hK hP 2 1 rfl rfl hi md_M_number_12 ?_
  refine lv_i2l (v := Int32.toInt64 (gO (Int32.toNatClampNeg (((8 * row) + 2) + k)))) hx hb md_M_number_13 rfl ?_
  exact pu_lret hx hb hr hlocks md_M_number_14 rfl

def fM_isThere (gO : Nat → Int32) (gV : Nat → Int32) (row : Int32) (letter : Int32) : Int32 := if (gO (Int32.toNatClampNeg (8 * row))) = letter then (if (gV (Int32.toNatClampNeg row)) ≤ 0 then 0 else 1) else 0
theorem zM_isThere (gO : Nat → Int32) (gV : Nat → Int32) (row : Int32) (letter : Int32) : narrow .boolean (.int (fM_isThere gO gV row letter)) = .int (fM_isThere gO gV row letter) := by
  unfold fM_isThere
  repeat' split
  all_goals first | rfl | exact zK_isWithin _ _ _
set_option maxHeartbeats 1000000 in
set_option maxRecDepth 100000 in
theorem ct_M_isThere (l : Launch) (dC : Nat → ClassId) (dI : Nat → Nat → Nat) (cC cI cJ : ClassId) (nA : Nat) (nT : Nat) (nO : Nat) (nU : Nat) (nV : Nat) (nX : Nat) (nY : Nat) (nR : Nat) (nC : Nat) (nS : Nat) (gT : Nat → Int32) (gO : Nat → Int32) (gU : Nat → Int32) (gV : Nat → Int32) (gX : Nat → Int64) (gY : Nat → Int64) (gR : Nat → Int64) (gC : Nat → Int32) (gS : Nat → Int32) (vc : Int32) (vs : Int32) (va : Int32) (vf : Int32) (vr : Int32) (vw : Int64) (vh : Int64) (vt : Int64) (vd : Int64) (row : Int32) (letter : Int32) (hi : vp_in (8 * row) 128) (hrow : vp_in row 16) : Met l my_M_isThere (.code my_M_isThere mb_M_isThere 3 (some .boolean) :: gw_l) ({ frames := 0, cells := 0, slots := 0, locals := 0 }) (pu_Pc (dC, dI) mC [(cC, .char), (cI, .int), (cJ, .long)] [(nA, .inr (5, [.int vc, .ref nT, .int vs, .int va, .int vf, .int vr, .ref nO, .ref nU, .ref nV, .long vw, .long vh, .long vt, .long vd, .ref nX, .ref nY, .ref nR, .ref nC, .ref nS])), (nT, .inl (cI, 300, .inl gT)), (nO, .inl (cI, 128, .inl gO)), (nU, .inl (cI, 128, .inl gU)), (nV, .inl (cI, 16, .inl gV)), (nX, .inl (cJ, 16, .inr (.inl gX))), (nY, .inl (cJ, 16, .inr (.inl gY))), (nR, .inl (cJ, 16, .inr (.inl gR))), (nC, .inl (cI, 9, .inl gC)), (nS, .inl (cI, 9, .inl gS))] (fun _ => True) [.ref nA, .int row, .int letter]) (vp_Si (fun r => r = fM_isThere gO gV row letter)) 0 0 (fun _ => False) := by
  refine Met.ofW (cc := mb_M_isThere) (maxL := 3) (ret := (some .boolean)) (by decide) rfl ?_
  intro p e s m args below meth c s₁ B hml hv
  obtain ⟨rfl, hP, hK, hE⟩ := hv
  have hx := B.exec
  have hb := B.bytes
  have hr := B.returns
  have hts := atoms_spec (ws := (.code my_M_isThere mb_M_isThere 3 (some .boolean) :: gw_l)) B.pre
  have hg : ∀ w ∈ gw_l, w.before _ s = true := fun w h => hts w (List.mem_cons_of_mem _ h)
  have hown : s.vm.findClass mR_M = some m.cls := findClass_of_methodNamed B.named
  have hlocks := B.notSynchronized
  have hl := lv_entry ([.ref nA, .int row, .int letter]) (n := 3) (Nat.le_of_ble_eq_true rfl)
  rw [lg_entry_eq]
  generalize (lg_sl ([.ref nA, .int row, .int letter]) ++ List.replicate (3 - (lg_sl ([.ref nA, .int row, .int letter])).length) Slot.unset).toArray = ls at hl ⊢
  have hl : lv_has ls 3 [(0, .ref nA), (1, .int row), (2, .int letter)] := hl
  refine lv_aload_n hx hb md_M_isThere_0 rfl (lv_at hl 0 rfl) ?_
  refine va_get (D := (dC, dI)) (ci := 5) (v := .ref nO) (C := mR_M) (T := mT_M) (N := 18) hx hb hg gu_M hown hK hP 0 rfl rfl 6 (by decide) (hg _ wd_538) (fun _ h9 => h9) rfl md_M_isThere_1 ?_
  refine lv_bipush (v := 8) hx hb md_M_isThere_4 (by decide) ?_
  refine lv_iload_n hx hb md_M_isThere_6 rfl (lv_at hl 1 rfl) ?_
  refine lv_imul hx hb md_M_isThere_7 ?_
  refine va_iald hx hb hK hP 2 1 rfl rfl hi md_M_isThere_8 ?_
  refine lv_iload_n hx hb md_M_isThere_9 rfl (lv_at hl 2 rfl) ?_
  refine lv_icmp_ne (tgt := 26) hx hb md_M_isThere_10 (by decide) (fun c1 => ?_) (fun c1 => ?_)
  · refine lv_iconst (v := 0) hx hb md_M_isThere_26 (by decide) ?_
    exact pu_zret hx hb hr hlocks rfl md_M_isThere_27 (by rw [fM_isThere, if_neg c1])
  · refine lv_aload_n hx hb md_M_isThere_13 rfl (lv_at hl 0 rfl) ?_
    refine va_get (D := (dC, dI)) (ci := 5) (v := .ref nV) (C := mR_M) (T := mT_M) (N := 18) hx hb hg gu_M hown hK hP 0 rfl rfl 8 (by decide) (hg _ wd_540) (fun _ h9 => h9) rfl md_M_isThere_14 ?_
    refine lv_iload_n hx hb md_M_isThere_17 rfl (lv_at hl 1 rfl) ?_
    refine va_iald hx hb hK hP 4 1 rfl rfl hrow md_M_isThere_18 ?_
    refine lv_if_le (tgt := 26) hx hb md_M_isThere_19 (by decide) (fun c2 => ?_) (fun c2 => ?_)
    · refine lv_iconst (v := 0) hx hb md_M_isThere_26 (by decide) ?_
      exact pu_zret hx hb hr hlocks rfl md_M_isThere_27 (by rw [fM_isThere, if_pos c1, if_pos c2])
    · refine lv_iconst (v := 1) hx hb md_M_isThere_22 (by decide) ?_
      refine lv_goto (tgt := 27) hx hb md_M_isThere_23 (by decide) ?_
      exact pu_zret hx hb hr hlocks rfl md_M_isThere_27 (by rw [fM_isThere, if_pos c1, if_neg c2])

def fM_grams (vw : Int64) (vh : Int64) (vt : Int64) (vd : Int64) : Int64 := ((vw * vh) * vt) * vd
set_option maxHeartbeats 1000000 in
set_option maxRecDepth 100000 in
theorem ct_M_grams (l : Launch) (dC : Nat → ClassId) (dI : Nat → Nat → Nat) (cC cI cJ : ClassId) (nA : Nat) (nT : Nat) (nO : Nat) (nU : Nat) (nV : Nat) (nX : Nat) (nY : Nat) (nR : Nat) (nC : Nat) (nS : Nat) (gT : Nat → Int32) (gO : Nat → Int32) (gU : Nat → Int32) (gV : Nat → Int32) (gX : Nat → Int64) (gY : Nat → Int64) (gR : Nat → Int64) (gC : Nat → Int32) (gS : Nat → Int32) (vc : Int32) (vs : Int32) (va : Int32) (vf : Int32) (vr : Int32) (vw : Int64) (vh : Int64) (vt : Int64) (vd : Int64)   : Met l my_M_grams (.code my_M_grams mb_M_grams 1 (some .long) :: gw_l) ({ frames := 0, cells := 0, slots := 0, locals := 0 }) (pu_Pc (dC, dI) mC [(cC, .char), (cI, .int), (cJ, .long)] [(nA, .inr (5, [.int vc, .ref nT, .int vs, .int va, .int vf, .int vr, .ref nO, .ref nU, .ref nV, .long vw, .long vh, .long vt, .long vd, .ref nX, .ref nY, .ref nR, .ref nC, .ref nS])), (nT, .inl (cI, 300, .inl gT)), (nO, .inl (cI, 128, .inl gO)), (nU, .inl (cI, 128, .inl gU)), (nV, .inl (cI, 16, .inl gV)), (nX, .inl (cJ, 16, .inr (.inl gX))), (nY, .inl (cJ, 16, .inr (.inl gY))), (nR, .inl (cJ, 16, .inr (.inl gR))), (nC, .inl (cI, 9, .inl gC)), (nS, .inl (cI, 9, .inl gS))] (fun _ => True) [.ref nA]) (vp_Sl (fun r => r = fM_grams vw vh vt vd)) 0 0 (fun _ => False) := by
  refine Met.ofW (cc := mb_M_grams) (maxL := 1) (ret := (some .long)) (by decide) rfl ?_
  intro p e s m args below meth c s₁ B hml hv
  obtain ⟨rfl, hP, hK, hE⟩ := hv
  have hx := B.exec
  have hb := B.bytes
  have hr := B.returns
  have hts := atoms_spec (ws := (.code my_M_grams mb_M_grams 1 (some .long) :: gw_l)) B.pre
  have hg : ∀ w ∈ gw_l, w.before _ s = true := fun w h => hts w (List.mem_cons_of_mem _ h)
  have hown : s.vm.findClass mR_M = some m.cls := findClass_of_methodNamed B.named
  have hlocks := B.notSynchronized
  have hl := lv_entry ([.ref nA]) (n := 1) (Nat.le_of_ble_eq_true rfl)
  rw [lg_entry_eq]
  generalize (lg_sl ([.ref nA]) ++ List.replicate (1 - (lg_sl ([.ref nA])).length) Slot.unset).toArray = ls at hl ⊢
  have hl : lv_has ls 1 [(0, .ref nA)] := hl
  refine lv_aload_n hx hb md_M_grams_0 rfl (lv_at hl 0 rfl) ?_
  refine va_get (D := (dC, dI)) (ci := 5) (v := .long vw) (C := mR_M) (T := mT_M) (N := 18) hx hb hg gu_M hown hK hP 0 rfl rfl 9 (by decide) (hg _ wd_541) (fun _ h9 => h9) rfl md_M_grams_1 ?_
  refine lv_aload_n hx hb md_M_grams_4 rfl (lv_at hl 0 rfl) ?_
  refine va_get (D := (dC, dI)) (ci := 5) (v := .long vh) (C := mR_M) (T := mT_M) (N := 18) hx hb hg gu_M hown hK hP 0 rfl rfl 10 (by decide) (hg _ wd_542) (fun _ h9 => h9) rfl md_M_grams_5 ?_
  refine lv_lmul hx hb md_M_grams_8 ?_
  refine lv_aload_n hx hb md_M_grams_9 rfl (lv_at hl 0 rfl) ?_
  refine va_get (D := (dC, dI)) (ci := 5) (v := .long vt) (C := mR_M) (T := mT_M) (N := 18) hx hb hg gu_M hown hK hP 0 rfl rfl 11 (by decide) (hg _ wd_543) (fun _ h9 => h9) rfl md_M_grams_10 ?_
  refine lv_lmul hx hb md_M_grams_13 ?_
  refine lv_aload_n hx hb md_M_grams_14 rfl (lv_at hl 0 rfl) ?_
  refine va_get (D := (dC, dI)) (ci := 5) (v := .long vd) (C := mR_M) (T := mT_M) (N := 18) hx hb hg gu_M hown hK hP 0 rfl rfl 12 (by decide) (hg _ wd_544) (fun _ h9 => h9) rfl md_M_grams_15 ?_
  refine lv_lmul hx hb md_M_grams_18 ?_
  exact pu_lret hx hb hr hlocks md_M_grams_19 rfl

def fM_meets (gX : Nat → Int64) (gY : Nat → Int64) (gR : Nat → Int64) (a : Int32) (b : Int32) : Int32 := if a = b then 0 else (if (gR (Int32.toNatClampNeg a)) ≤ 0 then 0 else (if (gR (Int32.toNatClampNeg b)) ≤ 0 then 0 else (if (((gR (Int32.toNatClampNeg a)) + (gR (Int32.toNatClampNeg b))) * ((gR (Int32.toNatClampNeg a)) + (gR (Int32.toNatClampNeg b)))) ≤ ((((gX (Int32.toNatClampNeg a)) - (gX (Int32.toNatClampNeg b))) * ((gX (Int32.toNatClampNeg a)) - (gX (Int32.toNatClampNeg b)))) + (((gY (Int32.toNatClampNeg a)) - (gY (Int32.toNatClampNeg b))) * ((gY (Int32.toNatClampNeg a)) - (gY (Int32.toNatClampNeg b))))) then 0 else 1)))
theorem zM_meets (gX : Nat → Int64) (gY : Nat → Int64) (gR : Nat → Int64) (a : Int32) (b : Int32) : narrow .boolean (.int (fM_meets gX gY gR a b)) = .int (fM_meets gX gY gR a b) := by
  unfold fM_meets
  repeat' split
  all_goals first | rfl | exact zK_isWithin _ _ _
set_option maxHeartbeats 1000000 in
set_option maxRecDepth 100000 in
theorem ct_M_meets (l : Launch) (dC : Nat → ClassId) (dI : Nat → Nat → Nat) (cC cI cJ : ClassId) (nA : Nat) (nT : Nat) (nO : Nat) (nU : Nat) (nV : Nat) (nX : Nat) (nY : Nat) (nR : Nat) (nC : Nat) (nS : Nat) (gT : Nat → Int32) (gO : Nat → Int32) (gU : Nat → Int32) (gV : Nat → Int32) (gX : Nat → Int64) (gY : Nat → Int64) (gR : Nat → Int64) (gC : Nat → Int32) (gS : Nat → Int32) (vc : Int32) (vs : Int32) (va : Int32) (vf : Int32) (vr : Int32) (vw : Int64) (vh : Int64) (vt : Int64) (vd : Int64) (a : Int32) (b : Int32) (ha : vp_in a 16) (hb9 : vp_in b 16) : Met l my_M_meets (.code my_M_meets mb_M_meets 9 (some .boolean) :: gw_l) ({ frames := 0, cells := 0, slots := 0, locals := 0 }) (pu_Pc (dC, dI) mC [(cC, .char), (cI, .int), (cJ, .long)] [(nA, .inr (5, [.int vc, .ref nT, .int vs, .int va, .int vf, .int vr, .ref nO, .ref nU, .ref nV, .long vw, .long vh, .long vt, .long vd, .ref nX, .ref nY, .ref nR, .ref nC, .ref nS])), (nT, .inl (cI, 300, .inl gT)), (nO, .inl (cI, 128, .inl gO)), (nU, .inl (cI, 128, .inl gU)), (nV, .inl (cI, 16, .inl gV)), (nX, .inl (cJ, 16, .inr (.inl gX))), (nY, .inl (cJ, 16, .inr (.inl gY))), (nR, .inl (cJ, 16, .inr (.inl gR))), (nC, .inl (cI, 9, .inl gC)), (nS, .inl (cI, 9, .inl gS))] (fun _ => True) [.ref nA, .int a, .int b]) (vp_Si (fun r => r = fM_meets gX gY gR a b)) 0 0 (fun _ => False) := by
  refine Met.ofW (cc := mb_M_meets) (maxL := 9) (ret := (some .boolean)) (by decide) rfl ?_
  intro p e s m args below meth c s₁ B hml hv
  obtain ⟨rfl, hP, hK, hE⟩ := hv
  have hx := B.exec
  have hb := B.bytes
  have hr := B.returns
  have hts := atoms_spec (ws := (.code my_M_meets mb_M_meets 9 (some .boolean) :: gw_l)) B.pre
  have hg : ∀ w ∈ gw_l, w.before _ s = true := fun w h => hts w (List.mem_cons_of_mem _ h)
  have hown : s.vm.findClass mR_M = some m.cls := findClass_of_methodNamed B.named
  have hlocks := B.notSynchronized
  have hl := lv_entry ([.ref nA, .int a, .int b]) (n := 9) (Nat.le_of_ble_eq_true rfl)
  rw [lg_entry_eq]
  generalize (lg_sl ([.ref nA, .int a, .int b]) ++ List.replicate (9 - (lg_sl ([.ref nA, .int a, .int b])).length) Slot.unset).toArray = ls at hl ⊢
  have hl : lv_has ls 9 [(0, .ref nA), (1, .int a), (2, .int b)] := hl
  refine lv_aload_n hx hb md_M_meets_0 rfl (lv_at hl 0 rfl) ?_
  refine va_get (D := (dC, dI)) (ci := 5) (v := .ref nX) (C := mR_M) (T := mT_M) (N := 18) hx hb hg gu_M hown hK hP 0 rfl rfl 13 (by decide) (hg _ wd_545) (fun _ h9 => h9) rfl md_M_meets_1 ?_
  refine lv_iload_n hx hb md_M_meets_4 rfl (lv_at hl 1 rfl) ?_
  refine va_lald hx hb hK hP 5 2 rfl rfl ha md_M_meets_5 ?_
  refine lv_aload_n hx hb md_M_meets_6 rfl (lv_at hl 0 rfl) ?_
  refine va_get (D := (dC, dI)) (ci := 5) (v := .ref nX) (C := mR_M) (T := mT_M) (N := 18) hx hb hg gu_M hown hK hP 0 rfl rfl 13 (by decide) (hg _ wd_545) (fun _ h9 => h9) rfl md_M_meets_7 ?_
  refine lv_iload_n hx hb md_M_meets_10 rfl (lv_at hl 2 rfl) ?_
  refine va_lald hx hb hK hP 5 2 rfl rfl hb9 md_M_meets_11 ?_
  refine lv_lsub hx hb md_M_meets_12 ?_
  refine lv_lstore_n (lv' := [(3, .long ((gX (Int32.toNatClampNeg a)) - (gX (Int32.toNatClampNeg b)))), (0, .ref nA), (1, .int a), (2, .int b)]) hx hb md_M_meets_13 rfl hl (by decide) rfl (fun ls hl => ?_)
  refine lv_aload_n hx hb md_M_meets_14 rfl (lv_at hl 1 rfl) ?_
  refine va_get (D := (dC, dI)) (ci := 5) (v := .ref nY) (C := mR_M) (T := mT_M) (N := 18) hx hb hg gu_M hown hK hP 0 rfl rfl 14 (by decide) (hg _ wd_546) (fun _ h9 => h9) rfl md_M_meets_15 ?_
  refine lv_iload_n hx hb md_M_meets_18 rfl (lv_at hl 2 rfl) ?_
  refine va_lald hx hb hK hP 6 2 rfl rfl ha md_M_meets_19 ?_
  refine lv_aload_n hx hb md_M_meets_20 rfl (lv_at hl 1 rfl) ?_
  refine va_get (D := (dC, dI)) (ci := 5) (v := .ref nY) (C := mR_M) (T := mT_M) (N := 18) hx hb hg gu_M hown hK hP 0 rfl rfl 14 (by decide) (hg _ wd_546) (fun _ h9 => h9) rfl md_M_meets_21 ?_
  refine lv_iload_n hx hb md_M_meets_24 rfl (lv_at hl 3 rfl) ?_
  refine va_lald hx hb hK hP 6 2 rfl rfl hb9 md_M_meets_25 ?_
  refine lv_lsub hx hb md_M_meets_26 ?_
  refine lv_lstore (lv' := [(5, .long ((gY (Int32.toNatClampNeg a)) - (gY (Int32.toNatClampNeg b)))), (3, .long ((gX (Int32.toNatClampNeg a)) - (gX (Int32.toNatClampNeg b)))), (0, .ref nA), (1, .int a), (2, .int b)]) hx hb md_M_meets_27 hl (by decide) rfl (fun ls hl => ?_)
  refine lv_aload_n hx hb md_M_meets_29 rfl (lv_at hl 2 rfl) ?_
  refine va_get (D := (dC, dI)) (ci := 5) (v := .ref nR) (C := mR_M) (T := mT_M) (N := 18) hx hb hg gu_M hown hK hP 0 rfl rfl 15 (by decide) (hg _ wd_547) (fun _ h9 => h9) rfl md_M_meets_30 ?_
  refine lv_iload_n hx hb md_M_meets_33 rfl (lv_at hl 3 rfl) ?_
  refine va_lald hx hb hK hP 7 2 rfl rfl ha md_M_meets_34 ?_
  refine lv_aload_n hx hb md_M_meets_35 rfl (lv_at hl 2 rfl) ?_
  refine va_get (D := (dC, dI)) (ci := 5) (v := .ref nR) (C := mR_M) (T := mT_M) (N := 18) hx hb hg gu_M hown hK hP 0 rfl rfl 15 (by decide) (hg _ wd_547) (fun _ h9 => h9) rfl md_M_meets_36 ?_
  refine lv_iload_n hx hb md_M_meets_39 rfl (lv_at hl 4 rfl) ?_
  refine va_lald hx hb hK hP 7 2 rfl rfl hb9 md_M_meets_40 ?_
  refine lv_ladd hx hb md_M_meets_41 ?_
  refine lv_lstore (lv' := [(7, .long ((gR (Int32.toNatClampNeg a)) + (gR (Int32.toNatClampNeg b)))), (5, .long ((gY (Int32.toNatClampNeg a)) - (gY (Int32.toNatClampNeg b)))), (3, .long ((gX (Int32.toNatClampNeg a)) - (gX (Int32.toNatClampNeg b)))), (0, .ref nA), (1, .int a), (2, .int b)]) hx hb md_M_meets_42 hl (by decide) rfl (fun ls hl => ?_)
  refine lv_iload_n hx hb md_M_meets_44 rfl (lv_at hl 4 rfl) ?_
  refine lv_iload_n hx hb md_M_meets_45 rfl (lv_at hl 5 rfl) ?_
  refine lv_icmp_eq (tgt := 93) hx hb md_M_meets_46 (by decide) (fun c1 => ?_) (fun c1 => ?_)
  · refine lv_iconst (v := 0) hx hb md_M_meets_93 (by decide) ?_
    exact pu_zret hx hb hr hlocks rfl md_M_meets_94 (by rw [fM_meets, if_pos c1])
  · refine lv_aload_n hx hb md_M_meets_49 rfl (lv_at hl 3 rfl) ?_
    refine va_get (D := (dC, dI)) (ci := 5) (v := .ref nR) (C := mR_M) (T := mT_M) (N := 18) hx hb hg gu_M hown hK hP 0 rfl rfl 15 (by decide) (hg _ wd_547) (fun _ h9 => h9) rfl md_M_meets_50 ?_
    refine lv_iload_n hx hb md_M_meets_53 rfl (lv_at hl 4 rfl) ?_
    refine va_lald hx hb hK hP 7 2 rfl rfl ha md_M_meets_54 ?_
    refine lv_lconst (v := 0) hx hb md_M_meets_55 (by decide) ?_
    refine lx_le (tgt := 93) hx hb md_M_meets_56 md_M_meets_57 (by decide) (fun c2 => ?_) (fun c2 => ?_)
    · refine lv_iconst (v := 0) hx hb md_M_meets_93 (by decide) ?_
      exact pu_zret hx hb hr hlocks rfl md_M_meets_94 (by rw [fM_meets, if_neg c1, if_pos c2])
    · refine lv_aload_n hx hb md_M_meets_60 rfl (lv_at hl 3 rfl) ?_
      refine va_get (D := (dC, dI)) (ci := 5) (v := .ref nR) (C := mR_M) (T := mT_M) (N := 18) hx hb hg gu_M hown hK hP 0 rfl rfl 15 (by decide) (hg _ wd_547) (fun _ h9 => h9) rfl md_M_meets_61 ?_
      refine lv_iload_n hx hb md_M_meets_64 rfl (lv_at hl 5 rfl) ?_
      refine va_lald hx hb hK hP 7 2 rfl rfl hb9 md_M_meets_65 ?_
      refine lv_lconst (v := 0) hx hb md_M_meets_66 (by decide) ?_
      refine lx_le (tgt := 93) hx hb md_M_meets_67 md_M_meets_68 (by decide) (fun c3 => ?_) (fun c3 => ?_)
      · refine lv_iconst (v := 0) hx hb md_M_meets_93 (by decide) ?_
        exact pu_zret hx hb hr hlocks rfl md_M_meets_94 (by rw [fM_meets, if_neg c1, if_neg c2, if_pos c3])
      · refine lv_lload_n hx hb md_M_meets_71 rfl (lv_at hl 2 rfl) ?_
        refine lv_lload_n hx hb md_M_meets_72 rfl (lv_at hl 2 rfl) ?_
        refine lv_lmul hx hb md_M_meets_73 ?_
        refine lv_lload hx hb md_M_meets_74 (lv_at hl 1 rfl) ?_
        refine lv_lload hx hb md_M_meets_76 (lv_at hl 1 rfl) ?_
        refine lv_lmul hx hb md_M_meets_78 ?_
        refine lv_ladd hx hb md_M_meets_79 ?_
        refine lv_lload hx hb md_M_meets_80 (lv_at hl 0 rfl) ?_
        refine lv_lload hx hb md_M_meets_82 (lv_at hl 0 rfl) ?_
        refine lv_lmul hx hb md_M_meets_84 ?_
        refine lx_ge (tgt := 93) hx hb md_M_meets_85 md_M_meets_86 (by decide) (fun c4 => ?_) (fun c4 => ?_)
        · refine lv_iconst (v := 0) hx hb md_M_meets_93 (by decide) ?_
          exact pu_zret hx hb hr hlocks rfl md_M_meets_94 (by rw [fM_meets, if_neg c1, if_neg c2, if_neg c3, if_pos c4])
        · refine lv_iconst (v := 1) hx hb md_M_meets_89 (by decide) ?_
          refine lv_goto (tgt := 94) hx hb md_M_meets_90 (by decide) ?_
          exact pu_zret hx hb hr hlocks rfl md_M_meets_94 (by rw [fM_meets, if_neg c1, if_neg c2, if_neg c3, if_neg c4])

def fM_placeOf (gC : Nat → Int32) (gS : Nat → Int32) (vw : Int64) (vt : Int64) (corner : Int32) (turn : Int32) (axis : Int32) : Int64 := if corner = 1 then (if corner < 2 then (if axis = 0 then ((vw * (Int32.toInt64 (gC (Int32.toNatClampNeg turn)))) - (0 * (Int32.toInt64 (gS (Int32.toNatClampNeg turn))))) else ((vw * (Int32.toInt64 (gS (Int32.toNatClampNeg turn)))) + (0 * (Int32.toInt64 (gC (Int32.toNatClampNeg turn)))))) else (if axis = 0 then ((vw * (Int32.toInt64 (gC (Int32.toNatClampNeg turn)))) - (vt * (Int32.toInt64 (gS (Int32.toNatClampNeg turn))))) else ((vw * (Int32.toInt64 (gS (Int32.toNatClampNeg turn)))) + (vt * (Int32.toInt64 (gC (Int32.toNatClampNeg turn))))))) else (if corner = 2 then (if corner < 2 then (if axis = 0 then ((vw * (Int32.toInt64 (gC (Int32.toNatClampNeg turn)))) - (0 * (Int32.toInt64 (gS (Int32.toNatClampNeg turn))))) else ((vw * (Int32.toInt64 (gS (Int32.toNatClampNeg turn)))) + (0 * (Int32.toInt64 (gC (Int32.toNatClampNeg turn)))))) else (if axis = 0 then ((vw * (Int32.toInt64 (gC (Int32.toNatClampNeg turn)))) - (vt * (Int32.toInt64 (gS (Int32.toNatClampNeg turn))))) else ((vw * (Int32.toInt64 (gS (Int32.toNatClampNeg turn)))) + (vt * (Int32.toInt64 (gC (Int32.toNatClampNeg turn))))))) else (if corner < 2 then (if axis = 0 then ((0 * (Int32.toInt64 (gC (Int32.toNatClampNeg turn)))) - (0 * (Int32.toInt64 (gS (Int32.toNatClampNeg turn))))) else ((0 * (Int32.toInt64 (gS (Int32.toNatClampNeg turn)))) + (0 * (Int32.toInt64 (gC (Int32.toNatClampNeg turn)))))) else (if axis = 0 then ((0 * (Int32.toInt64 (gC (Int32.toNatClampNeg turn)))) - (vt * (Int32.toInt64 (gS (Int32.toNatClampNeg turn))))) else ((0 * (Int32.toInt64 (gS (Int32.toNatClampNeg turn)))) + (vt * (Int32.toInt64 (gC (Int32.toNatClampNeg turn))))))))
set_option maxHeartbeats 1000000 in
set_option maxRecDepth 100000 in
theorem ct_M_placeOf (l : Launch) (dC : Nat → ClassId) (dI : Nat → Nat → Nat) (cC cI cJ : ClassId) (nA : Nat) (nT : Nat) (nO : Nat) (nU : Nat) (nV : Nat) (nX : Nat) (nY : Nat) (nR : Nat) (nC : Nat) (nS : Nat) (gT : Nat → Int32) (gO : Nat → Int32) (gU : Nat → Int32) (gV : Nat → Int32) (gX : Nat → Int64) (gY : Nat → Int64) (gR : Nat → Int64) (gC : Nat → Int32) (gS : Nat → Int32) (vc : Int32) (vs : Int32) (va : Int32) (vf : Int32) (vr : Int32) (vw : Int64) (vh : Int64) (vt : Int64) (vd : Int64) (corner : Int32) (turn : Int32) (axis : Int32) (ht : vp_in turn 9) : Met l my_M_placeOf (.code my_M_placeOf mb_M_placeOf 8 (some .long) :: gw_l) ({ frames := 0, cells := 0, slots := 0, locals := 0 }) (pu_Pc (dC, dI) mC [(cC, .char), (cI, .int), (cJ, .long)] [(nA, .inr (5, [.int vc, .ref nT, .int vs, .int va, .int vf, .int vr, .ref nO, .ref nU, .ref nV, .long vw, .long vh, .long vt, .long vd, .ref nX, .ref nY, .ref nR, .ref nC, .ref nS])), (nT, .inl (cI, 300, .inl gT)), (nO, .inl (cI, 128, .inl gO)), (nU, .inl (cI, 128, .inl gU)), (nV, .inl (cI, 16, .inl gV)), (nX, .inl (cJ, 16, .inr (.inl gX))), (nY, .inl (cJ, 16, .inr (.inl gY))), (nR, .inl (cJ, 16, .inr (.inl gR))), (nC, .inl (cI, 9, .inl gC)), (nS, .inl (cI, 9, .inl gS))] (fun _ => True) [.ref nA, .int corner, .int turn, .int axis]) (vp_Sl (fun r => r = fM_placeOf gC gS vw vt corner turn axis)) 0 0 (fun _ => False) := by
  refine Met.ofW (cc := mb_M_placeOf) (maxL := 8) (ret := (some .long)) (by decide) rfl ?_
  intro p e s m args below meth c s₁ B hml hv
  obtain ⟨rfl, hP, hK, hE⟩ := hv
  have hx := B.exec
  have hb := B.bytes
  have hr := B.returns
  have hts := atoms_spec (ws := (.code my_M_placeOf mb_M_placeOf 8 (some .long) :: gw_l)) B.pre
  have hg : ∀ w ∈ gw_l, w.before _ s = true := fun w h => hts w (List.mem_cons_of_mem _ h)
  have hown : s.vm.findClass mR_M = some m.cls := findClass_of_methodNamed B.named
  have hlocks := B.notSynchronized
  have hl := lv_entry ([.ref nA, .int corner, .int turn, .int axis]) (n := 8) (Nat.le_of_ble_eq_true rfl)
  rw [lg_entry_eq]
  generalize (lg_sl ([.ref nA, .int corner, .int turn, .int axis]) ++ List.replicate (8 - (lg_sl ([.ref nA, .int corner, .int turn, .int axis])).length) Slot.unset).toArray = ls at hl ⊢
  have hl : lv_has ls 8 [(0, .ref nA), (1, .int corner), (2, .int turn), (3, .int axis)] := hl
  refine lv_iload_n hx hb md_M_placeOf_0 rfl (lv_at hl 1 rfl) ?_
  refine lv_iconst (v := 1) hx hb md_M_placeOf_1 (by decide) ?_
  refine lv_icmp_eq (tgt := 10) hx hb md_M_placeOf_2 (by decide) (fun c1 => ?_) (fun c1 => ?_)
  · refine lv_aload_n hx hb md_M_placeOf_10 rfl (lv_at hl 0 rfl) ?_
    refine va_get (D := (dC, dI)) (ci := 5) (v := .long vw) (C := mR_M) (T := mT_M) (N := 18) hx hb hg gu_M hown hK hP 0 rfl rfl 9 (by decide) (hg _ wd_541) (fun _ h9 => h9) rfl md_M_placeOf_11 ?_
    refine lv_goto (tgt := 18) hx hb md_M_placeOf_14 (by decide) ?_
    refine lv_lstore (lv' := [(4, .long vw), (0, .ref nA), (1, .int corner), (2, .int turn), (3, .int axis)]) hx hb md_M_placeOf_18 hl (by decide) rfl (fun ls hl => ?_)
    refine lv_iload_n hx hb md_M_placeOf_20 rfl (lv_at hl 2 rfl) ?_
    refine lv_iconst (v := 2) hx hb md_M_placeOf_21 (by decide) ?_
    refine lv_icmp_lt (tgt := 32) hx hb md_M_placeOf_22 (by decide) (fun c2 => ?_) (fun c2 => ?_)
    · refine lv_lconst (v := 0) hx hb md_M_placeOf_32 (by decide) ?_
      refine lv_lstore (lv' := [(6, .long 0), (4, .long vw), (0, .ref nA), (1, .int corner), (2, .int turn), (3, .int axis)]) hx hb md_M_placeOf_33 hl (by decide) rfl (fun ls hl => ?_)
      refine lv_iload_n hx hb md_M_placeOf_35 rfl (lv_at hl 5 rfl) ?_
      refine lv_if_ne (tgt := 63) hx hb md_M_placeOf_36 (by decide) (fun c3 => ?_) (fun c3 => ?_)
      · refine lv_lload hx hb md_M_placeOf_63 (lv_at hl 1 rfl) ?_
        refine lv_aload_n hx hb md_M_placeOf_65 rfl (lv_at hl 2 rfl) ?_
        refine va_get (D := (dC, dI)) (ci := 5) (v := .ref nS) (C := mR_M) (T := mT_M) (N := 18) hx hb hg gu_M hown hK hP 0 rfl rfl 17 (by decide) (hg _ wd_549) (fun _ h9 => h9) rfl md_M_placeOf_66 ?_
        refine lv_iload_n hx hb md_M_placeOf_69 rfl (lv_at hl 4 rfl) ?_
        refine va_iald hx hb hK hP 9 1 rfl rfl ht md_M_placeOf_70 ?_
        refine lv_i2l (v := Int32.toInt64 (gS (Int32.toNatClampNeg turn))) hx hb md_M_placeOf_71 rfl ?_
        refine lv_lmul hx hb md_M_placeOf_72 ?_
        refine lv_lload hx hb md_M_placeOf_73 (lv_at hl 0 rfl) ?_
        refine lv_aload_n hx hb md_M_placeOf_75 rfl (lv_at hl 2 rfl) ?_
        refine va_get (D := (dC, dI)) (ci := 5) (v := .ref nC) (C := mR_M) (T := mT_M) (N := 18) hx hb hg gu_M hown hK hP 0 rfl rfl 16 (by decide) (hg _ wd_548) (fun _ h9 => h9) rfl md_M_placeOf_76 ?_
        refine lv_iload_n hx hb md_M_placeOf_79 rfl (lv_at hl 4 rfl) ?_
        refine va_iald hx hb hK hP 8 1 rfl rfl ht md_M_placeOf_80 ?_
        refine lv_i2l (v := Int32.toInt64 (gC (Int32.toNatClampNeg turn))) hx hb md_M_placeOf_81 rfl ?_
        refine lv_lmul hx hb md_M_placeOf_82 ?_
        refine lv_ladd hx hb md_M_placeOf_83 ?_
        exact pu_lret hx hb hr hlocks md_M_placeOf_84 (by rw [fM_placeOf, if_pos c1, if_pos c2, if_neg c3])
      · refine lv_lload hx hb md_M_placeOf_39 (lv_at hl 1 rfl) ?_
        refine lv_aload_n hx hb md_M_placeOf_41 rfl (lv_at hl 2 rfl) ?_
        refine va_get (D := (dC, dI)) (ci := 5) (v := .ref nC) (C := mR_M) (T := mT_M) (N := 18) hx hb hg gu_M hown hK hP 0 rfl rfl 16 (by decide) (hg _ wd_548) (fun _ h9 => h9) rfl md_M_placeOf_42 ?_
        refine lv_iload_n hx hb md_M_placeOf_45 rfl (lv_at hl 4 rfl) ?_
        refine va_iald hx hb hK hP 8 1 rfl rfl ht md_M_placeOf_46 ?_
        refine lv_i2l (v := Int32.toInt64 (gC (Int32.toNatClampNeg turn))) hx hb md_M_placeOf_47 rfl ?_
        refine lv_lmul hx hb md_M_placeOf_48 ?_
        refine lv_lload hx hb md_M_placeOf_49 (lv_at hl 0 rfl) ?_
        refine lv_aload_n hx hb md_M_placeOf_51 rfl (lv_at hl 2 rfl) ?_
        refine va_get (D := (dC, dI)) (ci := 5) (v := .ref nS) (C := mR_M) (T := mT_M) (N := 18) hx hb hg gu_M hown hK hP 0 rfl rfl 17 (by decide) (hg _ wd_549) (fun _ h9 => h9) rfl md_M_placeOf_52 ?_
        refine lv_iload_n hx hb md_M_placeOf_55 rfl (lv_at hl 4 rfl) ?_
        refine va_iald hx hb hK hP 9 1 rfl rfl ht md_M_placeOf_56 ?_
        refine lv_i2l (v := Int32.toInt64 (gS (Int32.toNatClampNeg turn))) hx hb md_M_placeOf_57 rfl ?_
        refine lv_lmul hx hb md_M_placeOf_58 ?_
        refine lv_lsub hx hb md_M_placeOf_59 ?_
        refine lv_goto (tgt := 84) hx hb md_M_placeOf_60 (by decide) ?_
        exact pu_lret hx hb hr hlocks md_M_placeOf_84 (by rw [fM_placeOf, if_pos c1, if_pos c2, if_pos c3])
    · refine lv_aload_n hx hb md_M_placeOf_25 rfl (lv_at hl 1 rfl) ?_
      refine va_get (D := (dC, dI)) (ci := 5) (v := .long vt) (C := mR_M) (T := mT_M) (N := 18) hx hb hg gu_M hown hK hP 0 rfl rfl 11 (by decide) (hg _ wd_543) (fun _ h9 => h9) rfl md_M_placeOf_26 ?_
      refine lv_goto (tgt := 33) hx hb md_M_placeOf_29 (by decide) ?_
      refine lv_lstore (lv' := [(6, .long vt), (4, .long vw), (0, .ref nA), (1, .int corner), (2, .int turn), (3, .int axis)]) hx hb md_M_placeOf_33 hl (by decide) rfl (fun ls hl => ?_)
      refine lv_iload_n hx hb md_M_placeOf_35 rfl (lv_at hl 5 rfl) ?_
      refine lv_if_ne (tgt := 63) hx hb md_M_placeOf_36 (by decide) (fun c4 => ?_) (fun c4 => ?_)
      · refine lv_lload hx hb md_M_placeOf_63 (lv_at hl 1 rfl) ?_
        refine lv_aload_n hx hb md_M_placeOf_65 rfl (lv_at hl 2 rfl) ?_
        refine va_get (D := (dC, dI)) (ci := 5) (v := .ref nS) (C := mR_M) (T := mT_M) (N := 18) hx hb hg gu_M hown hK hP 0 rfl rfl 17 (by decide) (hg _ wd_549) (fun _ h9 => h9) rfl md_M_placeOf_66 ?_
        refine lv_iload_n hx hb md_M_placeOf_69 rfl (lv_at hl 4 rfl) ?_
        refine va_iald hx hb hK hP 9 1 rfl rfl ht md_M_placeOf_70 ?_
        refine lv_i2l (v := Int32.toInt64 (gS (Int32.toNatClampNeg turn))) hx hb md_M_placeOf_71 rfl ?_
        refine lv_lmul hx hb md_M_placeOf_72 ?_
        refine lv_lload hx hb md_M_placeOf_73 (lv_at hl 0 rfl) ?_
        refine lv_aload_n hx hb md_M_placeOf_75 rfl (lv_at hl 2 rfl) ?_
        refine va_get (D := (dC, dI)) (ci := 5) (v := .ref nC) (C := mR_M) (T := mT_M) (N := 18) hx hb hg gu_M hown hK hP 0 rfl rfl 16 (by decide) (hg _ wd_548) (fun _ h9 => h9) rfl md_M_placeOf_76 ?_
        refine lv_iload_n hx hb md_M_placeOf_79 rfl (lv_at hl 4 rfl) ?_
        refine va_iald hx hb hK hP 8 1 rfl rfl ht md_M_placeOf_80 ?_
        refine lv_i2l (v := Int32.toInt64 (gC (Int32.toNatClampNeg turn))) hx hb md_M_placeOf_81 rfl ?_
        refine lv_lmul hx hb md_M_placeOf_82 ?_
        refine lv_ladd hx hb md_M_placeOf_83 ?_
        exact pu_lret hx hb hr hlocks md_M_placeOf_84 (by rw [fM_placeOf, if_pos c1, if_neg c2, if_neg c4])
      · refine lv_lload hx hb md_M_placeOf_39 (lv_at hl 1 rfl) ?_
        refine lv_aload_n hx hb md_M_placeOf_41 rfl (lv_at hl 2 rfl) ?_
        refine va_get (D := (dC, dI)) (ci := 5) (v := .ref nC) (C := mR_M) (T := mT_M) (N := 18) hx hb hg gu_M hown hK hP 0 rfl rfl 16 (by decide) (hg _ wd_548) (fun _ h9 => h9) rfl md_M_placeOf_42 ?_
        refine lv_iload_n hx hb md_M_placeOf_45 rfl (lv_at hl 4 rfl) ?_
        refine va_iald hx hb hK hP 8 1 rfl rfl ht md_M_placeOf_46 ?_
        refine lv_i2l (v := Int32.toInt64 (gC (Int32.toNatClampNeg turn))) hx hb md_M_placeOf_47 rfl ?_
        refine lv_lmul hx hb md_M_placeOf_48 ?_
        refine lv_lload hx hb md_M_placeOf_49 (lv_at hl 0 rfl) ?_
        refine lv_aload_n hx hb md_M_placeOf_51 rfl (lv_at hl 2 rfl) ?_
        refine va_get (D := (dC, dI)) (ci := 5) (v := .ref nS) (C := mR_M) (T := mT_M) (N := 18) hx hb hg gu_M hown hK hP 0 rfl rfl 17 (by decide) (hg _ wd_549) (fun _ h9 => h9) rfl md_M_placeOf_52 ?_
        refine lv_iload_n hx hb md_M_placeOf_55 rfl (lv_at hl 4 rfl) ?_
        refine va_iald hx hb hK hP 9 1 rfl rfl ht md_M_placeOf_56 ?_
        refine lv_i2l (v := Int32.toInt64 (gS (Int32.toNatClampNeg turn))) hx hb md_M_placeOf_57 rfl ?_
        refine lv_lmul hx hb md_M_placeOf_58 ?_
        refine lv_lsub hx hb md_M_placeOf_59 ?_
        refine lv_goto (tgt := 84) hx hb md_M_placeOf_60 (by decide) ?_
        exact pu_lret hx hb hr hlocks md_M_placeOf_84 (by rw [fM_placeOf, if_pos c1, if_neg c2, if_pos c4])
  · refine lv_iload_n hx hb md_M_placeOf_5 rfl (lv_at hl 1 rfl) ?_
    refine lv_iconst (v := 2) hx hb md_M_placeOf_6 (by decide) ?_
    refine lv_icmp_ne (tgt := 17) hx hb md_M_placeOf_7 (by decide) (fun c5 => ?_) (fun c5 => ?_)
    · refine lv_lconst (v := 0) hx hb md_M_placeOf_17 (by decide) ?_
      refine lv_lstore (lv' := [(4, .long 0), (0, .ref nA), (1, .int corner), (2, .int turn), (3, .int axis)]) hx hb md_M_placeOf_18 hl (by decide) rfl (fun ls hl => ?_)
      refine lv_iload_n hx hb md_M_placeOf_20 rfl (lv_at hl 2 rfl) ?_
      refine lv_iconst (v := 2) hx hb md_M_placeOf_21 (by decide) ?_
      refine lv_icmp_lt (tgt := 32) hx hb md_M_placeOf_22 (by decide) (fun c6 => ?_) (fun c6 => ?_)
      · refine lv_lconst (v := 0) hx hb md_M_placeOf_32 (by decide) ?_
        refine lv_lstore (lv' := [(6, .long 0), (4, .long 0), (0, .ref nA), (1, .int corner), (2, .int turn), (3, .int axis)]) hx hb md_M_placeOf_33 hl (by decide) rfl (fun ls hl => ?_)
        refine lv_iload_n hx hb md_M_placeOf_35 rfl (lv_at hl 5 rfl) ?_
        refine lv_if_ne (tgt := 63) hx hb md_M_placeOf_36 (by decide) (fun c7 => ?_) (fun c7 => ?_)
        · refine lv_lload hx hb md_M_placeOf_63 (lv_at hl 1 rfl) ?_
          refine lv_aload_n hx hb md_M_placeOf_65 rfl (lv_at hl 2 rfl) ?_
          refine va_get (D := (dC, dI)) (ci := 5) (v := .ref nS) (C := mR_M) (T := mT_M) (N := 18) hx hb hg gu_M hown hK hP 0 rfl rfl 17 (by decide) (hg _ wd_549) (fun _ h9 => h9) rfl md_M_placeOf_66 ?_
          refine lv_iload_n hx hb md_M_placeOf_69 rfl (lv_at hl 4 rfl) ?_
          refine va_iald hx hb hK hP 9 1 rfl rfl ht md_M_placeOf_70 ?_
          refine lv_i2l (v := Int32.toInt64 (gS (Int32.toNatClampNeg turn))) hx hb md_M_placeOf_71 rfl ?_
          refine lv_lmul hx hb md_M_placeOf_72 ?_
          refine lv_lload hx hb md_M_placeOf_73 (lv_at hl 0 rfl) ?_
          refine lv_aload_n hx hb md_M_placeOf_75 rfl (lv_at hl 2 rfl) ?_
          refine va_get (D := (dC, dI)) (ci := 5) (v := .ref nC) (C := mR_M) (T := mT_M) (N := 18) hx hb hg gu_M hown hK hP 0 rfl rfl 16 (by decide) (hg _ wd_548) (fun _ h9 => h9) rfl md_M_placeOf_76 ?_
          refine lv_iload_n hx hb md_M_placeOf_79 rfl (lv_at hl 4 rfl) ?_
          refine va_iald hx hb hK hP 8 1 rfl rfl ht md_M_placeOf_80 ?_
          refine lv_i2l (v := Int32.toInt64 (gC (Int32.toNatClampNeg turn))) hx hb md_M_placeOf_81 rfl ?_
          refine lv_lmul hx hb md_M_placeOf_82 ?_
          refine lv_ladd hx hb md_M_placeOf_83 ?_
          exact pu_lret hx hb hr hlocks md_M_placeOf_84 (by rw [fM_placeOf, if_neg c1, if_neg c5, if_pos c6, if_neg c7])
        · refine lv_lload hx hb md_M_placeOf_39 (lv_at hl 1 rfl) ?_
          refine lv_aload_n hx hb md_M_placeOf_41 rfl (lv_at hl 2 rfl) ?_
          refine va_get (D := (dC, dI)) (ci := 5) (v := .ref nC) (C := mR_M) (T := mT_M) (N := 18) hx hb hg gu_M hown hK hP 0 rfl rfl 16 (by decide) (hg _ wd_548) (fun _ h9 => h9) rfl md_M_placeOf_42 ?_
          refine lv_iload_n hx hb md_M_placeOf_45 rfl (lv_at hl 4 rfl) ?_
          refine va_iald hx hb hK hP 8 1 rfl rfl ht md_M_placeOf_46 ?_
          refine lv_i2l (v := Int32.toInt64 (gC (Int32.toNatClampNeg turn))) hx hb md_M_placeOf_47 rfl ?_
          refine lv_lmul hx hb md_M_placeOf_48 ?_
          refine lv_lload hx hb md_M_placeOf_49 (lv_at hl 0 rfl) ?_
          refine lv_aload_n hx hb md_M_placeOf_51 rfl (lv_at hl 2 rfl) ?_
          refine va_get (D := (dC, dI)) (ci := 5) (v := .ref nS) (C := mR_M) (T := mT_M) (N := 18) hx hb hg gu_M hown hK hP 0 rfl rfl 17 (by decide) (hg _ wd_549) (fun _ h9 => h9) rfl md_M_placeOf_52 ?_
          refine lv_iload_n hx hb md_M_placeOf_55 rfl (lv_at hl 4 rfl) ?_
          refine va_iald hx hb hK hP 9 1 rfl rfl ht md_M_placeOf_56 ?_
          refine lv_i2l (v := Int32.toInt64 (gS (Int32.toNatClampNeg turn))) hx hb md_M_placeOf_57 rfl ?_
          refine lv_lmul hx hb md_M_placeOf_58 ?_
          refine lv_lsub hx hb md_M_placeOf_59 ?_
          refine lv_goto (tgt := 84) hx hb md_M_placeOf_60 (by decide) ?_
          exact pu_lret hx hb hr hlocks md_M_placeOf_84 (by rw [fM_placeOf, if_neg c1, if_neg c5, if_pos c6, if_pos c7])
      · refine lv_aload_n hx hb md_M_placeOf_25 rfl (lv_at hl 1 rfl) ?_
        refine va_get (D := (dC, dI)) (ci := 5) (v := .long vt) (C := mR_M) (T := mT_M) (N := 18) hx hb hg gu_M hown hK hP 0 rfl rfl 11 (by decide) (hg _ wd_543) (fun _ h9 => h9) rfl md_M_placeOf_26 ?_
        refine lv_goto (tgt := 33) hx hb md_M_placeOf_29 (by decide) ?_
        refine lv_lstore (lv' := [(6, .long vt), (4, .long 0), (0, .ref nA), (1, .int corner), (2, .int turn), (3, .int axis)]) hx hb md_M_placeOf_33 hl (by decide) rfl (fun ls hl => ?_)
        refine lv_iload_n hx hb md_M_placeOf_35 rfl (lv_at hl 5 rfl) ?_
        refine lv_if_ne (tgt := 63) hx hb md_M_placeOf_36 (by decide) (fun c8 => ?_) (fun c8 => ?_)
        · refine lv_lload hx hb md_M_placeOf_63 (lv_at hl 1 rfl) ?_
          refine lv_aload_n hx hb md_M_placeOf_65 rfl (lv_at hl 2 rfl) ?_
          refine va_get (D := (dC, dI)) (ci := 5) (v := .ref nS) (C := mR_M) (T := mT_M) (N := 18) hx hb hg gu_M hown hK hP 0 rfl rfl 17 (by decide) (hg _ wd_549) (fun _ h9 => h9) rfl md_M_placeOf_66 ?_
          refine lv_iload_n hx hb md_M_placeOf_69 rfl (lv_at hl 4 rfl) ?_
          refine va_iald hx hb hK hP 9 1 rfl rfl ht md_M_placeOf_70 ?_
          refine lv_i2l (v := Int32.toInt64 (gS (Int32.toNatClampNeg turn))) hx hb md_M_placeOf_71 rfl ?_
          refine lv_lmul hx hb md_M_placeOf_72 ?_
          refine lv_lload hx hb md_M_placeOf_73 (lv_at hl 0 rfl) ?_
          refine lv_aload_n hx hb md_M_placeOf_75 rfl (lv_at hl 2 rfl) ?_
          refine va_get (D := (dC, dI)) (ci := 5) (v := .ref nC) (C := mR_M) (T := mT_M) (N := 18) hx hb hg gu_M hown hK hP 0 rfl rfl 16 (by decide) (hg _ wd_548) (fun _ h9 => h9) rfl md_M_placeOf_76 ?_
          refine lv_iload_n hx hb md_M_placeOf_79 rfl (lv_at hl 4 rfl) ?_
          refine va_iald hx hb hK hP 8 1 rfl rfl ht md_M_placeOf_80 ?_
          refine lv_i2l (v := Int32.toInt64 (gC (Int32.toNatClampNeg turn))) hx hb md_M_placeOf_81 rfl ?_
          refine lv_lmul hx hb md_M_placeOf_82 ?_
          refine lv_ladd hx hb md_M_placeOf_83 ?_
          exact pu_lret hx hb hr hlocks md_M_placeOf_84 (by rw [fM_placeOf, if_neg c1, if_neg c5, if_neg c6, if_neg c8])
        · refine lv_lload hx hb md_M_placeOf_39 (lv_at hl 1 rfl) ?_
          refine lv_aload_n hx hb md_M_placeOf_41 rfl (lv_at hl 2 rfl) ?_
          refine va_get (D := (dC, dI)) (ci := 5) (v := .ref nC) (C := mR_M) (T := mT_M) (N := 18) hx hb hg gu_M hown hK hP 0 rfl rfl 16 (by decide) (hg _ wd_548) (fun _ h9 => h9) rfl md_M_placeOf_42 ?_
          refine lv_iload_n hx hb md_M_placeOf_45 rfl (lv_at hl 4 rfl) ?_
          refine va_iald hx hb hK hP 8 1 rfl rfl ht md_M_placeOf_46 ?_
          refine lv_i2l (v := Int32.toInt64 (gC (Int32.toNatClampNeg turn))) hx hb md_M_placeOf_47 rfl ?_
          refine lv_lmul hx hb md_M_placeOf_48 ?_
          refine lv_lload hx hb md_M_placeOf_49 (lv_at hl 0 rfl) ?_
          refine lv_aload_n hx hb md_M_placeOf_51 rfl (lv_at hl 2 rfl) ?_
          refine va_get (D := (dC, dI)) (ci := 5) (v := .ref nS) (C := mR_M) (T := mT_M) (N := 18) hx hb hg gu_M hown hK hP 0 rfl rfl 17 (by decide) (hg _ wd_549) (fun _ h9 => h9) rfl md_M_placeOf_52 ?_
          refine lv_iload_n hx hb md_M_placeOf_55 rfl (lv_at hl 4 rfl) ?_
          refine va_iald hx hb hK hP 9 1 rfl rfl ht md_M_placeOf_56 ?_
          refine lv_i2l (v := Int32.toInt64 (gS (Int32.toNatClampNeg turn))) hx hb md_M_placeOf_57 rfl ?_
          refine lv_lmul hx hb md_M_placeOf_58 ?_
          refine lv_lsub hx hb md_M_placeOf_59 ?_
          refine lv_goto (tgt := 84) hx hb md_M_placeOf_60 (by decide) ?_
          exact pu_lret hx hb hr hlocks md_M_placeOf_84 (by rw [fM_placeOf, if_neg c1, if_neg c5, if_neg c6, if_pos c8])
    · refine lv_aload_n hx hb md_M_placeOf_10 rfl (lv_at hl 0 rfl) ?_
      refine va_get (D := (dC, dI)) (ci := 5) (v := .long vw) (C := mR_M) (T := mT_M) (N := 18) hx hb hg gu_M hown hK hP 0 rfl rfl 9 (by decide) (hg _ wd_541) (fun _ h9 => h9) rfl md_M_placeOf_11 ?_
      refine lv_goto (tgt := 18) hx hb md_M_placeOf_14 (by decide) ?_
      refine lv_lstore (lv' := [(4, .long vw), (0, .ref nA), (1, .int corner), (2, .int turn), (3, .int axis)]) hx hb md_M_placeOf_18 hl (by decide) rfl (fun ls hl => ?_)
      refine lv_iload_n hx hb md_M_placeOf_20 rfl (lv_at hl 2 rfl) ?_
      refine lv_iconst (v := 2) hx hb md_M_placeOf_21 (by decide) ?_
      refine lv_icmp_lt (tgt := 32) hx hb md_M_placeOf_22 (by decide) (fun c9 => ?_) (fun c9 => ?_)
      · refine lv_lconst (v := 0) hx hb md_M_placeOf_32 (by decide) ?_
        refine lv_lstore (lv' := [(6, .long 0), (4, .long vw), (0, .ref nA), (1, .int corner), (2, .int turn), (3, .int axis)]) hx hb md_M_placeOf_33 hl (by decide) rfl (fun ls hl => ?_)
        refine lv_iload_n hx hb md_M_placeOf_35 rfl (lv_at hl 5 rfl) ?_
        refine lv_if_ne (tgt := 63) hx hb md_M_placeOf_36 (by decide) (fun c10 => ?_) (fun c10 => ?_)
        · refine lv_lload hx hb md_M_placeOf_63 (lv_at hl 1 rfl) ?_
          refine lv_aload_n hx hb md_M_placeOf_65 rfl (lv_at hl 2 rfl) ?_
          refine va_get (D := (dC, dI)) (ci := 5) (v := .ref nS) (C := mR_M) (T := mT_M) (N := 18) hx hb hg gu_M hown hK hP 0 rfl rfl 17 (by decide) (hg _ wd_549) (fun _ h9 => h9) rfl md_M_placeOf_66 ?_
          refine lv_iload_n hx hb md_M_placeOf_69 rfl (lv_at hl 4 rfl) ?_
          refine va_iald hx hb hK hP 9 1 rfl rfl ht md_M_placeOf_70 ?_
          refine lv_i2l (v := Int32.toInt64 (gS (Int32.toNatClampNeg turn))) hx hb md_M_placeOf_71 rfl ?_
          refine lv_lmul hx hb md_M_placeOf_72 ?_
          refine lv_lload hx hb md_M_placeOf_73 (lv_at hl 0 rfl) ?_
          refine lv_aload_n hx hb md_M_placeOf_75 rfl (lv_at hl 2 rfl) ?_
          refine va_get (D := (dC, dI)) (ci := 5) (v := .ref nC) (C := mR_M) (T := mT_M) (N := 18) hx hb hg gu_M hown hK hP 0 rfl rfl 16 (by decide) (hg _ wd_548) (fun _ h9 => h9) rfl md_M_placeOf_76 ?_
          refine lv_iload_n hx hb md_M_placeOf_79 rfl (lv_at hl 4 rfl) ?_
          refine va_iald hx hb hK hP 8 1 rfl rfl ht md_M_placeOf_80 ?_
          refine lv_i2l (v := Int32.toInt64 (gC (Int32.toNatClampNeg turn))) hx hb md_M_placeOf_81 rfl ?_
          refine lv_lmul hx hb md_M_placeOf_82 ?_
          refine lv_ladd hx hb md_M_placeOf_83 ?_
          exact pu_lret hx hb hr hlocks md_M_placeOf_84 (by rw [fM_placeOf, if_neg c1, if_pos c5, if_pos c9, if_neg c10])
        · refine lv_lload hx hb md_M_placeOf_39 (lv_at hl 1 rfl) ?_
          refine lv_aload_n hx hb md_M_placeOf_41 rfl (lv_at hl 2 rfl) ?_
          refine va_get (D := (dC, dI)) (ci := 5) (v := .ref nC) (C := mR_M) (T := mT_M) (N := 18) hx hb hg gu_M hown hK hP 0 rfl rfl 16 (by decide) (hg _ wd_548) (fun _ h9 => h9) rfl md_M_placeOf_42 ?_
          refine lv_iload_n hx hb md_M_placeOf_45 rfl (lv_at hl 4 rfl) ?_
          refine va_iald hx hb hK hP 8 1 rfl rfl ht md_M_placeOf_46 ?_
          refine lv_i2l (v := Int32.toInt64 (gC (Int32.toNatClampNeg turn))) hx hb md_M_placeOf_47 rfl ?_
          refine lv_lmul hx hb md_M_placeOf_48 ?_
          refine lv_lload hx hb md_M_placeOf_49 (lv_at hl 0 rfl) ?_
          refine lv_aload_n hx hb md_M_placeOf_51 rfl (lv_at hl 2 rfl) ?_
          refine va_get (D := (dC, dI)) (ci := 5) (v := .ref nS) (C := mR_M) (T := mT_M) (N := 18) hx hb hg gu_M hown hK hP 0 rfl rfl 17 (by decide) (hg _ wd_549) (fun _ h9 => h9) rfl md_M_placeOf_52 ?_
          refine lv_iload_n hx hb md_M_placeOf_55 rfl (lv_at hl 4 rfl) ?_
          refine va_iald hx hb hK hP 9 1 rfl rfl ht md_M_placeOf_56 ?_
          refine lv_i2l (v := Int32.toInt64 (gS (Int32.toNatClampNeg turn))) hx hb md_M_placeOf_57 rfl ?_
          refine lv_lmul hx hb md_M_placeOf_58 ?_
          refine lv_lsub hx hb md_M_placeOf_59 ?_
          refine lv_goto (tgt := 84) hx hb md_M_placeOf_60 (by decide) ?_
          exact pu_lret hx hb hr hlocks md_M_placeOf_84 (by rw [fM_placeOf, if_neg c1, if_pos c5, if_pos c9, if_pos c10])
      · refine lv_aload_n hx hb md_M_placeOf_25 rfl (lv_at hl 1 rfl) ?_
        refine va_get (D := (dC, dI)) (ci := 5) (v := .long vt) (C := mR_M) (T := mT_M) (N := 18) hx hb hg gu_M hown hK hP 0 rfl rfl 11 (by decide) (hg _ wd_543) (fun _ h9 => h9) rfl md_M_placeOf_26 ?_
        refine lv_goto (tgt := 33) hx hb md_M_placeOf_29 (by decide) ?_
        refine lv_lstore (lv' := [(6, .long vt), (4, .long vw), (0, .ref nA), (1, .int corner), (2, .int turn), (3, .int axis)]) hx hb md_M_placeOf_33 hl (by decide) rfl (fun ls hl => ?_)
        refine lv_iload_n hx hb md_M_placeOf_35 rfl (lv_at hl 5 rfl) ?_
        refine lv_if_ne (tgt := 63) hx hb md_M_placeOf_36 (by decide) (fun c11 => ?_) (fun c11 => ?_)
        · refine lv_lload hx hb md_M_placeOf_63 (lv_at hl 1 rfl) ?_
          refine lv_aload_n hx hb md_M_placeOf_65 rfl (lv_at hl 2 rfl) ?_
          refine va_get (D := (dC, dI)) (ci := 5) (v := .ref nS) (C := mR_M) (T := mT_M) (N := 18) hx hb hg gu_M hown hK hP 0 rfl rfl 17 (by decide) (hg _ wd_549) (fun _ h9 => h9) rfl md_M_placeOf_66 ?_
          refine lv_iload_n hx hb md_M_placeOf_69 rfl (lv_at hl 4 rfl) ?_
          refine va_iald hx hb hK hP 9 1 rfl rfl ht md_M_placeOf_70 ?_
          refine lv_i2l (v := Int32.toInt64 (gS (Int32.toNatClampNeg turn))) hx hb md_M_placeOf_71 rfl ?_
          refine lv_lmul hx hb md_M_placeOf_72 ?_
          refine lv_lload hx hb md_M_placeOf_73 (lv_at hl 0 rfl) ?_
          refine lv_aload_n hx hb md_M_placeOf_75 rfl (lv_at hl 2 rfl) ?_
          refine va_get (D := (dC, dI)) (ci := 5) (v := .ref nC) (C := mR_M) (T := mT_M) (N := 18) hx hb hg gu_M hown hK hP 0 rfl rfl 16 (by decide) (hg _ wd_548) (fun _ h9 => h9) rfl md_M_placeOf_76 ?_
          refine lv_iload_n hx hb md_M_placeOf_79 rfl (lv_at hl 4 rfl) ?_
          refine va_iald hx hb hK hP 8 1 rfl rfl ht md_M_placeOf_80 ?_
          refine lv_i2l (v := Int32.toInt64 (gC (Int32.toNatClampNeg turn))) hx hb md_M_placeOf_81 rfl ?_
          refine lv_lmul hx hb md_M_placeOf_82 ?_
          refine lv_ladd hx hb md_M_placeOf_83 ?_
          exact pu_lret hx hb hr hlocks md_M_placeOf_84 (by rw [fM_placeOf, if_neg c1, if_pos c5, if_neg c9, if_neg c11])
        · refine lv_lload hx hb md_M_placeOf_39 (lv_at hl 1 rfl) ?_
          refine lv_aload_n hx hb md_M_placeOf_41 rfl (lv_at hl 2 rfl) ?_
          refine va_get (D := (dC, dI)) (ci := 5) (v := .ref nC) (C := mR_M) (T := mT_M) (N := 18) hx hb hg gu_M hown hK hP 0 rfl rfl 16 (by decide) (hg _ wd_548) (fun _ h9 => h9) rfl md_M_placeOf_42 ?_
          refine lv_iload_n hx hb md_M_placeOf_45 rfl (lv_at hl 4 rfl) ?_
          refine va_iald hx hb hK hP 8 1 rfl rfl ht md_M_placeOf_46 ?_
          refine lv_i2l (v := Int32.toInt64 (gC (Int32.toNatClampNeg turn))) hx hb md_M_placeOf_47 rfl ?_
          refine lv_lmul hx hb md_M_placeOf_48 ?_
          refine lv_lload hx hb md_M_placeOf_49 (lv_at hl 0 rfl) ?_
          refine lv_aload_n hx hb md_M_placeOf_51 rfl (lv_at hl 2 rfl) ?_
          refine va_get (D := (dC, dI)) (ci := 5) (v := .ref nS) (C := mR_M) (T := mT_M) (N := 18) hx hb hg gu_M hown hK hP 0 rfl rfl 17 (by decide) (hg _ wd_549) (fun _ h9 => h9) rfl md_M_placeOf_52 ?_
          refine lv_iload_n hx hb md_M_placeOf_55 rfl (lv_at hl 4 rfl) ?_
          refine va_iald hx hb hK hP 9 1 rfl rfl ht md_M_placeOf_56 ?_
          refine lv_i2l (v := Int32.toInt64 (gS (Int32.toNatClampNeg turn))) hx hb md_M_placeOf_57 rfl ?_
          refine lv_lmul hx hb md_M_placeOf_58 ?_
          refine lv_lsub hx hb md_M_placeOf_59 ?_
          refine lv_goto (tgt := 84) hx hb md_M_placeOf_60 (by decide) ?_
          exact pu_lret hx hb hr hlocks md_M_placeOf_84 (by rw [fM_placeOf, if_neg c1, if_pos c5, if_neg c9, if_pos c11])

def fM_replaces (gO : Nat → Int32) (gV : Nat → Int32) (oth : Int32) (row : Int32) : Int32 := if (fM_number gO row 0) < (fM_number gO oth 0) then (if oth = row then 0 else (if (fM_isThere gO gV oth 104) = 0 then 0 else 0)) else (if (fM_number gO oth 1) < (fM_number gO row 1) then (if oth = row then 0 else (if (fM_isThere gO gV oth 104) = 0 then 0 else 0)) else (if (fM_number gO row 2) < (fM_number gO oth 2) then (if oth = row then 0 else (if (fM_isThere gO gV oth 104) = 0 then 0 else 0)) else (if (fM_number gO oth 3) < (fM_number gO row 3) then (if oth = row then 0 else (if (fM_isThere gO gV oth 104) = 0 then 0 else 0)) else (if oth = row then 0 else (if (fM_isThere gO gV oth 104) = 0 then 0 else (if (fM_number gO oth 4) < (fM_number gO row 4) then 0 else 1))))))
theorem zM_replaces (gO : Nat → Int32) (gV : Nat → Int32) (oth : Int32) (row : Int32) : narrow .boolean (.int (fM_replaces gO gV oth row)) = .int (fM_replaces gO gV oth row) := by
  unfold fM_replaces
  repeat' split
  all_goals first | rfl | exact zK_isWithin _ _ _
set_option maxHeartbeats 1000000 in
set_option maxRecDepth 100000 in
theorem ct_M_replaces (l : Launch) (dC : Nat → ClassId) (dI : Nat → Nat → Nat) (cC cI cJ : ClassId) (nA : Nat) (nT : Nat) (nO : Nat) (nU : Nat) (nV : Nat) (nX : Nat) (nY : Nat) (nR : Nat) (nC : Nat) (nS : Nat) (gT : Nat → Int32) (gO : Nat → Int32) (gU : Nat → Int32) (gV : Nat → Int32) (gX : Nat → Int64) (gY : Nat → Int64) (gR : Nat → Int64) (gC : Nat → Int32) (gS : Nat → Int32) (vc : Int32) (vs : Int32) (va : Int32) (vf : Int32) (vr : Int32) (vw : Int64) (vh : Int64) (vt : Int64) (vd : Int64) (oth : Int32) (row : Int32) (hoth0 : vp_in (8 * oth + 2 + 0) 128) (hoth1 : vp_in (8 * oth + 2 + 1) 128) (hoth2 : vp_in (8 * oth + 2 + 2) 128) (hoth3 : vp_in (8 * oth + 2 + 3) 128) (hoth4 : vp_in (8 * oth + 2 + 4) 128) (hrow0 : vp_in (8 * row + 2 + 0) 128) (hrow1 : vp_in (8 * row + 2 + 1) 128) (hrow2 : vp_in (8 * row + 2 + 2) 128) (hrow3 : vp_in (8 * row + 2 + 3) 128) (hrow4 : vp_in (8 * row + 2 + 4) 128) (ho8 : vp_in (8 * oth) 128) (ho : vp_in oth 16) : Met l my_M_replaces (.code my_M_replaces mb_M_replaces 4 (some .boolean) :: gw_l) ({ frames := 1, cells := 0, slots := 0, locals := 22 }) (pu_Pc (dC, dI) mC [(cC, .char), (cI, .int), (cJ, .long)] [(nA, .inr (5, [.int vc, .ref nT, .int vs, .int va, .int vf, .int vr, .ref nO, .ref nU, .ref nV, .long vw, .long vh, .long vt, .long vd, .ref nX, .ref nY, .ref nR, .ref nC, .ref nS])), (nT, .inl (cI, 300, .inl gT)), (nO, .inl (cI, 128, .inl gO)), (nU, .inl (cI, 128, .inl gU)), (nV, .inl (cI, 16, .inl gV)), (nX, .inl (cJ, 16, .inr (.inl gX))), (nY, .inl (cJ, 16, .inr (.inl gY))), (nR, .inl (cJ, 16, .inr (.inl gR))), (nC, .inl (cI, 9, .inl gC)), (nS, .inl (cI, 9, .inl gS))] (fun _ => True) [.ref nA, .int oth, .int row]) (vp_Si (fun r => r = fM_replaces gO gV oth row)) 0 0 (fun _ => False) := by
  refine Met.ofW (cc := mb_M_replaces) (maxL := 4) (ret := (some .boolean)) (by decide) rfl ?_
  intro p e s m args below meth c s₁ B hml hv
  obtain ⟨rfl, hP, hK, hE⟩ := hv
  have hx := B.exec
  have hb := B.bytes
  have hr := B.returns
  have hts := atoms_spec (ws := (.code my_M_replaces mb_M_replaces 4 (some .boolean) :: gw_l)) B.pre
  have hg : ∀ w ∈ gw_l, w.before _ s = true := fun w h => hts w (List.mem_cons_of_mem _ h)
  have hown : s.vm.findClass mR_M = some m.cls := findClass_of_methodNamed B.named
  have hlocks := B.notSynchronized
  have hl := lv_entry ([.ref nA, .int oth, .int row]) (n := 4) (Nat.le_of_ble_eq_true rfl)
  rw [lg_entry_eq]
  generalize (lg_sl ([.ref nA, .int oth, .int row]) ++ List.replicate (4 - (lg_sl ([.ref nA, .int oth, .int row])).length) Slot.unset).toArray = ls at hl ⊢
  have hl : lv_has ls 4 [(0, .ref nA), (1, .int oth), (2, .int row)] := hl
  refine lv_aload_n hx hb md_M_replaces_0 rfl (lv_at hl 0 rfl) ?_
  refine lv_iload_n hx hb md_M_replaces_1 rfl (lv_at hl 1 rfl) ?_
  refine lv_iconst (v := 0) hx hb md_M_replaces_2 (by decide) ?_
  have hPc1 := hP.sub (ws' := [(nA, .inr (5, [.int vc, .ref nT, .int vs, .int va, .int vf, .int vr, .ref nO, .ref nU, .ref nV, .long vw, .long vh, .long vt, .long vd, .ref nX, .ref nY, .ref nR, .ref nC, .ref nS])), (nT, .inl (cI, 300, .inl gT)), (nO, .inl (cI, 128, .inl gO)), (nU, .inl (cI, 128, .inl gU)), (nV, .inl (cI, 16, .inl gV)), (nX, .inl (cJ, 16, .inr (.inl gX))), (nY, .inl (cJ, 16, .inr (.inl gY))), (nR, .inl (cJ, 16, .inr (.inl gR))), (nC, .inl (cI, 9, .inl gC)), (nS, .inl (cI, 9, .inl gS))]) [0, 1, 2, 3, 4, 5, 6, 7, 8, 9] rfl
  refine pu_l (W.runV (As := [.int oth, .int 0]) (rest := []) ⟨hx, hb, hml, hown, hg⟩ (ct_M_number l dC dI cC cI cJ nA nT nO nU nV nX nY nR nC nS gT gO gU gV gX gY gR gC gS vc vs va vf vr vw vh vt vd oth 0 hoth0) (gw_cwV hg wd_640 mv_M_number rfl rfl ⟨Nat.le_of_ble_eq_true rfl, Nat.le_of_ble_eq_true rfl⟩) (pu_preV (ci := 5) (q0 := 0) pu_blT hK hPc1 pu_e1 rfl rfl) rfl rfl hl.1 rfl (lv_room (Nat.le_of_ble_eq_true rfl)) md_M_replaces_3 ⟨Nat.zero_le _, Nat.zero_le _⟩) ?_
  refine lv_aload_n hx hb md_M_replaces_6 rfl (lv_at hl 0 rfl) ?_
  refine lv_iload_n hx hb md_M_replaces_7 rfl (lv_at hl 2 rfl) ?_
  refine lv_iconst (v := 0) hx hb md_M_replaces_8 (by decide) ?_
  have hPc2 := hP.sub (ws' := [(nA, .inr (5, [.int vc, .ref nT, .int vs, .int va, .int vf, .int vr, .ref nO, .ref nU, .ref nV, .long vw, .long vh, .long vt, .long vd, .ref nX, .ref nY, .ref nR, .ref nC, .ref nS])), (nT, .inl (cI, 300, .inl gT)), (nO, .inl (cI, 128, .inl gO)), (nU, .inl (cI, 128, .inl gU)), (nV, .inl (cI, 16, .inl gV)), (nX, .inl (cJ, 16, .inr (.inl gX))), (nY, .inl (cJ, 16, .inr (.inl gY))), (nR, .inl (cJ, 16, .inr (.inl gR))), (nC, .inl (cI, 9, .inl gC)), (nS, .inl (cI, 9, .inl gS))]) [0, 1, 2, 3, 4, 5, 6, 7, 8, 9] rfl
  refine pu_l (W.runV (As := [.int row, .int 0]) (rest := [.long (fM_number gO oth 0)]) ⟨hx, hb, hml, hown, hg⟩ (ct_M_number l dC dI cC cI cJ nA nT nO nU nV nX nY nR nC nS gT gO gU gV gX gY gR gC gS vc vs va vf vr vw vh vt vd row 0 hrow0) (gw_cwV hg wd_640 mv_M_number rfl rfl ⟨Nat.le_of_ble_eq_true rfl, Nat.le_of_ble_eq_true rfl⟩) (pu_preV (ci := 5) (q0 := 0) pu_blT hK hPc2 pu_e1 rfl rfl) rfl rfl hl.1 rfl (lv_room (Nat.le_of_ble_eq_true rfl)) md_M_replaces_9 ⟨Nat.zero_le _, Nat.zero_le _⟩) ?_
  refine lx_gt (tgt := 68) hx hb md_M_replaces_12 md_M_replaces_13 (by decide) (fun c3 => ?_) (fun c3 => ?_)
  · refine lv_iconst (v := 0) hx hb md_M_replaces_68 (by decide) ?_
    refine lv_istore_n (lv' := [(3, .int 0), (0, .ref nA), (1, .int oth), (2, .int row)]) hx hb md_M_replaces_69 rfl hl (by decide) rfl (fun ls hl => ?_)
    refine lv_iload_n hx hb md_M_replaces_70 rfl (lv_at hl 2 rfl) ?_
    refine lv_iload_n hx hb md_M_replaces_71 rfl (lv_at hl 3 rfl) ?_
    refine lv_icmp_eq (tgt := 109) hx hb md_M_replaces_72 (by decide) (fun c4 => ?_) (fun c4 => ?_)
    · refine lv_iconst (v := 0) hx hb md_M_replaces_109 (by decide) ?_
      exact pu_zret hx hb hr hlocks rfl md_M_replaces_110 (by rw [fM_replaces, if_pos c3, if_pos c4])
    · refine lv_aload_n hx hb md_M_replaces_75 rfl (lv_at hl 1 rfl) ?_
      refine lv_iload_n hx hb md_M_replaces_76 rfl (lv_at hl 2 rfl) ?_
      refine lv_bipush (v := 104) hx hb md_M_replaces_77 (by decide) ?_
      have hPc5 := hP.sub (ws' := [(nA, .inr (5, [.int vc, .ref nT, .int vs, .int va, .int vf, .int vr, .ref nO, .ref nU, .ref nV, .long vw, .long vh, .long vt, .long vd, .ref nX, .ref nY, .ref nR, .ref nC, .ref nS])), (nT, .inl (cI, 300, .inl gT)), (nO, .inl (cI, 128, .inl gO)), (nU, .inl (cI, 128, .inl gU)), (nV, .inl (cI, 16, .inl gV)), (nX, .inl (cJ, 16, .inr (.inl gX))), (nY, .inl (cJ, 16, .inr (.inl gY))), (nR, .inl (cJ, 16, .inr (.inl gR))), (nC, .inl (cI, 9, .inl gC)), (nS, .inl (cI, 9, .inl gS))]) [0, 1, 2, 3, 4, 5, 6, 7, 8, 9] rfl
      refine pu_i (W.runV (As := [.int oth, .int 104]) (rest := []) ⟨hx, hb, hml, hown, hg⟩ (ct_M_isThere l dC dI cC cI cJ nA nT nO nU nV nX nY nR nC nS gT gO gU gV gX gY gR gC gS vc vs va vf vr vw vh vt vd oth 104 ho8 ho) (gw_cwV hg wd_644 mv_M_isThere rfl rfl ⟨Nat.le_of_ble_eq_true rfl, Nat.le_of_ble_eq_true rfl⟩) (pu_preV (ci := 5) (q0 := 0) pu_blT hK hPc5 pu_e1 rfl rfl) rfl rfl hl.1 rfl (lv_room (Nat.le_of_ble_eq_true rfl)) md_M_replaces_79 ⟨Nat.zero_le _, Nat.zero_le _⟩) ?_
      refine lv_if_eq (tgt := 109) hx hb md_M_replaces_82 (by decide) (fun c6 => ?_) (fun c6 => ?_)
      · refine lv_iconst (v := 0) hx hb md_M_replaces_109 (by decide) ?_
        exact pu_zret hx hb hr hlocks rfl md_M_replaces_110 (by rw [fM_replaces, if_pos c3, if_neg c4, if_pos c6])
      · refine lv_iload_n hx hb md_M_replaces_85 rfl (lv_at hl 0 rfl) ?_
        refine lv_if_eq (tgt := 109) hx hb md_M_replaces_86 (by decide) (fun _ => ?_) (fun c7 => absurd (by decide) c7)
        refine lv_iconst (v := 0) hx hb md_M_replaces_109 (by decide) ?_
        exact pu_zret hx hb hr hlocks rfl md_M_replaces_110 (by rw [fM_replaces, if_pos c3, if_neg c4, if_neg c6])
  · refine lv_aload_n hx hb md_M_replaces_16 rfl (lv_at hl 0 rfl) ?_
    refine lv_iload_n hx hb md_M_replaces_17 rfl (lv_at hl 1 rfl) ?_
    refine lv_iconst (v := 1) hx hb md_M_replaces_18 (by decide) ?_
    have hPc8 := hP.sub (ws' := [(nA, .inr (5, [.int vc, .ref nT, .int vs, .int va, .int vf, .int vr, .ref nO, .ref nU, .ref nV, .long vw, .long vh, .long vt, .long vd, .ref nX, .ref nY, .ref nR, .ref nC, .ref nS])), (nT, .inl (cI, 300, .inl gT)), (nO, .inl (cI, 128, .inl gO)), (nU, .inl (cI, 128, .inl gU)), (nV, .inl (cI, 16, .inl gV)), (nX, .inl (cJ, 16, .inr (.inl gX))), (nY, .inl (cJ, 16, .inr (.inl gY))), (nR, .inl (cJ, 16, .inr (.inl gR))), (nC, .inl (cI, 9, .inl gC)), (nS, .inl (cI, 9, .inl gS))]) [0, 1, 2, 3, 4, 5, 6, 7, 8, 9] rfl
    refine pu_l (W.runV (As := [.int oth, .int 1]) (rest := []) ⟨hx, hb, hml, hown, hg⟩ (ct_M_number l dC dI cC cI cJ nA nT nO nU nV nX nY nR nC nS gT gO gU gV gX gY gR gC gS vc vs va vf vr vw vh vt vd oth 1 hoth1) (gw_cwV hg wd_640 mv_M_number rfl rfl ⟨Nat.le_of_ble_eq_true rfl, Nat.le_of_ble_eq_true rfl⟩) (pu_preV (ci := 5) (q0 := 0) pu_blT hK hPc8 pu_e1 rfl rfl) rfl rfl hl.1 rfl (lv_room (Nat.le_of_ble_eq_true rfl)) md_M_replaces_19 ⟨Nat.zero_le _, Nat.zero_le _⟩) ?_
    refine lv_aload_n hx hb md_M_replaces_22 rfl (lv_at hl 0 rfl) ?_
    refine lv_iload_n hx hb md_M_replaces_23 rfl (lv_at hl 2 rfl) ?_
    refine lv_iconst (v := 1) hx hb md_M_replaces_24 (by decide) ?_
    have hPc9 := hP.sub (ws' := [(nA, .inr (5, [.int vc, .ref nT, .int vs, .int va, .int vf, .int vr, .ref nO, .ref nU, .ref nV, .long vw, .long vh, .long vt, .long vd, .ref nX, .ref nY, .ref nR, .ref nC, .ref nS])), (nT, .inl (cI, 300, .inl gT)), (nO, .inl (cI, 128, .inl gO)), (nU, .inl (cI, 128, .inl gU)), (nV, .inl (cI, 16, .inl gV)), (nX, .inl (cJ, 16, .inr (.inl gX))), (nY, .inl (cJ, 16, .inr (.inl gY))), (nR, .inl (cJ, 16, .inr (.inl gR))), (nC, .inl (cI, 9, .inl gC)), (nS, .inl (cI, 9, .inl gS))]) [0, 1, 2, 3, 4, 5, 6, 7, 8, 9] rfl
    refine pu_l (W.runV (As := [.int row, .int 1]) (rest := [.long (fM_number gO oth 1)]) ⟨hx, hb, hml, hown, hg⟩ (ct_M_number l dC dI cC cI cJ nA nT nO nU nV nX nY nR nC nS gT gO gU gV gX gY gR gC gS vc vs va vf vr vw vh vt vd row 1 hrow1) (gw_cwV hg wd_640 mv_M_number rfl rfl ⟨Nat.le_of_ble_eq_true rfl, Nat.le_of_ble_eq_true rfl⟩) (pu_preV (ci := 5) (q0 := 0) pu_blT hK hPc9 pu_e1 rfl rfl) rfl rfl hl.1 rfl (lv_room (Nat.le_of_ble_eq_true rfl)) md_M_replaces_25 ⟨Nat.zero_le _, Nat.zero_le _⟩) ?_
    refine lx_lt (tgt := 68) hx hb md_M_replaces_28 md_M_replaces_29 (by decide) (fun c10 => ?_) (fun c10 => ?_)
    · refine lv_iconst (v := 0) hx hb md_M_replaces_68 (by decide) ?_
      refine lv_istore_n (lv' := [(3, .int 0), (0, .ref nA), (1, .int oth), (2, .int row)]) hx hb md_M_replaces_69 rfl hl (by decide) rfl (fun ls hl => ?_)
      refine lv_iload_n hx hb md_M_replaces_70 rfl (lv_at hl 2 rfl) ?_
      refine lv_iload_n hx hb md_M_replaces_71 rfl (lv_at hl 3 rfl) ?_
      refine lv_icmp_eq (tgt := 109) hx hb md_M_replaces_72 (by decide) (fun c11 => ?_) (fun c11 => ?_)
      · refine lv_iconst (v := 0) hx hb md_M_replaces_109 (by decide) ?_
        exact pu_zret hx hb hr hlocks rfl md_M_replaces_110 (by rw [fM_replaces, if_neg c3, if_pos c10, if_pos c11])
      · refine lv_aload_n hx hb md_M_replaces_75 rfl (lv_at hl 1 rfl) ?_
        refine lv_iload_n hx hb md_M_replaces_76 rfl (lv_at hl 2 rfl) ?_
        refine lv_bipush (v := 104) hx hb md_M_replaces_77 (by decide) ?_
        have hPc12 := hP.sub (ws' := [(nA, .inr (5, [.int vc, .ref nT, .int vs, .int va, .int vf, .int vr, .ref nO, .ref nU, .ref nV, .long vw, .long vh, .long vt, .long vd, .ref nX, .ref nY, .ref nR, .ref nC, .ref nS])), (nT, .inl (cI, 300, .inl gT)), (nO, .inl (cI, 128, .inl gO)), (nU, .inl (cI, 128, .inl gU)), (nV, .inl (cI, 16, .inl gV)), (nX, .inl (cJ, 16, .inr (.inl gX))), (nY, .inl (cJ, 16, .inr (.inl gY))), (nR, .inl (cJ, 16, .inr (.inl gR))), (nC, .inl (cI, 9, .inl gC)), (nS, .inl (cI, 9, .inl gS))]) [0, 1, 2, 3, 4, 5, 6, 7, 8, 9] rfl
        refine pu_i (W.runV (As := [.int oth, .int 104]) (rest := []) ⟨hx, hb, hml, hown, hg⟩ (ct_M_isThere l dC dI cC cI cJ nA nT nO nU nV nX nY nR nC nS gT gO gU gV gX gY gR gC gS vc vs va vf vr vw vh vt vd oth 104 ho8 ho) (gw_cwV hg wd_644 mv_M_isThere rfl rfl ⟨Nat.le_of_ble_eq_true rfl, Nat.le_of_ble_eq_true rfl⟩) (pu_preV (ci := 5) (q0 := 0) pu_blT hK hPc12 pu_e1 rfl rfl) rfl rfl hl.1 rfl (lv_room (Nat.le_of_ble_eq_true rfl)) md_M_replaces_79 ⟨Nat.zero_le _, Nat.zero_le _⟩) ?_
        refine lv_if_eq (tgt := 109) hx hb md_M_replaces_82 (by decide) (fun c13 => ?_) (fun c13 => ?_)
        · refine lv_iconst (v := 0) hx hb md_M_replaces_109 (by decide) ?_
          exact pu_zret hx hb hr hlocks rfl md_M_replaces_110 (by rw [fM_replaces, if_neg c3, if_pos c10, if_neg c11, if_pos c13])
        · refine lv_iload_n hx hb md_M_replaces_85 rfl (lv_at hl 0 rfl) ?_
          refine lv_if_eq (tgt := 109) hx hb md_M_replaces_86 (by decide) (fun _ => ?_) (fun c14 => absurd (by decide) c14)
          refine lv_iconst (v := 0) hx hb md_M_replaces_109 (by decide) ?_
          exact pu_zret hx hb hr hlocks rfl md_M_replaces_110 (by rw [fM_replaces, if_neg c3, if_pos c10, if_neg c11, if_neg c13])
    · refine lv_aload_n hx hb md_M_replaces_32 rfl (lv_at hl 0 rfl) ?_
      refine lv_iload_n hx hb md_M_replaces_33 rfl (lv_at hl 1 rfl) ?_
      refine lv_iconst (v := 2) hx hb md_M_replaces_34 (by decide) ?_
      have hPc15 := hP.sub (ws' := [(nA, .inr (5, [.int vc, .ref nT, .int vs, .int va, .int vf, .int vr, .ref nO, .ref nU, .ref nV, .long vw, .long vh, .long vt, .long vd, .ref nX, .ref nY, .ref nR, .ref nC, .ref nS])), (nT, .inl (cI, 300, .inl gT)), (nO, .inl (cI, 128, .inl gO)), (nU, .inl (cI, 128, .inl gU)), (nV, .inl (cI, 16, .inl gV)), (nX, .inl (cJ, 16, .inr (.inl gX))), (nY, .inl (cJ, 16, .inr (.inl gY))), (nR, .inl (cJ, 16, .inr (.inl gR))), (nC, .inl (cI, 9, .inl gC)), (nS, .inl (cI, 9, .inl gS))]) [0, 1, 2, 3, 4, 5, 6, 7, 8, 9] rfl
      refine pu_l (W.runV (As := [.int oth, .int 2]) (rest := []) ⟨hx, hb, hml, hown, hg⟩ (ct_M_number l dC dI cC cI cJ nA nT nO nU nV nX nY nR nC nS gT gO gU gV gX gY gR gC gS vc vs va vf vr vw vh vt vd oth 2 hoth2) (gw_cwV hg wd_640 mv_M_number rfl rfl ⟨Nat.le_of_ble_eq_true rfl, Nat.le_of_ble_eq_true rfl⟩) (pu_preV (ci := 5) (q0 := 0) pu_blT hK hPc15 pu_e1 rfl rfl) rfl rfl hl.1 rfl (lv_room (Nat.le_of_ble_eq_true rfl)) md_M_replaces_35 ⟨Nat.zero_le _, Nat.zero_le _⟩) ?_
      refine lv_aload_n hx hb md_M_replaces_38 rfl (lv_at hl 0 rfl) ?_
      refine lv_iload_n hx hb md_M_replaces_39 rfl (lv_at hl 2 rfl) ?_
      refine lv_iconst (v := 2) hx hb md_M_replaces_40 (by decide) ?_
      have hPc16 := hP.sub (ws' := [(nA, .inr (5, [.int vc, .ref nT, .int vs, .int va, .int vf, .int vr, .ref nO, .ref nU, .ref nV, .long vw, .long vh, .long vt, .long vd, .ref nX, .ref nY, .ref nR, .ref nC, .ref nS])), (nT, .inl (cI, 300, .inl gT)), (nO, .inl (cI, 128, .inl gO)), (nU, .inl (cI, 128, .inl gU)), (nV, .inl (cI, 16, .inl gV)), (nX, .inl (cJ, 16, .inr (.inl gX))), (nY, .inl (cJ, 16, .inr (.inl gY))), (nR, .inl (cJ, 16, .inr (.inl gR))), (nC, .inl (cI, 9, .inl gC)), (nS, .inl (cI, 9, .inl gS))]) [0, 1, 2, 3, 4, 5, 6, 7, 8, 9] rfl
      refine pu_l (W.runV (As := [.int row, .int 2]) (rest := [.long (fM_number gO oth 2)]) ⟨hx, hb, hml, hown, hg⟩ (ct_M_number l dC dI cC cI cJ nA nT nO nU nV nX nY nR nC nS gT gO gU gV gX gY gR gC gS vc vs va vf vr vw vh vt vd row 2 hrow2) (gw_cwV hg wd_640 mv_M_number rfl rfl ⟨Nat.le_of_ble_eq_true rfl, Nat.le_of_ble_eq_true rfl⟩) (pu_preV (ci := 5) (q0 := 0) pu_blT hK hPc16 pu_e1 rfl rfl) rfl rfl hl.1 rfl (lv_room (Nat.le_of_ble_eq_true rfl)) md_M_replaces_41 ⟨Nat.zero_le _, Nat.zero_le _⟩) ?_
      refine lx_gt (tgt := 68) hx hb md_M_replaces_44 md_M_replaces_45 (by decide) (fun c17 => ?_) (fun c17 => ?_)
      · refine lv_iconst (v := 0) hx hb md_M_replaces_68 (by decide) ?_
        refine lv_istore_n (lv' := [(3, .int 0), (0, .ref nA), (1, .int oth), (2, .int row)]) hx hb md_M_replaces_69 rfl hl (by decide) rfl (fun ls hl => ?_)
        refine lv_iload_n hx hb md_M_replaces_70 rfl (lv_at hl 2 rfl) ?_
        refine lv_iload_n hx hb md_M_replaces_71 rfl (lv_at hl 3 rfl) ?_
        refine lv_icmp_eq (tgt := 109) hx hb md_M_replaces_72 (by decide) (fun c18 => ?_) (fun c18 => ?_)
        · refine lv_iconst (v := 0) hx hb md_M_replaces_109 (by decide) ?_
          exact pu_zret hx hb hr hlocks rfl md_M_replaces_110 (by rw [fM_replaces, if_neg c3, if_neg c10, if_pos c17, if_pos c18])
        · refine lv_aload_n hx hb md_M_replaces_75 rfl (lv_at hl 1 rfl) ?_
          refine lv_iload_n hx hb md_M_replaces_76 rfl (lv_at hl 2 rfl) ?_
          refine lv_bipush (v := 104) hx hb md_M_replaces_77 (by decide) ?_
          have hPc19 := hP.sub (ws' := [(nA, .inr (5, [.int vc, .ref nT, .int vs, .int va, .int vf, .int vr, .ref nO, .ref nU, .ref nV, .long vw, .long vh, .long vt, .long vd, .ref nX, .ref nY, .ref nR, .ref nC, .ref nS])), (nT, .inl (cI, 300, .inl gT)), (nO, .inl (cI, 128, .inl gO)), (nU, .inl (cI, 128, .inl gU)), (nV, .inl (cI, 16, .inl gV)), (nX, .inl (cJ, 16, .inr (.inl gX))), (nY, .inl (cJ, 16, .inr (.inl gY))), (nR, .inl (cJ, 16, .inr (.inl gR))), (nC, .inl (cI, 9, .inl gC)), (nS, .inl (cI, 9, .inl gS))]) [0, 1, 2, 3, 4, 5, 6, 7, 8, 9] rfl
          refine pu_i (W.runV (As := [.int oth, .int 104]) (rest := []) ⟨hx, hb, hml, hown, hg⟩ (ct_M_isThere l dC dI cC cI cJ nA nT nO nU nV nX nY nR nC nS gT gO gU gV gX gY gR gC gS vc vs va vf vr vw vh vt vd oth 104 ho8 ho) (gw_cwV hg wd_644 mv_M_isThere rfl rfl ⟨Nat.le_of_ble_eq_true rfl, Nat.le_of_ble_eq_true rfl⟩) (pu_preV (ci := 5) (q0 := 0) pu_blT hK hPc19 pu_e1 rfl rfl) rfl rfl hl.1 rfl (lv_room (Nat.le_of_ble_eq_true rfl)) md_M_replaces_79 ⟨Nat.zero_le _, Nat.zero_le _⟩) ?_
          refine lv_if_eq (tgt := 109) hx hb md_M_replaces_82 (by decide) (fun c20 => ?_) (fun c20 => ?_)
          · refine lv_iconst (v := 0) hx hb md_M_replaces_109 (by decide) ?_
            exact pu_zret hx hb hr hlocks rfl md_M_replaces_110 (by rw [fM_replaces, if_neg c3, if_neg c10, if_pos c17, if_neg c18, if_pos c20])
          · refine lv_iload_n hx hb md_M_replaces_85 rfl (lv_at hl 0 rfl) ?_
            refine lv_if_eq (tgt := 109) hx hb md_M_replaces_86 (by decide) (fun _ => ?_) (fun c21 => absurd (by decide) c21)
            refine lv_iconst (v := 0) hx hb md_M_replaces_109 (by decide) ?_
            exact pu_zret hx hb hr hlocks rfl md_M_replaces_110 (by rw [fM_replaces, if_neg c3, if_neg c10, if_pos c17, if_neg c18, if_neg c20])
      · refine lv_aload_n hx hb md_M_replaces_48 rfl (lv_at hl 0 rfl) ?_
        refine lv_iload_n hx hb md_M_replaces_49 rfl (lv_at hl 1 rfl) ?_
        refine lv_iconst (v := 3) hx hb md_M_replaces_50 (by decide) ?_
        have hPc22 := hP.sub (ws' := [(nA, .inr (5, [.int vc, .ref nT, .int vs, .int va, .int vf, .int vr, .ref nO, .ref nU, .ref nV, .long vw, .long vh, .long vt, .long vd, .ref nX, .ref nY, .ref nR, .ref nC, .ref nS])), (nT, .inl (cI, 300, .inl gT)), (nO, .inl (cI, 128, .inl gO)), (nU, .inl (cI, 128, .inl gU)), (nV, .inl (cI, 16, .inl gV)), (nX, .inl (cJ, 16, .inr (.inl gX))), (nY, .inl (cJ, 16, .inr (.inl gY))), (nR, .inl (cJ, 16, .inr (.inl gR))), (nC, .inl (cI, 9, .inl gC)), (nS, .inl (cI, 9, .inl gS))]) [0, 1, 2, 3, 4, 5, 6, 7, 8, 9] rfl
        refine pu_l (W.runV (As := [.int oth, .int 3]) (rest := []) ⟨hx, hb, hml, hown, hg⟩ (ct_M_number l dC dI cC cI cJ nA nT nO nU nV nX nY nR nC nS gT gO gU gV gX gY gR gC gS vc vs va vf vr vw vh vt vd oth 3 hoth3) (gw_cwV hg wd_640 mv_M_number rfl rfl ⟨Nat.le_of_ble_eq_true rfl, Nat.le_of_ble_eq_true rfl⟩) (pu_preV (ci := 5) (q0 := 0) pu_blT hK hPc22 pu_e1 rfl rfl) rfl rfl hl.1 rfl (lv_room (Nat.le_of_ble_eq_true rfl)) md_M_replaces_51 ⟨Nat.zero_le _, Nat.zero_le _⟩) ?_
        refine lv_aload_n hx hb md_M_replaces_54 rfl (lv_at hl 0 rfl) ?_
        refine lv_iload_n hx hb md_M_replaces_55 rfl (lv_at hl 2 rfl) ?_
        refine lv_iconst (v := 3) hx hb md_M_replaces_56 (by decide) ?_
        have hPc23 := hP.sub (ws' := [(nA, .inr (5, [.int vc, .ref nT, .int vs, .int va, .int vf, .int vr, .ref nO, .ref nU, .ref nV, .long vw, .long vh, .long vt, .long vd, .ref nX, .ref nY, .ref nR, .ref nC, .ref nS])), (nT, .inl (cI, 300, .inl gT)), (nO, .inl (cI, 128, .inl gO)), (nU, .inl (cI, 128, .inl gU)), (nV, .inl (cI, 16, .inl gV)), (nX, .inl (cJ, 16, .inr (.inl gX))), (nY, .inl (cJ, 16, .inr (.inl gY))), (nR, .inl (cJ, 16, .inr (.inl gR))), (nC, .inl (cI, 9, .inl gC)), (nS, .inl (cI, 9, .inl gS))]) [0, 1, 2, 3, 4, 5, 6, 7, 8, 9] rfl
        refine pu_l (W.runV (As := [.int row, .int 3]) (rest := [.long (fM_number gO oth 3)]) ⟨hx, hb, hml, hown, hg⟩ (ct_M_number l dC dI cC cI cJ nA nT nO nU nV nX nY nR nC nS gT gO gU gV gX gY gR gC gS vc vs va vf vr vw vh vt vd row 3 hrow3) (gw_cwV hg wd_640 mv_M_number rfl rfl ⟨Nat.le_of_ble_eq_true rfl, Nat.le_of_ble_eq_true rfl⟩) (pu_preV (ci := 5) (q0 := 0) pu_blT hK hPc23 pu_e1 rfl rfl) rfl rfl hl.1 rfl (lv_room (Nat.le_of_ble_eq_true rfl)) md_M_replaces_57 ⟨Nat.zero_le _, Nat.zero_le _⟩) ?_
        refine lx_lt (tgt := 68) hx hb md_M_replaces_60 md_M_replaces_61 (by decide) (fun c24 => ?_) (fun c24 => ?_)
        · refine lv_iconst (v := 0) hx hb md_M_replaces_68 (by decide) ?_
          refine lv_istore_n (lv' := [(3, .int 0), (0, .ref nA), (1, .int oth), (2, .int row)]) hx hb md_M_replaces_69 rfl hl (by decide) rfl (fun ls hl => ?_)
          refine lv_iload_n hx hb md_M_replaces_70 rfl (lv_at hl 2 rfl) ?_
          refine lv_iload_n hx hb md_M_replaces_71 rfl (lv_at hl 3 rfl) ?_
          refine lv_icmp_eq (tgt := 109) hx hb md_M_replaces_72 (by decide) (fun c25 => ?_) (fun c25 => ?_)
          · refine lv_iconst (v := 0) hx hb md_M_replaces_109 (by decide) ?_
            exact pu_zret hx hb hr hlocks rfl md_M_replaces_110 (by rw [fM_replaces, if_neg c3, if_neg c10, if_neg c17, if_pos c24, if_pos c25])
          · refine lv_aload_n hx hb md_M_replaces_75 rfl (lv_at hl 1 rfl) ?_
            refine lv_iload_n hx hb md_M_replaces_76 rfl (lv_at hl 2 rfl) ?_
            refine lv_bipush (v := 104) hx hb md_M_replaces_77 (by decide) ?_
            have hPc26 := hP.sub (ws' := [(nA, .inr (5, [.int vc, .ref nT, .int vs, .int va, .int vf, .int vr, .ref nO, .ref nU, .ref nV, .long vw, .long vh, .long vt, .long vd, .ref nX, .ref nY, .ref nR, .ref nC, .ref nS])), (nT, .inl (cI, 300, .inl gT)), (nO, .inl (cI, 128, .inl gO)), (nU, .inl (cI, 128, .inl gU)), (nV, .inl (cI, 16, .inl gV)), (nX, .inl (cJ, 16, .inr (.inl gX))), (nY, .inl (cJ, 16, .inr (.inl gY))), (nR, .inl (cJ, 16, .inr (.inl gR))), (nC, .inl (cI, 9, .inl gC)), (nS, .inl (cI, 9, .inl gS))]) [0, 1, 2, 3, 4, 5, 6, 7, 8, 9] rfl
            refine pu_i (W.runV (As := [.int oth, .int 104]) (rest := []) ⟨hx, hb, hml, hown, hg⟩ (ct_M_isThere l dC dI cC cI cJ nA nT nO nU nV nX nY nR nC nS gT gO gU gV gX gY gR gC gS vc vs va vf vr vw vh vt vd oth 104 ho8 ho) (gw_cwV hg wd_644 mv_M_isThere rfl rfl ⟨Nat.le_of_ble_eq_true rfl, Nat.le_of_ble_eq_true rfl⟩) (pu_preV (ci := 5) (q0 := 0) pu_blT hK hPc26 pu_e1 rfl rfl) rfl rfl hl.1 rfl (lv_room (Nat.le_of_ble_eq_true rfl)) md_M_replaces_79 ⟨Nat.zero_le _, Nat.zero_le _⟩) ?_
            refine lv_if_eq (tgt := 109) hx hb md_M_replaces_82 (by decide) (fun c27 => ?_) (fun c27 => ?_)
            · refine lv_iconst (v := 0) hx hb md_M_replaces_109 (by decide) ?_
              exact pu_zret hx hb hr hlocks rfl md_M_replaces_110 (by rw [fM_replaces, if_neg c3, if_neg c10, if_neg c17, if_pos c24, if_neg c25, if_pos c27])
            · refine lv_iload_n hx hb md_M_replaces_85 rfl (lv_at hl 0 rfl) ?_
              refine lv_if_eq (tgt := 109) hx hb md_M_replaces_86 (by decide) (fun _ => ?_) (fun c28 => absurd (by decide) c28)
              refine lv_iconst (v := 0) hx hb md_M_replaces_109 (by decide) ?_
              exact pu_zret hx hb hr hlocks rfl md_M_replaces_110 (by rw [fM_replaces, if_neg c3, if_neg c10, if_neg c17, if_pos c24, if_neg c25, if_neg c27])
        · refine lv_iconst (v := 1) hx hb md_M_replaces_64 (by decide) ?_
          refine lv_goto (tgt := 69) hx hb md_M_replaces_65 (by decide) ?_
          refine lv_istore_n (lv' := [(3, .int 1), (0, .ref nA), (1, .int oth), (2, .int row)]) hx hb md_M_replaces_69 rfl hl (by decide) rfl (fun ls hl => ?_)
          refine lv_iload_n hx hb md_M_replaces_70 rfl (lv_at hl 2 rfl) ?_
          refine lv_iload_n hx hb md_M_replaces_71 rfl (lv_at hl 3 rfl) ?_
          refine lv_icmp_eq (tgt := 109) hx hb md_M_replaces_72 (by decide) (fun c29 => ?_) (fun c29 => ?_)
          · refine lv_iconst (v := 0) hx hb md_M_replaces_109 (by decide) ?_
            exact pu_zret hx hb hr hlocks rfl md_M_replaces_110 (by rw [fM_replaces, if_neg c3, if_neg c10, if_neg c17, if_neg c24, if_pos c29])
          · refine lv_aload_n hx hb md_M_replaces_75 rfl (lv_at hl 1 rfl) ?_
            refine lv_iload_n hx hb md_M_replaces_76 rfl (lv_at hl 2 rfl) ?_
            refine lv_bipush (v := 104) hx hb md_M_replaces_77 (by decide) ?_
            have hPc30 := hP.sub (ws' := [(nA, .inr (5, [.int vc, .ref nT, .int vs, .int va, .int vf, .int vr, .ref nO, .ref nU, .ref nV, .long vw, .long vh, .long vt, .long vd, .ref nX, .ref nY, .ref nR, .ref nC, .ref nS])), (nT, .inl (cI, 300, .inl gT)), (nO, .inl (cI, 128, .inl gO)), (nU, .inl (cI, 128, .inl gU)), (nV, .inl (cI, 16, .inl gV)), (nX, .inl (cJ, 16, .inr (.inl gX))), (nY, .inl (cJ, 16, .inr (.inl gY))), (nR, .inl (cJ, 16, .inr (.inl gR))), (nC, .inl (cI, 9, .inl gC)), (nS, .inl (cI, 9, .inl gS))]) [0, 1, 2, 3, 4, 5, 6, 7, 8, 9] rfl
            refine pu_i (W.runV (As := [.int oth, .int 104]) (rest := []) ⟨hx, hb, hml, hown, hg⟩ (ct_M_isThere l dC dI cC cI cJ nA nT nO nU nV nX nY nR nC nS gT gO gU gV gX gY gR gC gS vc vs va vf vr vw vh vt vd oth 104 ho8 ho) (gw_cwV hg wd_644 mv_M_isThere rfl rfl ⟨Nat.le_of_ble_eq_true rfl, Nat.le_of_ble_eq_true rfl⟩) (pu_preV (ci := 5) (q0 := 0) pu_blT hK hPc30 pu_e1 rfl rfl) rfl rfl hl.1 rfl (lv_room (Nat.le_of_ble_eq_true rfl)) md_M_replaces_79 ⟨Nat.zero_le _, Nat.zero_le _⟩) ?_
            refine lv_if_eq (tgt := 109) hx hb md_M_replaces_82 (by decide) (fun c31 => ?_) (fun c31 => ?_)
            · refine lv_iconst (v := 0) hx hb md_M_replaces_109 (by decide) ?_
              exact pu_zret hx hb hr hlocks rfl md_M_replaces_110 (by rw [fM_replaces, if_neg c3, if_neg c10, if_neg c17, if_neg c24, if_neg c29, if_pos c31])
            · refine lv_iload_n hx hb md_M_replaces_85 rfl (lv_at hl 0 rfl) ?_
              refine lv_if_eq (tgt := 109) hx hb md_M_replaces_86 (by decide) (fun c32 => absurd c32 (by decide)) (fun _ => ?_)
              refine lv_aload_n hx hb md_M_replaces_89 rfl (lv_at hl 1 rfl) ?_
              refine lv_iload_n hx hb md_M_replaces_90 rfl (lv_at hl 2 rfl) ?_
              refine lv_iconst (v := 4) hx hb md_M_replaces_91 (by decide) ?_
              have hPc33 := hP.sub (ws' := [(nA, .inr (5, [.int vc, .ref nT, .int vs, .int va, .int vf, .int vr, .ref nO, .ref nU, .ref nV, .long vw, .long vh, .long vt, .long vd, .ref nX, .ref nY, .ref nR, .ref nC, .ref nS])), (nT, .inl (cI, 300, .inl gT)), (nO, .inl (cI, 128, .inl gO)), (nU, .inl (cI, 128, .inl gU)), (nV, .inl (cI, 16, .inl gV)), (nX, .inl (cJ, 16, .inr (.inl gX))), (nY, .inl (cJ, 16, .inr (.inl gY))), (nR, .inl (cJ, 16, .inr (.inl gR))), (nC, .inl (cI, 9, .inl gC)), (nS, .inl (cI, 9, .inl gS))]) [0, 1, 2, 3, 4, 5, 6, 7, 8, 9] rfl
              refine pu_l (W.runV (As := [.int oth, .int 4]) (rest := []) ⟨hx, hb, hml, hown, hg⟩ (ct_M_number l dC dI cC cI cJ nA nT nO nU nV nX nY nR nC nS gT gO gU gV gX gY gR gC gS vc vs va vf vr vw vh vt vd oth 4 hoth4) (gw_cwV hg wd_640 mv_M_number rfl rfl ⟨Nat.le_of_ble_eq_true rfl, Nat.le_of_ble_eq_true rfl⟩) (pu_preV (ci := 5) (q0 := 0) pu_blT hK hPc33 pu_e1 rfl rfl) rfl rfl hl.1 rfl (lv_room (Nat.le_of_ble_eq_true rfl)) md_M_replaces_92 ⟨Nat.zero_le _, Nat.zero_le _⟩) ?_
              refine lv_aload_n hx hb md_M_replaces_95 rfl (lv_at hl 1 rfl) ?_
              refine lv_iload_n hx hb md_M_replaces_96 rfl (lv_at hl 3 rfl) ?_
              refine lv_iconst (v := 4) hx hb md_M_replaces_97 (by decide) ?_
              have hPc34 := hP.sub (ws' := [(nA, .inr (5, [.int vc, .ref nT, .int vs, .int va, .int vf, .int vr, .ref nO, .ref nU, .ref nV, .long vw, .long vh, .long vt, .long vd, .ref nX, .ref nY, .ref nR, .ref nC, .ref nS])), (nT, .inl (cI, 300, .inl gT)), (nO, .inl (cI, 128, .inl gO)), (nU, .inl (cI, 128, .inl gU)), (nV, .inl (cI, 16, .inl gV)), (nX, .inl (cJ, 16, .inr (.inl gX))), (nY, .inl (cJ, 16, .inr (.inl gY))), (nR, .inl (cJ, 16, .inr (.inl gR))), (nC, .inl (cI, 9, .inl gC)), (nS, .inl (cI, 9, .inl gS))]) [0, 1, 2, 3, 4, 5, 6, 7, 8, 9] rfl
              refine pu_l (W.runV (As := [.int row, .int 4]) (rest := [.long (fM_number gO oth 4)]) ⟨hx, hb, hml, hown, hg⟩ (ct_M_number l dC dI cC cI cJ nA nT nO nU nV nX nY nR nC nS gT gO gU gV gX gY gR gC gS vc vs va vf vr vw vh vt vd row 4 hrow4) (gw_cwV hg wd_640 mv_M_number rfl rfl ⟨Nat.le_of_ble_eq_true rfl, Nat.le_of_ble_eq_true rfl⟩) (pu_preV (ci := 5) (q0 := 0) pu_blT hK hPc34 pu_e1 rfl rfl) rfl rfl hl.1 rfl (lv_room (Nat.le_of_ble_eq_true rfl)) md_M_replaces_98 ⟨Nat.zero_le _, Nat.zero_le _⟩) ?_
              refine lx_lt (tgt := 109) hx hb md_M_replaces_101 md_M_replaces_102 (by decide) (fun c35 => ?_) (fun c35 => ?_)
              · refine lv_iconst (v := 0) hx hb md_M_replaces_109 (by decide) ?_
                exact pu_zret hx hb hr hlocks rfl md_M_replaces_110 (by rw [fM_replaces, if_neg c3, if_neg c10, if_neg c17, if_neg c24, if_neg c29, if_neg c31, if_pos c35])
              · refine lv_iconst (v := 1) hx hb md_M_replaces_105 (by decide) ?_
                refine lv_goto (tgt := 110) hx hb md_M_replaces_106 (by decide) ?_
                exact pu_zret hx hb hr hlocks rfl md_M_replaces_110 (by rw [fM_replaces, if_neg c3, if_neg c10, if_neg c17, if_neg c24, if_neg c29, if_neg c31, if_neg c35])
