def fT_fault (place : Int32) : Int32 := (-1) - place
set_option maxHeartbeats 1000000 in
set_option maxRecDepth 100000 in
theorem ct_T_fault (l : Launch) (dC : Nat → ClassId) (dI : Nat → Nat → Nat) (cC cI cJ : ClassId)  (place : Int32)  : Met l my_T_fault (.code my_T_fault mb_T_fault 1 (some .int) :: gw_l) ({ frames := 0, cells := 0, slots := 0, locals := 0 }) (pu_Pc (dC, dI) mC [(cC, .char), (cI, .int), (cJ, .long)] [] (fun _ => True) [.int place]) (vp_Si (fun r => r = fT_fault place)) 0 0 (fun _ => False) := by
  refine Met.ofW (cc := mb_T_fault) (maxL := 1) (ret := (some .int)) (by decide) rfl ?_
  intro p e s m args below meth c s₁ B hml hv
  obtain ⟨rfl, hP, hK, hE⟩ := hv
  have hx := B.exec
  have hb := B.bytes
  have hr := B.returns
  have hts := atoms_spec (ws := (.code my_T_fault mb_T_fault 1 (some .int) :: gw_l)) B.pre
  have hg : ∀ w ∈ gw_l, w.before _ s = true := fun w h => hts w (List.mem_cons_of_mem _ h)
  have hown : s.vm.findClass mR_T = some m.cls := findClass_of_methodNamed B.named
  have hlocks := B.notSynchronized
  have hl := lv_entry ([.int place]) (n := 1) (Nat.le_of_ble_eq_true rfl)
  rw [lg_entry_eq]
  generalize (lg_sl ([.int place]) ++ List.replicate (1 - (lg_sl ([.int place])).length) Slot.unset).toArray = ls at hl ⊢
  have hl : lv_has ls 1 [(0, .int place)] := hl
  refine lv_iconst (v := (-1)) hx hb md_T_fault_0 (by decide) ?_
  refine lv_iload_n hx hb md_T_fault_1 rfl (lv_at hl 0 rfl) ?_
  refine lv_isub hx hb md_T_fault_2 ?_
  exact pu_iret hx hb hr hlocks md_T_fault_3 rfl

def fT_isDigit (c0 : Int32) : Int32 := if c0 < 48 then 0 else (if 57 < c0 then 0 else 1)
theorem zT_isDigit (c0 : Int32) : narrow .boolean (.int (fT_isDigit c0)) = .int (fT_isDigit c0) := by
  unfold fT_isDigit
  repeat' split
  all_goals first | rfl | exact zK_isWithin _ _ _
set_option maxHeartbeats 1000000 in
set_option maxRecDepth 100000 in
theorem ct_T_isDigit (l : Launch) (dC : Nat → ClassId) (dI : Nat → Nat → Nat) (cC cI cJ : ClassId)  (c0 : Int32)  : Met l my_T_isDigit (.code my_T_isDigit mb_T_isDigit 1 (some .boolean) :: gw_l) ({ frames := 0, cells := 0, slots := 0, locals := 0 }) (pu_Pc (dC, dI) mC [(cC, .char), (cI, .int), (cJ, .long)] [] (fun _ => True) [.int c0]) (vp_Si (fun r => r = fT_isDigit c0)) 0 0 (fun _ => False) := by
  refine Met.ofW (cc := mb_T_isDigit) (maxL := 1) (ret := (some .boolean)) (by decide) rfl ?_
  intro p e s m args below meth c s₁ B hml hv
  obtain ⟨rfl, hP, hK, hE⟩ := hv
  have hx := B.exec
  have hb := B.bytes
  have hr := B.returns
  have hts := atoms_spec (ws := (.code my_T_isDigit mb_T_isDigit 1 (some .boolean) :: gw_l)) B.pre
  have hg : ∀ w ∈ gw_l, w.before _ s = true := fun w h => hts w (List.mem_cons_of_mem _ h)
  have hown : s.vm.findClass mR_T = some m.cls := findClass_of_methodNamed B.named
  have hlocks := B.notSynchronized
  have hl := lv_entry ([.int c0]) (n := 1) (Nat.le_of_ble_eq_true rfl)
  rw [lg_entry_eq]
  generalize (lg_sl ([.int c0]) ++ List.replicate (1 - (lg_sl ([.int c0])).length) Slot.unset).toArray = ls at hl ⊢
  have hl : lv_has ls 1 [(0, .int c0)] := hl
  refine lv_iload_n hx hb md_T_isDigit_0 rfl (lv_at hl 0 rfl) ?_
  refine lv_bipush (v := 48) hx hb md_T_isDigit_1 (by decide) ?_
  refine lv_icmp_lt (tgt := 16) hx hb md_T_isDigit_3 (by decide) (fun c1 => ?_) (fun c1 => ?_)
  · refine lv_iconst (v := 0) hx hb md_T_isDigit_16 (by decide) ?_
    exact pu_zret hx hb hr hlocks rfl md_T_isDigit_17 (by rw [fT_isDigit, if_pos c1])
  · refine lv_iload_n hx hb md_T_isDigit_6 rfl (lv_at hl 0 rfl) ?_
    refine lv_bipush (v := 57) hx hb md_T_isDigit_7 (by decide) ?_
    refine lv_icmp_gt (tgt := 16) hx hb md_T_isDigit_9 (by decide) (fun c2 => ?_) (fun c2 => ?_)
    · refine lv_iconst (v := 0) hx hb md_T_isDigit_16 (by decide) ?_
      exact pu_zret hx hb hr hlocks rfl md_T_isDigit_17 (by rw [fT_isDigit, if_neg c1, if_pos c2])
    · refine lv_iconst (v := 1) hx hb md_T_isDigit_12 (by decide) ?_
      refine lv_goto (tgt := 17) hx hb md_T_isDigit_13 (by decide) ?_
      exact pu_zret hx hb hr hlocks rfl md_T_isDigit_17 (by rw [fT_isDigit, if_neg c1, if_neg c2])

def fK_numbersBehind (c0 : Int32) : Int32 := if c0 = 104 then 6 else (if c0 = 115 then 2 else (if c0 = 99 then 3 else 0))
set_option maxHeartbeats 1000000 in
set_option maxRecDepth 100000 in
theorem ct_K_numbersBehind (l : Launch) (dC : Nat → ClassId) (dI : Nat → Nat → Nat) (cC cI cJ : ClassId)  (c0 : Int32)  : Met l my_K_numbersBehind (.code my_K_numbersBehind mb_K_numbersBehind 1 (some .int) :: gw_l) ({ frames := 0, cells := 0, slots := 0, locals := 0 }) (pu_Pc (dC, dI) mC [(cC, .char), (cI, .int), (cJ, .long)] [] (fun _ => True) [.int c0]) (vp_Si (fun r => r = fK_numbersBehind c0)) 0 0 (fun _ => False) := by
  refine Met.ofW (cc := mb_K_numbersBehind) (maxL := 1) (ret := (some .int)) (by decide) rfl ?_
  intro p e s m args below meth c s₁ B hml hv
  obtain ⟨rfl, hP, hK, hE⟩ := hv
  have hx := B.exec
  have hb := B.bytes
  have hr := B.returns
  have hts := atoms_spec (ws := (.code my_K_numbersBehind mb_K_numbersBehind 1 (some .int) :: gw_l)) B.pre
  have hg : ∀ w ∈ gw_l, w.before _ s = true := fun w h => hts w (List.mem_cons_of_mem _ h)
  have hown : s.vm.findClass mR_K = some m.cls := findClass_of_methodNamed B.named
  have hlocks := B.notSynchronized
  have hl := lv_entry ([.int c0]) (n := 1) (Nat.le_of_ble_eq_true rfl)
  rw [lg_entry_eq]
  generalize (lg_sl ([.int c0]) ++ List.replicate (1 - (lg_sl ([.int c0])).length) Slot.unset).toArray = ls at hl ⊢
  have hl : lv_has ls 1 [(0, .int c0)] := hl
  refine lv_iload_n hx hb md_K_numbersBehind_0 rfl (lv_at hl 0 rfl) ?_
  refine lv_bipush (v := 104) hx hb md_K_numbersBehind_1 (by decide) ?_
  refine lv_icmp_ne (tgt := 9) hx hb md_K_numbersBehind_3 (by decide) (fun c1 => ?_) (fun c1 => ?_)
  · refine lv_iload_n hx hb md_K_numbersBehind_9 rfl (lv_at hl 0 rfl) ?_
    refine lv_bipush (v := 115) hx hb md_K_numbersBehind_10 (by decide) ?_
    refine lv_icmp_ne (tgt := 17) hx hb md_K_numbersBehind_12 (by decide) (fun c2 => ?_) (fun c2 => ?_)
    · refine lv_iload_n hx hb md_K_numbersBehind_17 rfl (lv_at hl 0 rfl) ?_
      refine lv_bipush (v := 99) hx hb md_K_numbersBehind_18 (by decide) ?_
      refine lv_icmp_ne (tgt := 27) hx hb md_K_numbersBehind_20 (by decide) (fun c3 => ?_) (fun c3 => ?_)
      · refine lv_iconst (v := 0) hx hb md_K_numbersBehind_27 (by decide) ?_
        exact pu_iret hx hb hr hlocks md_K_numbersBehind_28 (by rw [fK_numbersBehind, if_neg c1, if_neg c2, if_neg c3])
      · refine lv_iconst (v := 3) hx hb md_K_numbersBehind_23 (by decide) ?_
        refine lv_goto (tgt := 28) hx hb md_K_numbersBehind_24 (by decide) ?_
        exact pu_iret hx hb hr hlocks md_K_numbersBehind_28 (by rw [fK_numbersBehind, if_neg c1, if_neg c2, if_pos c3])
    · refine lv_iconst (v := 2) hx hb md_K_numbersBehind_15 (by decide) ?_
      exact pu_iret hx hb hr hlocks md_K_numbersBehind_16 (by rw [fK_numbersBehind, if_neg c1, if_pos c2])
  · refine lv_bipush (v := 6) hx hb md_K_numbersBehind_6 (by decide) ?_
    exact pu_iret hx hb hr hlocks md_K_numbersBehind_8 (by rw [fK_numbersBehind, if_pos c1])

def fK_isWithin (n0 : Int64) (lo : Int32) (hi : Int32) : Int32 := if n0 < (Int32.toInt64 lo) then 0 else (if (Int32.toInt64 hi) < n0 then 0 else 1)
theorem zK_isWithin (n0 : Int64) (lo : Int32) (hi : Int32) : narrow .boolean (.int (fK_isWithin n0 lo hi)) = .int (fK_isWithin n0 lo hi) := by
  unfold fK_isWithin
  repeat' split
  all_goals first | rfl | exact zK_isWithin _ _ _
set_option maxHeartbeats 1000000 in
set_option maxRecDepth 100000 in
theorem ct_K_isWithin (l : Launch) (dC : Nat → ClassId) (dI : Nat → Nat → Nat) (cC cI cJ : ClassId)  (n0 : Int64) (lo : Int32) (hi : Int32)  : Met l my_K_isWithin (.code my_K_isWithin mb_K_isWithin 4 (some .boolean) :: gw_l) ({ frames := 0, cells := 0, slots := 0, locals := 0 }) (pu_Pc (dC, dI) mC [(cC, .char), (cI, .int), (cJ, .long)] [] (fun _ => True) [.long n0, .int lo, .int hi]) (vp_Si (fun r => r = fK_isWithin n0 lo hi)) 0 0 (fun _ => False) := by
  refine Met.ofW (cc := mb_K_isWithin) (maxL := 4) (ret := (some .boolean)) (by decide) rfl ?_
  intro p e s m args below meth c s₁ B hml hv
  obtain ⟨rfl, hP, hK, hE⟩ := hv
  have hx := B.exec
  have hb := B.bytes
  have hr := B.returns
  have hts := atoms_spec (ws := (.code my_K_isWithin mb_K_isWithin 4 (some .boolean) :: gw_l)) B.pre
  have hg : ∀ w ∈ gw_l, w.before _ s = true := fun w h => hts w (List.mem_cons_of_mem _ h)
  have hown : s.vm.findClass mR_K = some m.cls := findClass_of_methodNamed B.named
  have hlocks := B.notSynchronized
  have hl := lv_entry ([.long n0, .int lo, .int hi]) (n := 4) (Nat.le_of_ble_eq_true rfl)
  rw [lg_entry_eq]
  generalize (lg_sl ([.long n0, .int lo, .int hi]) ++ List.replicate (4 - (lg_sl ([.long n0, .int lo, .int hi])).length) Slot.unset).toArray = ls at hl ⊢
  have hl : lv_has ls 4 [(0, .long n0), (2, .int lo), (3, .int hi)] := hl
  refine lv_lload_n hx hb md_K_isWithin_0 rfl (lv_at hl 0 rfl) ?_
  refine lv_iload_n hx hb md_K_isWithin_1 rfl (lv_at hl 1 rfl) ?_
  refine lv_i2l (v := Int32.toInt64 lo) hx hb md_K_isWithin_2 rfl ?_
  refine lx_lt (tgt := 18) hx hb md_K_isWithin_3 md_K_isWithin_4 (by decide) (fun c1 => ?_) (fun c1 => ?_)
  · refine lv_iconst (v := 0) hx hb md_K_isWithin_18 (by decide) ?_
    exact pu_zret hx hb hr hlocks rfl md_K_isWithin_19 (by rw [fK_isWithin, if_pos c1])
  · refine lv_lload_n hx hb md_K_isWithin_7 rfl (lv_at hl 0 rfl) ?_
    refine lv_iload_n hx hb md_K_isWithin_8 rfl (lv_at hl 2 rfl) ?_
    refine lv_i2l (v := Int32.toInt64 hi) hx hb md_K_isWithin_9 rfl ?_
    refine lx_gt (tgt := 18) hx hb md_K_isWithin_10 md_K_isWithin_11 (by decide) (fun c2 => ?_) (fun c2 => ?_)
    · refine lv_iconst (v := 0) hx hb md_K_isWithin_18 (by decide) ?_
      exact pu_zret hx hb hr hlocks rfl md_K_isWithin_19 (by rw [fK_isWithin, if_neg c1, if_pos c2])
    · refine lv_iconst (v := 1) hx hb md_K_isWithin_14 (by decide) ?_
      refine lv_goto (tgt := 19) hx hb md_K_isWithin_15 (by decide) ?_
      exact pu_zret hx hb hr hlocks rfl md_K_isWithin_19 (by rw [fK_isWithin, if_neg c1, if_neg c2])

def fK_isOfDoor (n0 : Int64) : Int32 := fK_isWithin n0 1 10000
theorem zK_isOfDoor (n0 : Int64) : narrow .boolean (.int (fK_isOfDoor n0)) = .int (fK_isOfDoor n0) := by
  unfold fK_isOfDoor
  repeat' split
  all_goals first | rfl | exact zK_isWithin _ _ _
set_option maxHeartbeats 1000000 in
set_option maxRecDepth 100000 in
theorem ct_K_isOfDoor (l : Launch) (dC : Nat → ClassId) (dI : Nat → Nat → Nat) (cC cI cJ : ClassId)  (n0 : Int64)  : Met l my_K_isOfDoor (.code my_K_isOfDoor mb_K_isOfDoor 2 (some .boolean) :: gw_l) ({ frames := 1, cells := 0, slots := 0, locals := 23 }) (pu_Pc (dC, dI) mC [(cC, .char), (cI, .int), (cJ, .long)] [] (fun _ => True) [.long n0]) (vp_Si (fun r => r = fK_isOfDoor n0)) 0 0 (fun _ => False) := by
  refine Met.ofW (cc := mb_K_isOfDoor) (maxL := 2) (ret := (some .boolean)) (by decide) rfl ?_
  intro p e s m args below meth c s₁ B hml hv
  obtain ⟨rfl, hP, hK, hE⟩ := hv
  have hx := B.exec
  have hb := B.bytes
  have hr := B.returns
  have hts := atoms_spec (ws := (.code my_K_isOfDoor mb_K_isOfDoor 2 (some .boolean) :: gw_l)) B.pre
  have hg : ∀ w ∈ gw_l, w.before _ s = true := fun w h => hts w (List.mem_cons_of_mem _ h)
  have hown : s.vm.findClass mR_K = some m.cls := findClass_of_methodNamed B.named
  have hlocks := B.notSynchronized
  have hl := lv_entry ([.long n0]) (n := 2) (Nat.le_of_ble_eq_true rfl)
  rw [lg_entry_eq]
  generalize (lg_sl ([.long n0]) ++ List.replicate (2 - (lg_sl ([.long n0])).length) Slot.unset).toArray = ls at hl ⊢
  have hl : lv_has ls 2 [(0, .long n0)] := hl
  refine lv_lload_n hx hb md_K_isOfDoor_0 rfl (lv_at hl 0 rfl) ?_
  refine lv_iconst (v := 1) hx hb md_K_isOfDoor_1 (by decide) ?_
  refine lv_sipush (v := 10000) hx hb md_K_isOfDoor_2 (by decide) ?_
  have hPc1 := hP.sub (ws' := []) [] rfl
  refine pu_i (W.runS (As := [.long n0, .int 1, .int 10000]) (rest := []) ⟨hx, hb, hml, hown, hg⟩ (ct_K_isWithin l dC dI cC cI cJ n0 1 10000) (gw_cwS hg wd_363 mv_K_isWithin rfl rfl ⟨Nat.le_of_ble_eq_true rfl, Nat.le_of_ble_eq_true rfl⟩) (pu_preS pu_blT hK hPc1 pu_e1) rfl rfl hl.1 rfl (lv_room (Nat.le_of_ble_eq_true rfl)) md_K_isOfDoor_5 ⟨Nat.zero_le _, Nat.zero_le _⟩) ?_
  exact pu_zret hx hb hr hlocks (zK_isWithin _ _ _) md_K_isOfDoor_8 rfl

def fS_endsAt (xz : Int32) (place : Int32) : Int32 := if place = xz then 1 else 0
theorem zS_endsAt (xz : Int32) (place : Int32) : narrow .boolean (.int (fS_endsAt xz place)) = .int (fS_endsAt xz place) := by
  unfold fS_endsAt
  repeat' split
  all_goals first | rfl | exact zK_isWithin _ _ _
set_option maxHeartbeats 1000000 in
set_option maxRecDepth 100000 in
theorem ct_S_endsAt (l : Launch) (dC : Nat → ClassId) (dI : Nat → Nat → Nat) (cC cI cJ : ClassId) (xA : Nat) (xL : Nat) (xl : Nat → Int32) (xz : Int32) (place : Int32)  : Met l my_S_endsAt (.code my_S_endsAt mb_S_endsAt 2 (some .boolean) :: gw_l) ({ frames := 0, cells := 0, slots := 0, locals := 0 }) (pu_Pc (dC, dI) mC [(cC, .char), (cI, .int), (cJ, .long)] [(xA, .inr (3, [.ref xL, .int xz])), (xL, .inl (cC, 300, .inl xl))] (fun _ => True) [.ref xA, .int place]) (vp_Si (fun r => r = fS_endsAt xz place)) 0 0 (fun _ => False) := by
  refine Met.ofW (cc := mb_S_endsAt) (maxL := 2) (ret := (some .boolean)) (by decide) rfl ?_
  intro p e s m args below meth c s₁ B hml hv
  obtain ⟨rfl, hP, hK, hE⟩ := hv
  have hx := B.exec
  have hb := B.bytes
  have hr := B.returns
  have hts := atoms_spec (ws := (.code my_S_endsAt mb_S_endsAt 2 (some .boolean) :: gw_l)) B.pre
  have hg : ∀ w ∈ gw_l, w.before _ s = true := fun w h => hts w (List.mem_cons_of_mem _ h)
  have hown : s.vm.findClass mR_S = some m.cls := findClass_of_methodNamed B.named
  have hlocks := B.notSynchronized
  have hl := lv_entry ([.ref xA, .int place]) (n := 2) (Nat.le_of_ble_eq_true rfl)
  rw [lg_entry_eq]
  generalize (lg_sl ([.ref xA, .int place]) ++ List.replicate (2 - (lg_sl ([.ref xA, .int place])).length) Slot.unset).toArray = ls at hl ⊢
  have hl : lv_has ls 2 [(0, .ref xA), (1, .int place)] := hl
  refine lv_iload_n hx hb md_S_endsAt_0 rfl (lv_at hl 1 rfl) ?_
  refine lv_aload_n hx hb md_S_endsAt_1 rfl (lv_at hl 0 rfl) ?_
  refine va_get (D := (dC, dI)) (ci := 3) (v := .int xz) (C := mR_S) (T := mT_S) (N := 2) hx hb hg gu_S hown hK hP 0 rfl rfl 1 (by decide) (hg _ wd_29) (fun _ h9 => h9) rfl md_S_endsAt_2 ?_
  refine lv_icmp_ne (tgt := 12) hx hb md_S_endsAt_5 (by decide) (fun c1 => ?_) (fun c1 => ?_)
  · refine lv_iconst (v := 0) hx hb md_S_endsAt_12 (by decide) ?_
    exact pu_zret hx hb hr hlocks rfl md_S_endsAt_13 (by rw [fS_endsAt, if_neg c1])
  · refine lv_iconst (v := 1) hx hb md_S_endsAt_8 (by decide) ?_
    refine lv_goto (tgt := 13) hx hb md_S_endsAt_9 (by decide) ?_
    exact pu_zret hx hb hr hlocks rfl md_S_endsAt_13 (by rw [fS_endsAt, if_pos c1])

def fS_at (xl : Nat → Int32) (xz : Int32) (place : Int32) : Int32 := if place < 0 then 0 else (if xz ≤ place then 0 else (xl (Int32.toNatClampNeg place)))
set_option maxHeartbeats 1000000 in
set_option maxRecDepth 100000 in
theorem ct_S_at (l : Launch) (dC : Nat → ClassId) (dI : Nat → Nat → Nat) (cC cI cJ : ClassId) (xA : Nat) (xL : Nat) (xl : Nat → Int32) (xz : Int32) (place : Int32) (hin : ¬ place < 0 → ¬ xz ≤ place → vp_in place 300) (hch : ∀ j, narrow .char (.int (xl j)) = .int (xl j)) : Met l my_S_at (.code my_S_at mb_S_at 2 (some .char) :: gw_l) ({ frames := 0, cells := 0, slots := 0, locals := 0 }) (pu_Pc (dC, dI) mC [(cC, .char), (cI, .int), (cJ, .long)] [(xA, .inr (3, [.ref xL, .int xz])), (xL, .inl (cC, 300, .inl xl))] (fun _ => True) [.ref xA, .int place]) (vp_Si (fun r => r = fS_at xl xz place)) 0 0 (fun _ => False) := by
  refine Met.ofW (cc := mb_S_at) (maxL := 2) (ret := (some .char)) (by decide) rfl ?_
  intro p e s m args below meth c s₁ B hml hv
  obtain ⟨rfl, hP, hK, hE⟩ := hv
  have hx := B.exec
  have hb := B.bytes
  have hr := B.returns
  have hts := atoms_spec (ws := (.code my_S_at mb_S_at 2 (some .char) :: gw_l)) B.pre
  have hg : ∀ w ∈ gw_l, w.before _ s = true := fun w h => hts w (List.mem_cons_of_mem _ h)
  have hown : s.vm.findClass mR_S = some m.cls := findClass_of_methodNamed B.named
  have hlocks := B.notSynchronized
  have hl := lv_entry ([.ref xA, .int place]) (n := 2) (Nat.le_of_ble_eq_true rfl)
  rw [lg_entry_eq]
  generalize (lg_sl ([.ref xA, .int place]) ++ List.replicate (2 - (lg_sl ([.ref xA, .int place])).length) Slot.unset).toArray = ls at hl ⊢
  have hl : lv_has ls 2 [(0, .ref xA), (1, .int place)] := hl
  refine lv_iload_n hx hb md_S_at_0 rfl (lv_at hl 1 rfl) ?_
  refine lv_if_lt (tgt := 21) hx hb md_S_at_1 (by decide) (fun c1 => ?_) (fun c1 => ?_)
  · refine lv_iconst (v := 0) hx hb md_S_at_21 (by decide) ?_
    exact pu_zret hx hb hr hlocks rfl md_S_at_22 (by rw [fS_at, if_pos c1])
  · refine lv_iload_n hx hb md_S_at_4 rfl (lv_at hl 1 rfl) ?_
    refine lv_aload_n hx hb md_S_at_5 rfl (lv_at hl 0 rfl) ?_
    refine va_get (D := (dC, dI)) (ci := 3) (v := .int xz) (C := mR_S) (T := mT_S) (N := 2) hx hb hg gu_S hown hK hP 0 rfl rfl 1 (by decide) (hg _ wd_29) (fun _ h9 => h9) rfl md_S_at_6 ?_
    refine lv_icmp_ge (tgt := 21) hx hb md_S_at_9 (by decide) (fun c2 => ?_) (fun c2 => ?_)
    · refine lv_iconst (v := 0) hx hb md_S_at_21 (by decide) ?_
      exact pu_zret hx hb hr hlocks rfl md_S_at_22 (by rw [fS_at, if_neg c1, if_pos c2])
    · refine lv_aload_n hx hb md_S_at_12 rfl (lv_at hl 0 rfl) ?_
      refine va_get (D := (dC, dI)) (ci := 3) (v := .ref xL) (C := mR_S) (T := mT_S) (N := 2) hx hb hg gu_S hown hK hP 0 rfl rfl 0 (by decide) (hg _ wd_28) (fun _ h9 => h9) rfl md_S_at_13 ?_
      refine lv_iload_n hx hb md_S_at_16 rfl (lv_at hl 1 rfl) ?_
      refine va_cald hx hb hK hP 1 0 rfl rfl (hin c1 c2) md_S_at_17 ?_
      refine lv_goto (tgt := 22) hx hb md_S_at_18 (by decide) ?_
      exact pu_zret hx hb hr hlocks (hch _) md_S_at_22 (by rw [fS_at, if_neg c1, if_neg c2])

def fD_millionWeights (dw : Int64) (dh : Int64) (dt : Int64) (dd : Int64) : Int64 := ((dw * dh) * dt) * dd
set_option maxHeartbeats 1000000 in
set_option maxRecDepth 100000 in
theorem ct_D_millionWeights (l : Launch) (dC : Nat → ClassId) (dI : Nat → Nat → Nat) (cC cI cJ : ClassId) (dA : Nat) (dw : Int64) (dh : Int64) (dt : Int64) (dd : Int64)   : Met l my_D_millionWeights (.code my_D_millionWeights mb_D_millionWeights 1 (some .long) :: gw_l) ({ frames := 0, cells := 0, slots := 0, locals := 0 }) (pu_Pc (dC, dI) mC [(cC, .char), (cI, .int), (cJ, .long)] [(dA, .inr (0, [.long dw, .long dh, .long dt, .long dd]))] (fun _ => True) [.ref dA]) (vp_Sl (fun r => r = fD_millionWeights dw dh dt dd)) 0 0 (fun _ => False) := by
  refine Met.ofW (cc := mb_D_millionWeights) (maxL := 1) (ret := (some .long)) (by decide) rfl ?_
  intro p e s m args below meth c s₁ B hml hv
  obtain ⟨rfl, hP, hK, hE⟩ := hv
  have hx := B.exec
  have hb := B.bytes
  have hr := B.returns
  have hts := atoms_spec (ws := (.code my_D_millionWeights mb_D_millionWeights 1 (some .long) :: gw_l)) B.pre
  have hg : ∀ w ∈ gw_l, w.before _ s = true := fun w h => hts w (List.mem_cons_of_mem _ h)
  have hown : s.vm.findClass mR_D = some m.cls := findClass_of_methodNamed B.named
  have hlocks := B.notSynchronized
  have hl := lv_entry ([.ref dA]) (n := 1) (Nat.le_of_ble_eq_true rfl)
  rw [lg_entry_eq]
  generalize (lg_sl ([.ref dA]) ++ List.replicate (1 - (lg_sl ([.ref dA])).length) Slot.unset).toArray = ls at hl ⊢
  have hl : lv_has ls 1 [(0, .ref dA)] := hl
  refine lv_aload_n hx hb md_D_millionWeights_0 rfl (lv_at hl 0 rfl) ?_
  refine va_get (D := (dC, dI)) (ci := 0) (v := .long dw) (C := mR_D) (T := mT_D) (N := 4) hx hb hg gu_D hown hK hP 0 rfl rfl 0 (by decide) (hg _ wd_45) (fun _ h9 => h9) rfl md_D_millionWeights_1 ?_
  refine lv_aload_n hx hb md_D_millionWeights_4 rfl (lv_at hl 0 rfl) ?_
  refine va_get (D := (dC, dI)) (ci := 0) (v := .long dh) (C := mR_D) (T := mT_D) (N := 4) hx hb hg gu_D hown hK hP 0 rfl rfl 1 (by decide) (hg _ wd_46) (fun _ h9 => h9) rfl md_D_millionWeights_5 ?_
  refine lv_lmul hx hb md_D_millionWeights_8 ?_
  refine lv_aload_n hx hb md_D_millionWeights_9 rfl (lv_at hl 0 rfl) ?_
  refine va_get (D := (dC, dI)) (ci := 0) (v := .long dt) (C := mR_D) (T := mT_D) (N := 4) hx hb hg gu_D hown hK hP 0 rfl rfl 2 (by decide) (hg _ wd_49) (fun _ h9 => h9) rfl md_D_millionWeights_10 ?_
  refine lv_lmul hx hb md_D_millionWeights_13 ?_
  refine lv_aload_n hx hb md_D_millionWeights_14 rfl (lv_at hl 0 rfl) ?_
  refine va_get (D := (dC, dI)) (ci := 0) (v := .long dd) (C := mR_D) (T := mT_D) (N := 4) hx hb hg gu_D hown hK hP 0 rfl rfl 3 (by decide) (hg _ wd_50) (fun _ h9 => h9) rfl md_D_millionWeights_15 ?_
  refine lv_lmul hx hb md_D_millionWeights_18 ?_
  exact pu_lret hx hb hr hlocks md_D_millionWeights_19 rfl

def fD_shutX (dw : Int64) (corner : Int32) : Int64 := if corner = 1 then dw else (if corner = 2 then dw else 0)
set_option maxHeartbeats 1000000 in
set_option maxRecDepth 100000 in
theorem ct_D_shutX (l : Launch) (dC : Nat → ClassId) (dI : Nat → Nat → Nat) (cC cI cJ : ClassId) (dA : Nat) (dw : Int64) (dh : Int64) (dt : Int64) (dd : Int64) (corner : Int32)  : Met l my_D_shutX (.code my_D_shutX mb_D_shutX 2 (some .long) :: gw_l) ({ frames := 0, cells := 0, slots := 0, locals := 0 }) (pu_Pc (dC, dI) mC [(cC, .char), (cI, .int), (cJ, .long)] [(dA, .inr (0, [.long dw, .long dh, .long dt, .long dd]))] (fun _ => True) [.ref dA, .int corner]) (vp_Sl (fun r => r = fD_shutX dw corner)) 0 0 (fun _ => False) := by
  refine Met.ofW (cc := mb_D_shutX) (maxL := 2) (ret := (some .long)) (by decide) rfl ?_
  intro p e s m args below meth c s₁ B hml hv
  obtain ⟨rfl, hP, hK, hE⟩ := hv
  have hx := B.exec
  have hb := B.bytes
  have hr := B.returns
  have hts := atoms_spec (ws := (.code my_D_shutX mb_D_shutX 2 (some .long) :: gw_l)) B.pre
  have hg : ∀ w ∈ gw_l, w.before _ s = true := fun w h => hts w (List.mem_cons_of_mem _ h)
  have hown : s.vm.findClass mR_D = some m.cls := findClass_of_methodNamed B.named
  have hlocks := B.notSynchronized
  have hl := lv_entry ([.ref dA, .int corner]) (n := 2) (Nat.le_of_ble_eq_true rfl)
  rw [lg_entry_eq]
  generalize (lg_sl ([.ref dA, .int corner]) ++ List.replicate (2 - (lg_sl ([.ref dA, .int corner])).length) Slot.unset).toArray = ls at hl ⊢
  have hl : lv_has ls 2 [(0, .ref dA), (1, .int corner)] := hl
  refine lv_iload_n hx hb md_D_shutX_0 rfl (lv_at hl 1 rfl) ?_
  refine lv_iconst (v := 1) hx hb md_D_shutX_1 (by decide) ?_
  refine lv_icmp_eq (tgt := 10) hx hb md_D_shutX_2 (by decide) (fun c1 => ?_) (fun c1 => ?_)
  · refine lv_aload_n hx hb md_D_shutX_10 rfl (lv_at hl 0 rfl) ?_
    refine va_get (D := (dC, dI)) (ci := 0) (v := .long dw) (C := mR_D) (T := mT_D) (N := 4) hx hb hg gu_D hown hK hP 0 rfl rfl 0 (by decide) (hg _ wd_45) (fun _ h9 => h9) rfl md_D_shutX_11 ?_
    refine lv_goto (tgt := 18) hx hb md_D_shutX_14 (by decide) ?_
    exact pu_lret hx hb hr hlocks md_D_shutX_18 (by rw [fD_shutX, if_pos c1])
  · refine lv_iload_n hx hb md_D_shutX_5 rfl (lv_at hl 1 rfl) ?_
    refine lv_iconst (v := 2) hx hb md_D_shutX_6 (by decide) ?_
    refine lv_icmp_ne (tgt := 17) hx hb md_D_shutX_7 (by decide) (fun c2 => ?_) (fun c2 => ?_)
    · refine lv_lconst (v := 0) hx hb md_D_shutX_17 (by decide) ?_
      exact pu_lret hx hb hr hlocks md_D_shutX_18 (by rw [fD_shutX, if_neg c1, if_neg c2])
    · refine lv_aload_n hx hb md_D_shutX_10 rfl (lv_at hl 0 rfl) ?_
      refine va_get (D := (dC, dI)) (ci := 0) (v := .long dw) (C := mR_D) (T := mT_D) (N := 4) hx hb hg gu_D hown hK hP 0 rfl rfl 0 (by decide) (hg _ wd_45) (fun _ h9 => h9) rfl md_D_shutX_11 ?_
      refine lv_goto (tgt := 18) hx hb md_D_shutX_14 (by decide) ?_
      exact pu_lret hx hb hr hlocks md_D_shutX_18 (by rw [fD_shutX, if_neg c1, if_pos c2])

def fD_shutY (dt : Int64) (corner : Int32) : Int64 := if corner < 2 then 0 else dt
set_option maxHeartbeats 1000000 in
set_option maxRecDepth 100000 in
theorem ct_D_shutY (l : Launch) (dC : Nat → ClassId) (dI : Nat → Nat → Nat) (cC cI cJ : ClassId) (dA : Nat) (dw : Int64) (dh : Int64) (dt : Int64) (dd : Int64) (corner : Int32)  : Met l my_D_shutY (.code my_D_shutY mb_D_shutY 2 (some .long) :: gw_l) ({ frames := 0, cells := 0, slots := 0, locals := 0 }) (pu_Pc (dC, dI) mC [(cC, .char), (cI, .int), (cJ, .long)] [(dA, .inr (0, [.long dw, .long dh, .long dt, .long dd]))] (fun _ => True) [.ref dA, .int corner]) (vp_Sl (fun r => r = fD_shutY dt corner)) 0 0 (fun _ => False) := by
  refine Met.ofW (cc := mb_D_shutY) (maxL := 2) (ret := (some .long)) (by decide) rfl ?_
  intro p e s m args below meth c s₁ B hml hv
  obtain ⟨rfl, hP, hK, hE⟩ := hv
  have hx := B.exec
  have hb := B.bytes
  have hr := B.returns
  have hts := atoms_spec (ws := (.code my_D_shutY mb_D_shutY 2 (some .long) :: gw_l)) B.pre
  have hg : ∀ w ∈ gw_l, w.before _ s = true := fun w h => hts w (List.mem_cons_of_mem _ h)
  have hown : s.vm.findClass mR_D = some m.cls := findClass_of_methodNamed B.named
  have hlocks := B.notSynchronized
  have hl := lv_entry ([.ref dA, .int corner]) (n := 2) (Nat.le_of_ble_eq_true rfl)
  rw [lg_entry_eq]
  generalize (lg_sl ([.ref dA, .int corner]) ++ List.replicate (2 - (lg_sl ([.ref dA, .int corner])).length) Slot.unset).toArray = ls at hl ⊢
  have hl : lv_has ls 2 [(0, .ref dA), (1, .int corner)] := hl
  refine lv_iload_n hx hb md_D_shutY_0 rfl (lv_at hl 1 rfl) ?_
  refine lv_iconst (v := 2) hx hb md_D_shutY_1 (by decide) ?_
  refine lv_icmp_lt (tgt := 12) hx hb md_D_shutY_2 (by decide) (fun c1 => ?_) (fun c1 => ?_)
  · refine lv_lconst (v := 0) hx hb md_D_shutY_12 (by decide) ?_
    exact pu_lret hx hb hr hlocks md_D_shutY_13 (by rw [fD_shutY, if_pos c1])
  · refine lv_aload_n hx hb md_D_shutY_5 rfl (lv_at hl 0 rfl) ?_
    refine va_get (D := (dC, dI)) (ci := 0) (v := .long dt) (C := mR_D) (T := mT_D) (N := 4) hx hb hg gu_D hown hK hP 0 rfl rfl 2 (by decide) (hg _ wd_49) (fun _ h9 => h9) rfl md_D_shutY_6 ?_
    refine lv_goto (tgt := 13) hx hb md_D_shutY_9 (by decide) ?_
    exact pu_lret hx hb hr hlocks md_D_shutY_13 (by rw [fD_shutY, if_neg c1])

theorem gw_min : Cond.code Lib.MathLoose.min_long.x Lib.MathLoose.min_long.code 4 (some .long) ∈ gw_l := gw_t 424 (by decide +kernel) rfl

def fD_placeNumerator (dh : Int64) (k : Int32) (hinges : Int32) : Int64 := ((if 320 < dh then 320 else dh) * (Int32.toInt64 (hinges - 1))) + ((Int32.toInt64 k) * ((4 * dh) - (2 * (if 320 < dh then 320 else dh))))
set_option maxHeartbeats 1000000 in
set_option maxRecDepth 100000 in
theorem ct_D_placeNumerator (l : Launch) (dC : Nat → ClassId) (dI : Nat → Nat → Nat) (cC cI cJ : ClassId) (dA : Nat) (dw : Int64) (dh : Int64) (dt : Int64) (dd : Int64) (k : Int32) (hinges : Int32)  : Met l my_D_placeNumerator (.code my_D_placeNumerator mb_D_placeNumerator 5 (some .long) :: gw_l) ({ frames := 1, cells := 0, slots := 0, locals := 40 }) (pu_Pc (dC, dI) mC [(cC, .char), (cI, .int), (cJ, .long)] [(dA, .inr (0, [.long dw, .long dh, .long dt, .long dd]))] (fun _ => True) [.ref dA, .int k, .int hinges]) (vp_Sl (fun r => r = fD_placeNumerator dh k hinges)) 0 0 (fun _ => False) := by
  refine Met.ofW (cc := mb_D_placeNumerator) (maxL := 5) (ret := (some .long)) (by decide) rfl ?_
  intro p e s m args below meth c s₁ B hml hv
  obtain ⟨rfl, hP, hK, hE⟩ := hv
  have hx := B.exec
  have hb := B.bytes
  have hr := B.returns
  have hts := atoms_spec (ws := (.code my_D_placeNumerator mb_D_placeNumerator 5 (some .long) :: gw_l)) B.pre
  have hg : ∀ w ∈ gw_l, w.before _ s = true := fun w h => hts w (List.mem_cons_of_mem _ h)
  have hown : s.vm.findClass mR_D = some m.cls := findClass_of_methodNamed B.named
  have hlocks := B.notSynchronized
  have hl := lv_entry ([.ref dA, .int k, .int hinges]) (n := 5) (Nat.le_of_ble_eq_true rfl)
  rw [lg_entry_eq]
  generalize (lg_sl ([.ref dA, .int k, .int hinges]) ++ List.replicate (5 - (lg_sl ([.ref dA, .int k, .int hinges])).length) Slot.unset).toArray = ls at hl ⊢
  have hl : lv_has ls 5 [(0, .ref dA), (1, .int k), (2, .int hinges)] := hl
  refine lv_aload_n hx hb md_D_placeNumerator_0 rfl (lv_at hl 0 rfl) ?_
  refine va_get (D := (dC, dI)) (ci := 0) (v := .long dh) (C := mR_D) (T := mT_D) (N := 4) hx hb hg gu_D hown hK hP 0 rfl rfl 1 (by decide) (hg _ wd_46) (fun _ h9 => h9) rfl md_D_placeNumerator_1 ?_
  refine lv_ldc2 hx hb hown (hg _ wd_421) md_D_placeNumerator_4 ?_
  refine va_mmin_long hx hb (hml.trans hl.1.symm) hown (hg _ wd_422) (hg _ wd_423) (hg _ wd_13) (hg _ gw_min) (Nat.le_of_ble_eq_true rfl) (Nat.le_of_ble_eq_true rfl) (Nat.zero_le _) (Nat.zero_le _) md_D_placeNumerator_7 ?_
  refine lv_lstore_n (lv' := [(3, .long (if 320 < dh then 320 else dh)), (0, .ref dA), (1, .int k), (2, .int hinges)]) hx hb md_D_placeNumerator_10 rfl hl (by decide) rfl (fun ls hl => ?_)
  refine lv_lload_n hx hb md_D_placeNumerator_11 rfl (lv_at hl 0 rfl) ?_
  refine lv_iload_n hx hb md_D_placeNumerator_12 rfl (lv_at hl 3 rfl) ?_
  refine lv_iconst (v := 1) hx hb md_D_placeNumerator_13 (by decide) ?_
  refine lv_isub hx hb md_D_placeNumerator_14 ?_
  refine lv_i2l (v := Int32.toInt64 (hinges - 1)) hx hb md_D_placeNumerator_15 rfl ?_
  refine lv_lmul hx hb md_D_placeNumerator_16 ?_
  refine lv_iload_n hx hb md_D_placeNumerator_17 rfl (lv_at hl 2 rfl) ?_
  refine lv_i2l (v := Int32.toInt64 k) hx hb md_D_placeNumerator_18 rfl ?_
  refine lv_ldc2 hx hb hown (hg _ wd_425) md_D_placeNumerator_19 ?_
  refine lv_aload_n hx hb md_D_placeNumerator_22 rfl (lv_at hl 1 rfl) ?_
  refine va_get (D := (dC, dI)) (ci := 0) (v := .long dh) (C := mR_D) (T := mT_D) (N := 4) hx hb hg gu_D hown hK hP 0 rfl rfl 1 (by decide) (hg _ wd_46) (fun _ h9 => h9) rfl md_D_placeNumerator_23 ?_
  refine lv_lmul hx hb md_D_placeNumerator_26 ?_
  refine lv_ldc2 hx hb hown (hg _ wd_426) md_D_placeNumerator_27 ?_
  refine lv_lload_n hx hb md_D_placeNumerator_30 rfl (lv_at hl 0 rfl) ?_
  refine lv_lmul hx hb md_D_placeNumerator_31 ?_
  refine lv_lsub hx hb md_D_placeNumerator_32 ?_
  refine lv_lmul hx hb md_D_placeNumerator_33 ?_
  refine lv_ladd hx hb md_D_placeNumerator_34 ?_
  exact pu_lret hx hb hr hlocks md_D_placeNumerator_35 rfl

def fT_letter (tl : Nat → Int32) (row : Int32) : Int32 := tl (Int32.toNatClampNeg row)
set_option maxHeartbeats 1000000 in
set_option maxRecDepth 100000 in
theorem ct_T_letter (l : Launch) (dC : Nat → ClassId) (dI : Nat → Nat → Nat) (cC cI cJ : ClassId) (tA : Nat) (tL : Nat) (tN : Nat) (tS : Nat) (tl : Nat → Int32) (tn : Nat → Int32) (ts : Nat → Int32) (tz : Int32) (row : Int32) (hrow : vp_in row 16) (hch : ∀ j, narrow .char (.int (tl j)) = .int (tl j)) : Met l my_T_letter (.code my_T_letter mb_T_letter 2 (some .char) :: gw_l) ({ frames := 0, cells := 0, slots := 0, locals := 0 }) (pu_Pc (dC, dI) mC [(cC, .char), (cI, .int), (cJ, .long)] [(tA, .inr (2, [.ref tL, .ref tN, .ref tS, .int tz])), (tL, .inl (cC, 16, .inl tl)), (tN, .inl (cI, 96, .inl tn)), (tS, .inl (cI, 16, .inl ts))] (fun _ => True) [.ref tA, .int row]) (vp_Si (fun r => r = fT_letter tl row)) 0 0 (fun _ => False) := by
  refine Met.ofW (cc := mb_T_letter) (maxL := 2) (ret := (some .char)) (by decide) rfl ?_
  intro p e s m args below meth c s₁ B hml hv
  obtain ⟨rfl, hP, hK, hE⟩ := hv
  have hx := B.exec
  have hb := B.bytes
  have hr := B.returns
  have hts := atoms_spec (ws := (.code my_T_letter mb_T_letter 2 (some .char) :: gw_l)) B.pre
  have hg : ∀ w ∈ gw_l, w.before _ s = true := fun w h => hts w (List.mem_cons_of_mem _ h)
  have hown : s.vm.findClass mR_T = some m.cls := findClass_of_methodNamed B.named
  have hlocks := B.notSynchronized
  have hl := lv_entry ([.ref tA, .int row]) (n := 2) (Nat.le_of_ble_eq_true rfl)
  rw [lg_entry_eq]
  generalize (lg_sl ([.ref tA, .int row]) ++ List.replicate (2 - (lg_sl ([.ref tA, .int row])).length) Slot.unset).toArray = ls at hl ⊢
  have hl : lv_has ls 2 [(0, .ref tA), (1, .int row)] := hl
  refine lv_aload_n hx hb md_T_letter_0 rfl (lv_at hl 0 rfl) ?_
  refine va_get (D := (dC, dI)) (ci := 2) (v := .ref tL) (C := mR_T) (T := mT_T) (N := 4) hx hb hg gu_T hown hK hP 0 rfl rfl 0 (by decide) (hg _ wd_83) (fun _ h9 => h9) rfl md_T_letter_1 ?_
  refine lv_iload_n hx hb md_T_letter_4 rfl (lv_at hl 1 rfl) ?_
  refine va_cald hx hb hK hP 1 0 rfl rfl hrow md_T_letter_5 ?_
  exact pu_zret hx hb hr hlocks (hch _) md_T_letter_6 rfl

def fT_number (tn : Nat → Int32) (row : Int32) (k : Int32) : Int32 := tn (Int32.toNatClampNeg ((row * 6) + k))
set_option maxHeartbeats 1000000 in
set_option maxRecDepth 100000 in
theorem ct_T_number (l : Launch) (dC : Nat → ClassId) (dI : Nat → Nat → Nat) (cC cI cJ : ClassId) (tA : Nat) (tL : Nat) (tN : Nat) (tS : Nat) (tl : Nat → Int32) (tn : Nat → Int32) (ts : Nat → Int32) (tz : Int32) (row : Int32) (k : Int32) (hi : vp_in (row * 6 + k) 96) : Met l my_T_number (.code my_T_number mb_T_number 3 (some .int) :: gw_l) ({ frames := 0, cells := 0, slots := 0, locals := 0 }) (pu_Pc (dC, dI) mC [(cC, .char), (cI, .int), (cJ, .long)] [(tA, .inr (2, [.ref tL, .ref tN, .ref tS, .int tz])), (tL, .inl (cC, 16, .inl tl)), (tN, .inl (cI, 96, .inl tn)), (tS, .inl (cI, 16, .inl ts))] (fun _ => True) [.ref tA, .int row, .int k]) (vp_Si (fun r => r = fT_number tn row k)) 0 0 (fun _ => False) := by
  refine Met.ofW (cc := mb_T_number) (maxL := 3) (ret := (some .int)) (by decide) rfl ?_
  intro p e s m args below meth c s₁ B hml hv
  obtain ⟨rfl, hP, hK, hE⟩ := hv
  have hx := B.exec
  have hb := B.bytes
  have hr := B.returns
  have hts := atoms_spec (ws := (.code my_T_number mb_T_number 3 (some .int) :: gw_l)) B.pre
  have hg : ∀ w ∈ gw_l, w.before _ s = true := fun w h => hts w (List.mem_cons_of_mem _ h)
  have hown : s.vm.findClass mR_T = some m.cls := findClass_of_methodNamed B.named
  have hlocks := B.notSynchronized
  have hl := lv_entry ([.ref tA, .int row, .int k]) (n := 3) (Nat.le_of_ble_eq_true rfl)
  rw [lg_entry_eq]
  generalize (lg_sl ([.ref tA, .int row, .int k]) ++ List.replicate (3 - (lg_sl ([.ref tA, .int row, .int k])).length) Slot.unset).toArray = ls at hl ⊢
  have hl : lv_has ls 3 [(0, .ref tA), (1, .int row), (2, .int k)] := hl
  refine lv_aload_n hx hb md_T_number_0 rfl (lv_at hl 0 rfl) ?_
  refine va_get (D := (dC, dI)) (ci := 2) (v := .ref tN) (C := mR_T) (T := mT_T) (N := 4) hx hb hg gu_T hown hK hP 0 rfl rfl 1 (by decide) (hg _ wd_84) (fun _ h9 => h9) rfl md_T_number_1 ?_
  refine lv_iload_n hx hb md_T_number_4 rfl (lv_at hl 1 rfl) ?_
  refine lv_bipush (v := 6) hx hb md_T_number_5 (by decide) ?_
  refine lv_imul hx hb md_T_number_7 ?_
  refine lv_iload_n hx hb md_T_number_8 rfl (lv_at hl 2 rfl) ?_
  refine lv_iadd hx hb md_T_number_9 ?_
  refine va_iald hx hb hK hP 2 1 rfl rfl hi md_T_number_10 ?_
  exact pu_iret hx hb hr hlocks md_T_number_11 rfl

def fH_overlap (ox : Nat → Int32) (oy : Nat → Int32) (oq : Nat → Int32) (a : Int32) (b : Int32) : Int32 := if a = b then 0 else (if (oq (Int32.toNatClampNeg a)) = 0 then 0 else (if (oq (Int32.toNatClampNeg b)) = 0 then 0 else (if (((Int32.toInt64 (oq (Int32.toNatClampNeg a))) + (Int32.toInt64 (oq (Int32.toNatClampNeg b)))) * ((Int32.toInt64 (oq (Int32.toNatClampNeg a))) + (Int32.toInt64 (oq (Int32.toNatClampNeg b))))) ≤ ((((Int32.toInt64 (ox (Int32.toNatClampNeg a))) - (Int32.toInt64 (ox (Int32.toNatClampNeg b)))) * ((Int32.toInt64 (ox (Int32.toNatClampNeg a))) - (Int32.toInt64 (ox (Int32.toNatClampNeg b))))) + (((Int32.toInt64 (oy (Int32.toNatClampNeg a))) - (Int32.toInt64 (oy (Int32.toNatClampNeg b)))) * ((Int32.toInt64 (oy (Int32.toNatClampNeg a))) - (Int32.toInt64 (oy (Int32.toNatClampNeg b)))))) then 0 else 1)))
theorem zH_overlap (ox : Nat → Int32) (oy : Nat → Int32) (oq : Nat → Int32) (a : Int32) (b : Int32) : narrow .boolean (.int (fH_overlap ox oy oq a b)) = .int (fH_overlap ox oy oq a b) := by
  unfold fH_overlap
  repeat' split
  all_goals first | rfl | exact zK_isWithin _ _ _
set_option maxHeartbeats 1000000 in
set_option maxRecDepth 100000 in
theorem ct_H_overlap (l : Launch) (dC : Nat → ClassId) (dI : Nat → Nat → Nat) (cC cI cJ : ClassId) (oA : Nat) (oX : Nat) (oY : Nat) (oR : Nat) (ox : Nat → Int32) (oy : Nat → Int32) (oq : Nat → Int32) (a : Int32) (b : Int32) (ha : vp_in a 16) (hb9 : vp_in b 16) : Met l my_H_overlap (.code my_H_overlap mb_H_overlap 9 (some .boolean) :: gw_l) ({ frames := 0, cells := 0, slots := 0, locals := 0 }) (pu_Pc (dC, dI) mC [(cC, .char), (cI, .int), (cJ, .long)] [(oA, .inr (1, [.ref oX, .ref oY, .ref oR])), (oX, .inl (cI, 16, .inl ox)), (oY, .inl (cI, 16, .inl oy)), (oR, .inl (cI, 16, .inl oq))] (fun _ => True) [.ref oA, .int a, .int b]) (vp_Si (fun r => r = fH_overlap ox oy oq a b)) 0 0 (fun _ => False) := by
  refine Met.ofW (cc := mb_H_overlap) (maxL := 9) (ret := (some .boolean)) (by decide) rfl ?_
  intro p e s m args below meth c s₁ B hml hv
  obtain ⟨rfl, hP, hK, hE⟩ := hv
  have hx := B.exec
  have hb := B.bytes
  have hr := B.returns
  have hts := atoms_spec (ws := (.code my_H_overlap mb_H_overlap 9 (some .boolean) :: gw_l)) B.pre
  have hg : ∀ w ∈ gw_l, w.before _ s = true := fun w h => hts w (List.mem_cons_of_mem _ h)
  have hown : s.vm.findClass mR_H = some m.cls := findClass_of_methodNamed B.named
  have hlocks := B.notSynchronized
  have hl := lv_entry ([.ref oA, .int a, .int b]) (n := 9) (Nat.le_of_ble_eq_true rfl)
  rw [lg_entry_eq]
  generalize (lg_sl ([.ref oA, .int a, .int b]) ++ List.replicate (9 - (lg_sl ([.ref oA, .int a, .int b])).length) Slot.unset).toArray = ls at hl ⊢
  have hl : lv_has ls 9 [(0, .ref oA), (1, .int a), (2, .int b)] := hl
  refine lv_iload_n hx hb md_H_overlap_0 rfl (lv_at hl 1 rfl) ?_
  refine lv_iload_n hx hb md_H_overlap_1 rfl (lv_at hl 2 rfl) ?_
  refine lv_icmp_eq (tgt := 23) hx hb md_H_overlap_2 (by decide) (fun c1 => ?_) (fun c1 => ?_)
  · refine lv_iconst (v := 0) hx hb md_H_overlap_23 (by decide) ?_
    exact pu_zret hx hb hr hlocks rfl md_H_overlap_24 (by rw [fH_overlap, if_pos c1])
  · refine lv_aload_n hx hb md_H_overlap_5 rfl (lv_at hl 0 rfl) ?_
    refine va_get (D := (dC, dI)) (ci := 1) (v := .ref oR) (C := mR_H) (T := mT_H) (N := 3) hx hb hg gu_H hown hK hP 0 rfl rfl 2 (by decide) (hg _ wd_68) (fun _ h9 => h9) rfl md_H_overlap_6 ?_
    refine lv_iload_n hx hb md_H_overlap_9 rfl (lv_at hl 1 rfl) ?_
    refine va_iald hx hb hK hP 3 1 rfl rfl ha md_H_overlap_10 ?_
    refine lv_if_eq (tgt := 23) hx hb md_H_overlap_11 (by decide) (fun c2 => ?_) (fun c2 => ?_)
    · refine lv_iconst (v := 0) hx hb md_H_overlap_23 (by decide) ?_
      exact pu_zret hx hb hr hlocks rfl md_H_overlap_24 (by rw [fH_overlap, if_neg c1, if_pos c2])
    · refine lv_aload_n hx hb md_H_overlap_14 rfl (lv_at hl 0 rfl) ?_
      refine va_get (D := (dC, dI)) (ci := 1) (v := .ref oR) (C := mR_H) (T := mT_H) (N := 3) hx hb hg gu_H hown hK hP 0 rfl rfl 2 (by decide) (hg _ wd_68) (fun _ h9 => h9) rfl md_H_overlap_15 ?_
      refine lv_iload_n hx hb md_H_overlap_18 rfl (lv_at hl 2 rfl) ?_
      refine va_iald hx hb hK hP 3 1 rfl rfl hb9 md_H_overlap_19 ?_
      refine lv_if_ne (tgt := 25) hx hb md_H_overlap_20 (by decide) (fun c3 => ?_) (fun c3 => ?_)
      · refine lv_aload_n hx hb md_H_overlap_25 rfl (lv_at hl 0 rfl) ?_
        refine va_get (D := (dC, dI)) (ci := 1) (v := .ref oX) (C := mR_H) (T := mT_H) (N := 3) hx hb hg gu_H hown hK hP 0 rfl rfl 0 (by decide) (hg _ wd_66) (fun _ h9 => h9) rfl md_H_overlap_26 ?_
        refine lv_iload_n hx hb md_H_overlap_29 rfl (lv_at hl 1 rfl) ?_
        refine va_iald hx hb hK hP 1 1 rfl rfl ha md_H_overlap_30 ?_
        refine lv_i2l (v := Int32.toInt64 (ox (Int32.toNatClampNeg a))) hx hb md_H_overlap_31 rfl ?_
        refine lv_aload_n hx hb md_H_overlap_32 rfl (lv_at hl 0 rfl) ?_
        refine va_get (D := (dC, dI)) (ci := 1) (v := .ref oX) (C := mR_H) (T := mT_H) (N := 3) hx hb hg gu_H hown hK hP 0 rfl rfl 0 (by decide) (hg _ wd_66) (fun _ h9 => h9) rfl md_H_overlap_33 ?_
        refine lv_iload_n hx hb md_H_overlap_36 rfl (lv_at hl 2 rfl) ?_
        refine va_iald hx hb hK hP 1 1 rfl rfl hb9 md_H_overlap_37 ?_
        refine lv_i2l (v := Int32.toInt64 (ox (Int32.toNatClampNeg b))) hx hb md_H_overlap_38 rfl ?_
        refine lv_lsub hx hb md_H_overlap_39 ?_
        refine lv_lstore_n (lv' := [(3, .long ((Int32.toInt64 (ox (Int32.toNatClampNeg a))) - (Int32.toInt64 (ox (Int32.toNatClampNeg b))))), (0, .ref oA), (1, .int a), (2, .int b)]) hx hb md_H_overlap_40 rfl hl (by decide) rfl (fun ls hl => ?_)
        refine lv_aload_n hx hb md_H_overlap_41 rfl (lv_at hl 1 rfl) ?_
        refine va_get (D := (dC, dI)) (ci := 1) (v := .ref oY) (C := mR_H) (T := mT_H) (N := 3) hx hb hg gu_H hown hK hP 0 rfl rfl 1 (by decide) (hg _ wd_67) (fun _ h9 => h9) rfl md_H_overlap_42 ?_
        refine lv_iload_n hx hb md_H_overlap_45 rfl (lv_at hl 2 rfl) ?_
        refine va_iald hx hb hK hP 2 1 rfl rfl ha md_H_overlap_46 ?_
        refine lv_i2l (v := Int32.toInt64 (oy (Int32.toNatClampNeg a))) hx hb md_H_overlap_47 rfl ?_
        refine lv_aload_n hx hb md_H_overlap_48 rfl (lv_at hl 1 rfl) ?_
        refine va_get (D := (dC, dI)) (ci := 1) (v := .ref oY) (C := mR_H) (T := mT_H) (N := 3) hx hb hg gu_H hown hK hP 0 rfl rfl 1 (by decide) (hg _ wd_67) (fun _ h9 => h9) rfl md_H_overlap_49 ?_
        refine lv_iload_n hx hb md_H_overlap_52 rfl (lv_at hl 3 rfl) ?_
        refine va_iald hx hb hK hP 2 1 rfl rfl hb9 md_H_overlap_53 ?_
        refine lv_i2l (v := Int32.toInt64 (oy (Int32.toNatClampNeg b))) hx hb md_H_overlap_54 rfl ?_
        refine lv_lsub hx hb md_H_overlap_55 ?_
        refine lv_lstore (lv' := [(5, .long ((Int32.toInt64 (oy (Int32.toNatClampNeg a))) - (Int32.toInt64 (oy (Int32.toNatClampNeg b))))), (3, .long ((Int32.toInt64 (ox (Int32.toNatClampNeg a))) - (Int32.toInt64 (ox (Int32.toNatClampNeg b))))), (0, .ref oA), (1, .int a), (2, .int b)]) hx hb md_H_overlap_56 hl (by decide) rfl (fun ls hl => ?_)
        refine lv_aload_n hx hb md_H_overlap_58 rfl (lv_at hl 2 rfl) ?_
        refine va_get (D := (dC, dI)) (ci := 1) (v := .ref oR) (C := mR_H) (T := mT_H) (N := 3) hx hb hg gu_H hown hK hP 0 rfl rfl 2 (by decide) (hg _ wd_68) (fun _ h9 => h9) rfl md_H_overlap_59 ?_
        refine lv_iload_n hx hb md_H_overlap_62 rfl (lv_at hl 3 rfl) ?_
        refine va_iald hx hb hK hP 3 1 rfl rfl ha md_H_overlap_63 ?_
        refine lv_i2l (v := Int32.toInt64 (oq (Int32.toNatClampNeg a))) hx hb md_H_overlap_64 rfl ?_
        refine lv_aload_n hx hb md_H_overlap_65 rfl (lv_at hl 2 rfl) ?_
        refine va_get (D := (dC, dI)) (ci := 1) (v := .ref oR) (C := mR_H) (T := mT_H) (N := 3) hx hb hg gu_H hown hK hP 0 rfl rfl 2 (by decide) (hg _ wd_68) (fun _ h9 => h9) rfl md_H_overlap_66 ?_
        refine lv_iload_n hx hb md_H_overlap_69 rfl (lv_at hl 4 rfl) ?_
        refine va_iald hx hb hK hP 3 1 rfl rfl hb9 md_H_overlap_70 ?_
        refine lv_i2l (v := Int32.toInt64 (oq (Int32.toNatClampNeg b))) hx hb md_H_overlap_71 rfl ?_
        refine lv_ladd hx hb md_H_overlap_72 ?_
        refine lv_lstore (lv' := [(7, .long ((Int32.toInt64 (oq (Int32.toNatClampNeg a))) + (Int32.toInt64 (oq (Int32.toNatClampNeg b))))), (5, .long ((Int32.toInt64 (oy (Int32.toNatClampNeg a))) - (Int32.toInt64 (oy (Int32.toNatClampNeg b))))), (3, .long ((Int32.toInt64 (ox (Int32.toNatClampNeg a))) - (Int32.toInt64 (ox (Int32.toNatClampNeg b))))), (0, .ref oA), (1, .int a), (2, .int b)]) hx hb md_H_overlap_73 hl (by decide) rfl (fun ls hl => ?_)
        refine lv_lload_n hx hb md_H_overlap_75 rfl (lv_at hl 2 rfl) ?_
        refine lv_lload_n hx hb md_H_overlap_76 rfl (lv_at hl 2 rfl) ?_
        refine lv_lmul hx hb md_H_overlap_77 ?_
        refine lv_lload hx hb md_H_overlap_78 (lv_at hl 1 rfl) ?_
        refine lv_lload hx hb md_H_overlap_80 (lv_at hl 1 rfl) ?_
        refine lv_lmul hx hb md_H_overlap_82 ?_
        refine lv_ladd hx hb md_H_overlap_83 ?_
        refine lv_lload hx hb md_H_overlap_84 (lv_at hl 0 rfl) ?_
        refine lv_lload hx hb md_H_overlap_86 (lv_at hl 0 rfl) ?_
        refine lv_lmul hx hb md_H_overlap_88 ?_
        refine lx_ge (tgt := 97) hx hb md_H_overlap_89 md_H_overlap_90 (by decide) (fun c4 => ?_) (fun c4 => ?_)
        · refine lv_iconst (v := 0) hx hb md_H_overlap_97 (by decide) ?_
          exact pu_zret hx hb hr hlocks rfl md_H_overlap_98 (by rw [fH_overlap, if_neg c1, if_neg c2, if_neg c3, if_pos c4])
        · refine lv_iconst (v := 1) hx hb md_H_overlap_93 (by decide) ?_
          refine lv_goto (tgt := 98) hx hb md_H_overlap_94 (by decide) ?_
          exact pu_zret hx hb hr hlocks rfl md_H_overlap_98 (by rw [fH_overlap, if_neg c1, if_neg c2, if_neg c3, if_neg c4])
      · refine lv_iconst (v := 0) hx hb md_H_overlap_23 (by decide) ?_
        exact pu_zret hx hb hr hlocks rfl md_H_overlap_24 (by rw [fH_overlap, if_neg c1, if_neg c2, if_pos c3])

def fT_isStocked (tl : Nat → Int32) (ts : Nat → Int32) (row : Int32) (letter : Int32) : Int32 := if (tl (Int32.toNatClampNeg row)) = letter then (if (ts (Int32.toNatClampNeg row)) ≤ 0 then 0 else 1) else 0
theorem zT_isStocked (tl : Nat → Int32) (ts : Nat → Int32) (row : Int32) (letter : Int32) : narrow .boolean (.int (fT_isStocked tl ts row letter)) = .int (fT_isStocked tl ts row letter) := by
  unfold fT_isStocked
  repeat' split
  all_goals first | rfl | exact zK_isWithin _ _ _
set_option maxHeartbeats 1000000 in
set_option maxRecDepth 100000 in
theorem ct_T_isStocked (l : Launch) (dC : Nat → ClassId) (dI : Nat → Nat → Nat) (cC cI cJ : ClassId) (tA : Nat) (tL : Nat) (tN : Nat) (tS : Nat) (tl : Nat → Int32) (tn : Nat → Int32) (ts : Nat → Int32) (tz : Int32) (row : Int32) (letter : Int32) (hrow : vp_in row 16) : Met l my_T_isStocked (.code my_T_isStocked mb_T_isStocked 3 (some .boolean) :: gw_l) ({ frames := 0, cells := 0, slots := 0, locals := 0 }) (pu_Pc (dC, dI) mC [(cC, .char), (cI, .int), (cJ, .long)] [(tA, .inr (2, [.ref tL, .ref tN, .ref tS, .int tz])), (tL, .inl (cC, 16, .inl tl)), (tN, .inl (cI, 96, .inl tn)), (tS, .inl (cI, 16, .inl ts))] (fun _ => True) [.ref tA, .int row, .int letter]) (vp_Si (fun r => r = fT_isStocked tl ts row letter)) 0 0 (fun _ => False) := by
  refine Met.ofW (cc := mb_T_isStocked) (maxL := 3) (ret := (some .boolean)) (by decide) rfl ?_
  intro p e s m args below meth c s₁ B hml hv
  obtain ⟨rfl, hP, hK, hE⟩ := hv
  have hx := B.exec
  have hb := B.bytes
  have hr := B.returns
  have hts := atoms_spec (ws := (.code my_T_isStocked mb_T_isStocked 3 (some .boolean) :: gw_l)) B.pre
  have hg : ∀ w ∈ gw_l, w.before _ s = true := fun w h => hts w (List.mem_cons_of_mem _ h)
  have hown : s.vm.findClass mR_T = some m.cls := findClass_of_methodNamed B.named
  have hlocks := B.notSynchronized
  have hl := lv_entry ([.ref tA, .int row, .int letter]) (n := 3) (Nat.le_of_ble_eq_true rfl)
  rw [lg_entry_eq]
  generalize (lg_sl ([.ref tA, .int row, .int letter]) ++ List.replicate (3 - (lg_sl ([.ref tA, .int row, .int letter])).length) Slot.unset).toArray = ls at hl ⊢
  have hl : lv_has ls 3 [(0, .ref tA), (1, .int row), (2, .int letter)] := hl
  refine lv_aload_n hx hb md_T_isStocked_0 rfl (lv_at hl 0 rfl) ?_
  refine va_get (D := (dC, dI)) (ci := 2) (v := .ref tL) (C := mR_T) (T := mT_T) (N := 4) hx hb hg gu_T hown hK hP 0 rfl rfl 0 (by decide) (hg _ wd_83) (fun _ h9 => h9) rfl md_T_isStocked_1 ?_
  refine lv_iload_n hx hb md_T_isStocked_4 rfl (lv_at hl 1 rfl) ?_
  refine va_cald hx hb hK hP 1 0 rfl rfl hrow md_T_isStocked_5 ?_
  refine lv_iload_n hx hb md_T_isStocked_6 rfl (lv_at hl 2 rfl) ?_
  refine lv_icmp_ne (tgt := 23) hx hb md_T_isStocked_7 (by decide) (fun c1 => ?_) (fun c1 => ?_)
  · refine lv_iconst (v := 0) hx hb md_T_isStocked_23 (by decide) ?_
    exact pu_zret hx hb hr hlocks rfl md_T_isStocked_24 (by rw [fT_isStocked, if_neg c1])
  · refine lv_aload_n hx hb md_T_isStocked_10 rfl (lv_at hl 0 rfl) ?_
    refine va_get (D := (dC, dI)) (ci := 2) (v := .ref tS) (C := mR_T) (T := mT_T) (N := 4) hx hb hg gu_T hown hK hP 0 rfl rfl 2 (by decide) (hg _ wd_85) (fun _ h9 => h9) rfl md_T_isStocked_11 ?_
    refine lv_iload_n hx hb md_T_isStocked_14 rfl (lv_at hl 1 rfl) ?_
    refine va_iald hx hb hK hP 3 1 rfl rfl hrow md_T_isStocked_15 ?_
    refine lv_if_le (tgt := 23) hx hb md_T_isStocked_16 (by decide) (fun c2 => ?_) (fun c2 => ?_)
    · refine lv_iconst (v := 0) hx hb md_T_isStocked_23 (by decide) ?_
      exact pu_zret hx hb hr hlocks rfl md_T_isStocked_24 (by rw [fT_isStocked, if_pos c1, if_pos c2])
    · refine lv_iconst (v := 1) hx hb md_T_isStocked_19 (by decide) ?_
      refine lv_goto (tgt := 24) hx hb md_T_isStocked_20 (by decide) ?_
      exact pu_zret hx hb hr hlocks rfl md_T_isStocked_24 (by rw [fT_isStocked, if_pos c1, if_neg c2])

def fT_holds (tn : Nat → Int32) (row : Int32) (k : Int32) (least : Int64) (greatest : Int64) : Int32 := if least < (Int32.toInt64 (fT_number tn row k)) then 0 else (if (Int32.toInt64 (fT_number tn row (k + 1))) < greatest then 0 else 1)
theorem zT_holds (tn : Nat → Int32) (row : Int32) (k : Int32) (least : Int64) (greatest : Int64) : narrow .boolean (.int (fT_holds tn row k least greatest)) = .int (fT_holds tn row k least greatest) := by
  unfold fT_holds
  repeat' split
  all_goals first | rfl | exact zK_isWithin _ _ _
set_option maxHeartbeats 1000000 in
set_option maxRecDepth 100000 in
theorem ct_T_holds (l : Launch) (dC : Nat → ClassId) (dI : Nat → Nat → Nat) (cC cI cJ : ClassId) (tA : Nat) (tL : Nat) (tN : Nat) (tS : Nat) (tl : Nat → Int32) (tn : Nat → Int32) (ts : Nat → Int32) (tz : Int32) (row : Int32) (k : Int32) (least : Int64) (greatest : Int64) (h1 : vp_in (row * 6 + k) 96) (h2 : vp_in (row * 6 + (k + 1)) 96) : Met l my_T_holds (.code my_T_holds mb_T_holds 7 (some .boolean) :: gw_l) ({ frames := 1, cells := 0, slots := 0, locals := 22 }) (pu_Pc (dC, dI) mC [(cC, .char), (cI, .int), (cJ, .long)] [(tA, .inr (2, [.ref tL, .ref tN, .ref tS, .int tz])), (tL, .inl (cC, 16, .inl tl)), (tN, .inl (cI, 96, .inl tn)), (tS, .inl (cI, 16, .inl ts))] (fun _ => True) [.ref tA, .int row, .int k, .long least, .long greatest]) (vp_Si (fun r => r = fT_holds tn row k least greatest)) 0 0 (fun _ => False) := by
  refine Met.ofW (cc := mb_T_holds) (maxL := 7) (ret := (some .boolean)) (by decide) rfl ?_
  intro p e s m args below meth c s₁ B hml hv
  obtain ⟨rfl, hP, hK, hE⟩ := hv
  have hx := B.exec
  have hb := B.bytes
  have hr := B.returns
  have hts := atoms_spec (ws := (.code my_T_holds mb_T_holds 7 (some .boolean) :: gw_l)) B.pre
  have hg : ∀ w ∈ gw_l, w.before _ s = true := fun w h => hts w (List.mem_cons_of_mem _ h)
  have hown : s.vm.findClass mR_T = some m.cls := findClass_of_methodNamed B.named
  have hlocks := B.notSynchronized
  have hl := lv_entry ([.ref tA, .int row, .int k, .long least, .long greatest]) (n := 7) (Nat.le_of_ble_eq_true rfl)
  rw [lg_entry_eq]
  generalize (lg_sl ([.ref tA, .int row, .int k, .long least, .long greatest]) ++ List.replicate (7 - (lg_sl ([.ref tA, .int row, .int k, .long least, .long greatest])).length) Slot.unset).toArray = ls at hl ⊢
  have hl : lv_has ls 7 [(0, .ref tA), (1, .int row), (2, .int k), (3, .long least), (5, .long greatest)] := hl
  refine lv_aload_n hx hb md_T_holds_0 rfl (lv_at hl 0 rfl) ?_
  refine lv_iload_n hx hb md_T_holds_1 rfl (lv_at hl 1 rfl) ?_
  refine lv_iload_n hx hb md_T_holds_2 rfl (lv_at hl 2 rfl) ?_
  have hPc1 := hP.sub (ws' := [(tA, .inr (2, [.ref tL, .ref tN, .ref tS, .int tz])), (tL, .inl (cC, 16, .inl tl)), (tN, .inl (cI, 96, .inl tn)), (tS, .inl (cI, 16, .inl ts))]) [0, 1, 2, 3] rfl
  refine pu_i (W.runV (As := [.int row, .int k]) (rest := []) ⟨hx, hb, hml, hown, hg⟩ (ct_T_number l dC dI cC cI cJ tA tL tN tS tl tn ts tz row k h1) (gw_cwV hg wd_162 mv_T_number rfl rfl ⟨Nat.le_of_ble_eq_true rfl, Nat.le_of_ble_eq_true rfl⟩) (pu_preV (ci := 2) (q0 := 0) pu_blT hK hPc1 pu_e1 rfl rfl) rfl rfl hl.1 rfl (lv_room (Nat.le_of_ble_eq_true rfl)) md_T_holds_3 ⟨Nat.zero_le _, Nat.zero_le _⟩) ?_
  refine lv_i2l (v := Int32.toInt64 (fT_number tn row k)) hx hb md_T_holds_6 rfl ?_
  refine lv_lload_n hx hb md_T_holds_7 rfl (lv_at hl 3 rfl) ?_
  refine lx_gt (tgt := 31) hx hb md_T_holds_8 md_T_holds_9 (by decide) (fun c2 => ?_) (fun c2 => ?_)
  · refine lv_iconst (v := 0) hx hb md_T_holds_31 (by decide) ?_
    exact pu_zret hx hb hr hlocks rfl md_T_holds_32 (by rw [fT_holds, if_pos c2])
  · refine lv_lload hx hb md_T_holds_12 (lv_at hl 4 rfl) ?_
    refine lv_aload_n hx hb md_T_holds_14 rfl (lv_at hl 0 rfl) ?_
    refine lv_iload_n hx hb md_T_holds_15 rfl (lv_at hl 1 rfl) ?_
    refine lv_iload_n hx hb md_T_holds_16 rfl (lv_at hl 2 rfl) ?_
    refine lv_iconst (v := 1) hx hb md_T_holds_17 (by decide) ?_
    refine lv_iadd hx hb md_T_holds_18 ?_
    have hPc3 := hP.sub (ws' := [(tA, .inr (2, [.ref tL, .ref tN, .ref tS, .int tz])), (tL, .inl (cC, 16, .inl tl)), (tN, .inl (cI, 96, .inl tn)), (tS, .inl (cI, 16, .inl ts))]) [0, 1, 2, 3] rfl
    refine pu_i (W.runV (As := [.int row, .int (k + 1)]) (rest := [.long greatest]) ⟨hx, hb, hml, hown, hg⟩ (ct_T_number l dC dI cC cI cJ tA tL tN tS tl tn ts tz row (k + 1) h2) (gw_cwV hg wd_162 mv_T_number rfl rfl ⟨Nat.le_of_ble_eq_true rfl, Nat.le_of_ble_eq_true rfl⟩) (pu_preV (ci := 2) (q0 := 0) pu_blT hK hPc3 pu_e1 rfl rfl) rfl rfl hl.1 rfl (lv_room (Nat.le_of_ble_eq_true rfl)) md_T_holds_19 ⟨Nat.zero_le _, Nat.zero_le _⟩) ?_
    refine lv_i2l (v := Int32.toInt64 (fT_number tn row (k + 1))) hx hb md_T_holds_22 rfl ?_
    refine lx_gt (tgt := 31) hx hb md_T_holds_23 md_T_holds_24 (by decide) (fun c4 => ?_) (fun c4 => ?_)
    · refine lv_iconst (v := 0) hx hb md_T_holds_31 (by decide) ?_
      exact pu_zret hx hb hr hlocks rfl md_T_holds_32 (by rw [fT_holds, if_neg c2, if_pos c4])
    · refine lv_iconst (v := 1) hx hb md_T_holds_27 (by decide) ?_
      refine lv_goto (tgt := 32) hx hb md_T_holds_28 (by decide) ?_
      exact pu_zret hx hb hr hlocks rfl md_T_holds_32 (by rw [fT_holds, if_neg c2, if_neg c4])

def fT_mayStand (tl : Nat → Int32) (tn : Nat → Int32) (row : Int32) (k : Int32) (value : Int32) : Int32 := if (tl (Int32.toNatClampNeg row)) = 104 then (if k = 1 then (if value < (fT_number tn row (k - 1)) then 0 else 1) else (if k = 3 then (if value < (fT_number tn row (k - 1)) then 0 else 1) else (if (tl (Int32.toNatClampNeg row)) = 99 then (if k = 2 then (if value < 1 then 0 else (if 9 < value then 0 else 1)) else 1) else 1))) else (if (tl (Int32.toNatClampNeg row)) = 99 then (if k = 2 then (if value < 1 then 0 else (if 9 < value then 0 else 1)) else 1) else 1)
theorem zT_mayStand (tl : Nat → Int32) (tn : Nat → Int32) (row : Int32) (k : Int32) (value : Int32) : narrow .boolean (.int (fT_mayStand tl tn row k value)) = .int (fT_mayStand tl tn row k value) := by
  unfold fT_mayStand
  repeat' split
  all_goals first | rfl | exact zK_isWithin _ _ _
set_option maxHeartbeats 1000000 in
set_option maxRecDepth 100000 in
theorem ct_T_mayStand (l : Launch) (dC : Nat → ClassId) (dI : Nat → Nat → Nat) (cC cI cJ : ClassId) (tA : Nat) (tL : Nat) (tN : Nat) (tS : Nat) (tl : Nat → Int32) (tn : Nat → Int32) (ts : Nat → Int32) (tz : Int32) (row : Int32) (k : Int32) (value : Int32) (hrow : vp_in row 16) (h1 : k = 1 ∨ k = 3 → vp_in (row * 6 + (k - 1)) 96) : Met l my_T_mayStand (.code my_T_mayStand mb_T_mayStand 4 (some .boolean) :: gw_l) ({ frames := 1, cells := 0, slots := 0, locals := 22 }) (pu_Pc (dC, dI) mC [(cC, .char), (cI, .int), (cJ, .long)] [(tA, .inr (2, [.ref tL, .ref tN, .ref tS, .int tz])), (tL, .inl (cC, 16, .inl tl)), (tN, .inl (cI, 96, .inl tn)), (tS, .inl (cI, 16, .inl ts))] (fun _ => True) [.ref tA, .int row, .int k, .int value]) (vp_Si (fun r => r = fT_mayStand tl tn row k value)) 0 0 (fun _ => False) := by
  refine Met.ofW (cc := mb_T_mayStand) (maxL := 4) (ret := (some .boolean)) (by decide) rfl ?_
  intro p e s m args below meth c s₁ B hml hv
  obtain ⟨rfl, hP, hK, hE⟩ := hv
  have hx := B.exec
  have hb := B.bytes
  have hr := B.returns
  have hts := atoms_spec (ws := (.code my_T_mayStand mb_T_mayStand 4 (some .boolean) :: gw_l)) B.pre
  have hg : ∀ w ∈ gw_l, w.before _ s = true := fun w h => hts w (List.mem_cons_of_mem _ h)
  have hown : s.vm.findClass mR_T = some m.cls := findClass_of_methodNamed B.named
  have hlocks := B.notSynchronized
  have hl := lv_entry ([.ref tA, .int row, .int k, .int value]) (n := 4) (Nat.le_of_ble_eq_true rfl)
  rw [lg_entry_eq]
  generalize (lg_sl ([.ref tA, .int row, .int k, .int value]) ++ List.replicate (4 - (lg_sl ([.ref tA, .int row, .int k, .int value])).length) Slot.unset).toArray = ls at hl ⊢
  have hl : lv_has ls 4 [(0, .ref tA), (1, .int row), (2, .int k), (3, .int value)] := hl
  refine lv_aload_n hx hb md_T_mayStand_0 rfl (lv_at hl 0 rfl) ?_
  refine va_get (D := (dC, dI)) (ci := 2) (v := .ref tL) (C := mR_T) (T := mT_T) (N := 4) hx hb hg gu_T hown hK hP 0 rfl rfl 0 (by decide) (hg _ wd_83) (fun _ h9 => h9) rfl md_T_mayStand_1 ?_
  refine lv_iload_n hx hb md_T_mayStand_4 rfl (lv_at hl 1 rfl) ?_
  refine va_cald hx hb hK hP 1 0 rfl rfl hrow md_T_mayStand_5 ?_
  refine lv_bipush (v := 104) hx hb md_T_mayStand_6 (by decide) ?_
  refine lv_icmp_ne (tgt := 39) hx hb md_T_mayStand_8 (by decide) (fun c1 => ?_) (fun c1 => ?_)
  · refine lv_aload_n hx hb md_T_mayStand_39 rfl (lv_at hl 0 rfl) ?_
    refine va_get (D := (dC, dI)) (ci := 2) (v := .ref tL) (C := mR_T) (T := mT_T) (N := 4) hx hb hg gu_T hown hK hP 0 rfl rfl 0 (by decide) (hg _ wd_83) (fun _ h9 => h9) rfl md_T_mayStand_40 ?_
    refine lv_iload_n hx hb md_T_mayStand_43 rfl (lv_at hl 1 rfl) ?_
    refine va_cald hx hb hK hP 1 0 rfl rfl hrow md_T_mayStand_44 ?_
    refine lv_bipush (v := 99) hx hb md_T_mayStand_45 (by decide) ?_
    refine lv_icmp_ne (tgt := 72) hx hb md_T_mayStand_47 (by decide) (fun c2 => ?_) (fun c2 => ?_)
    · refine lv_iconst (v := 1) hx hb md_T_mayStand_72 (by decide) ?_
      exact pu_zret hx hb hr hlocks rfl md_T_mayStand_73 (by rw [fT_mayStand, if_neg c1, if_neg c2])
    · refine lv_iload_n hx hb md_T_mayStand_50 rfl (lv_at hl 2 rfl) ?_
      refine lv_iconst (v := 2) hx hb md_T_mayStand_51 (by decide) ?_
      refine lv_icmp_ne (tgt := 72) hx hb md_T_mayStand_52 (by decide) (fun c3 => ?_) (fun c3 => ?_)
      · refine lv_iconst (v := 1) hx hb md_T_mayStand_72 (by decide) ?_
        exact pu_zret hx hb hr hlocks rfl md_T_mayStand_73 (by rw [fT_mayStand, if_neg c1, if_pos c2, if_neg c3])
      · refine lv_iload_n hx hb md_T_mayStand_55 rfl (lv_at hl 3 rfl) ?_
        refine lv_iconst (v := 1) hx hb md_T_mayStand_56 (by decide) ?_
        refine lv_icmp_lt (tgt := 70) hx hb md_T_mayStand_57 (by decide) (fun c4 => ?_) (fun c4 => ?_)
        · refine lv_iconst (v := 0) hx hb md_T_mayStand_70 (by decide) ?_
          exact pu_zret hx hb hr hlocks rfl md_T_mayStand_71 (by rw [fT_mayStand, if_neg c1, if_pos c2, if_pos c3, if_pos c4])
        · refine lv_iload_n hx hb md_T_mayStand_60 rfl (lv_at hl 3 rfl) ?_
          refine lv_bipush (v := 9) hx hb md_T_mayStand_61 (by decide) ?_
          refine lv_icmp_gt (tgt := 70) hx hb md_T_mayStand_63 (by decide) (fun c5 => ?_) (fun c5 => ?_)
          · refine lv_iconst (v := 0) hx hb md_T_mayStand_70 (by decide) ?_
            exact pu_zret hx hb hr hlocks rfl md_T_mayStand_71 (by rw [fT_mayStand, if_neg c1, if_pos c2, if_pos c3, if_neg c4, if_pos c5])
          · refine lv_iconst (v := 1) hx hb md_T_mayStand_66 (by decide) ?_
            refine lv_goto (tgt := 71) hx hb md_T_mayStand_67 (by decide) ?_
            exact pu_zret hx hb hr hlocks rfl md_T_mayStand_71 (by rw [fT_mayStand, if_neg c1, if_pos c2, if_pos c3, if_neg c4, if_neg c5])
  · refine lv_iload_n hx hb md_T_mayStand_11 rfl (lv_at hl 2 rfl) ?_
    refine lv_iconst (v := 1) hx hb md_T_mayStand_12 (by decide) ?_
    refine lv_icmp_eq (tgt := 21) hx hb md_T_mayStand_13 (by decide) (fun c6 => ?_) (fun c6 => ?_)
    · refine lv_iload_n hx hb md_T_mayStand_21 rfl (lv_at hl 3 rfl) ?_
      refine lv_aload_n hx hb md_T_mayStand_22 rfl (lv_at hl 0 rfl) ?_
      refine lv_iload_n hx hb md_T_mayStand_23 rfl (lv_at hl 1 rfl) ?_
      refine lv_iload_n hx hb md_T_mayStand_24 rfl (lv_at hl 2 rfl) ?_
      refine lv_iconst (v := 1) hx hb md_T_mayStand_25 (by decide) ?_
      refine lv_isub hx hb md_T_mayStand_26 ?_
      have hPc7 := hP.sub (ws' := [(tA, .inr (2, [.ref tL, .ref tN, .ref tS, .int tz])), (tL, .inl (cC, 16, .inl tl)), (tN, .inl (cI, 96, .inl tn)), (tS, .inl (cI, 16, .inl ts))]) [0, 1, 2, 3] rfl
      refine pu_i (W.runV (As := [.int row, .int (k - 1)]) (rest := [.int value]) ⟨hx, hb, hml, hown, hg⟩ (ct_T_number l dC dI cC cI cJ tA tL tN tS tl tn ts tz row (k - 1) (h1 (Or.inl c6))) (gw_cwV hg wd_162 mv_T_number rfl rfl ⟨Nat.le_of_ble_eq_true rfl, Nat.le_of_ble_eq_true rfl⟩) (pu_preV (ci := 2) (q0 := 0) pu_blT hK hPc7 pu_e1 rfl rfl) rfl rfl hl.1 rfl (lv_room (Nat.le_of_ble_eq_true rfl)) md_T_mayStand_27 ⟨Nat.zero_le _, Nat.zero_le _⟩) ?_
      refine lv_icmp_lt (tgt := 37) hx hb md_T_mayStand_30 (by decide) (fun c8 => ?_) (fun c8 => ?_)
      · refine lv_iconst (v := 0) hx hb md_T_mayStand_37 (by decide) ?_
        exact pu_zret hx hb hr hlocks rfl md_T_mayStand_38 (by rw [fT_mayStand, if_pos c1, if_pos c6, if_pos c8])
      · refine lv_iconst (v := 1) hx hb md_T_mayStand_33 (by decide) ?_
        refine lv_goto (tgt := 38) hx hb md_T_mayStand_34 (by decide) ?_
        exact pu_zret hx hb hr hlocks rfl md_T_mayStand_38 (by rw [fT_mayStand, if_pos c1, if_pos c6, if_neg c8])
    · refine lv_iload_n hx hb md_T_mayStand_16 rfl (lv_at hl 2 rfl) ?_
      refine lv_iconst (v := 3) hx hb md_T_mayStand_17 (by decide) ?_
      refine lv_icmp_ne (tgt := 39) hx hb md_T_mayStand_18 (by decide) (fun c9 => ?_) (fun c9 => ?_)
      · refine lv_aload_n hx hb md_T_mayStand_39 rfl (lv_at hl 0 rfl) ?_
        refine va_get (D := (dC, dI)) (ci := 2) (v := .ref tL) (C := mR_T) (T := mT_T) (N := 4) hx hb hg gu_T hown hK hP 0 rfl rfl 0 (by decide) (hg _ wd_83) (fun _ h9 => h9) rfl md_T_mayStand_40 ?_
        refine lv_iload_n hx hb md_T_mayStand_43 rfl (lv_at hl 1 rfl) ?_
        refine va_cald hx hb hK hP 1 0 rfl rfl hrow md_T_mayStand_44 ?_
        refine lv_bipush (v := 99) hx hb md_T_mayStand_45 (by decide) ?_
        refine lv_icmp_ne (tgt := 72) hx hb md_T_mayStand_47 (by decide) (fun c10 => ?_) (fun c10 => ?_)
        · refine lv_iconst (v := 1) hx hb md_T_mayStand_72 (by decide) ?_
          exact pu_zret hx hb hr hlocks rfl md_T_mayStand_73 (by rw [fT_mayStand, if_pos c1, if_neg c6, if_neg c9, if_neg c10])
        · refine lv_iload_n hx hb md_T_mayStand_50 rfl (lv_at hl 2 rfl) ?_
          refine lv_iconst (v := 2) hx hb md_T_mayStand_51 (by decide) ?_
          refine lv_icmp_ne (tgt := 72) hx hb md_T_mayStand_52 (by decide) (fun c11 => ?_) (fun c11 => ?_)
          · refine lv_iconst (v := 1) hx hb md_T_mayStand_72 (by decide) ?_
            exact pu_zret hx hb hr hlocks rfl md_T_mayStand_73 (by rw [fT_mayStand, if_pos c1, if_neg c6, if_neg c9, if_pos c10, if_neg c11])
          · refine lv_iload_n hx hb md_T_mayStand_55 rfl (lv_at hl 3 rfl) ?_
            refine lv_iconst (v := 1) hx hb md_T_mayStand_56 (by decide) ?_
            refine lv_icmp_lt (tgt := 70) hx hb md_T_mayStand_57 (by decide) (fun c12 => ?_) (fun c12 => ?_)
            · refine lv_iconst (v := 0) hx hb md_T_mayStand_70 (by decide) ?_
              exact pu_zret hx hb hr hlocks rfl md_T_mayStand_71 (by rw [fT_mayStand, if_pos c1, if_neg c6, if_neg c9, if_pos c10, if_pos c11, if_pos c12])
            · refine lv_iload_n hx hb md_T_mayStand_60 rfl (lv_at hl 3 rfl) ?_
              refine lv_bipush (v := 9) hx hb md_T_mayStand_61 (by decide) ?_
              refine lv_icmp_gt (tgt := 70) hx hb md_T_mayStand_63 (by decide) (fun c13 => ?_) (fun c13 => ?_)
              · refine lv_iconst (v := 0) hx hb md_T_mayStand_70 (by decide) ?_
                exact pu_zret hx hb hr hlocks rfl md_T_mayStand_71 (by rw [fT_mayStand, if_pos c1, if_neg c6, if_neg c9, if_pos c10, if_pos c11, if_neg c12, if_pos c13])
              · refine lv_iconst (v := 1) hx hb md_T_mayStand_66 (by decide) ?_
                refine lv_goto (tgt := 71) hx hb md_T_mayStand_67 (by decide) ?_
                exact pu_zret hx hb hr hlocks rfl md_T_mayStand_71 (by rw [fT_mayStand, if_pos c1, if_neg c6, if_neg c9, if_pos c10, if_pos c11, if_neg c12, if_neg c13])
      · refine lv_iload_n hx hb md_T_mayStand_21 rfl (lv_at hl 3 rfl) ?_
        refine lv_aload_n hx hb md_T_mayStand_22 rfl (lv_at hl 0 rfl) ?_
        refine lv_iload_n hx hb md_T_mayStand_23 rfl (lv_at hl 1 rfl) ?_
        refine lv_iload_n hx hb md_T_mayStand_24 rfl (lv_at hl 2 rfl) ?_
        refine lv_iconst (v := 1) hx hb md_T_mayStand_25 (by decide) ?_
        refine lv_isub hx hb md_T_mayStand_26 ?_
        have hPc14 := hP.sub (ws' := [(tA, .inr (2, [.ref tL, .ref tN, .ref tS, .int tz])), (tL, .inl (cC, 16, .inl tl)), (tN, .inl (cI, 96, .inl tn)), (tS, .inl (cI, 16, .inl ts))]) [0, 1, 2, 3] rfl
        refine pu_i (W.runV (As := [.int row, .int (k - 1)]) (rest := [.int value]) ⟨hx, hb, hml, hown, hg⟩ (ct_T_number l dC dI cC cI cJ tA tL tN tS tl tn ts tz row (k - 1) (h1 (Or.inr c9))) (gw_cwV hg wd_162 mv_T_number rfl rfl ⟨Nat.le_of_ble_eq_true rfl, Nat.le_of_ble_eq_true rfl⟩) (pu_preV (ci := 2) (q0 := 0) pu_blT hK hPc14 pu_e1 rfl rfl) rfl rfl hl.1 rfl (lv_room (Nat.le_of_ble_eq_true rfl)) md_T_mayStand_27 ⟨Nat.zero_le _, Nat.zero_le _⟩) ?_
        refine lv_icmp_lt (tgt := 37) hx hb md_T_mayStand_30 (by decide) (fun c15 => ?_) (fun c15 => ?_)
        · refine lv_iconst (v := 0) hx hb md_T_mayStand_37 (by decide) ?_
          exact pu_zret hx hb hr hlocks rfl md_T_mayStand_38 (by rw [fT_mayStand, if_pos c1, if_neg c6, if_pos c9, if_pos c15])
        · refine lv_iconst (v := 1) hx hb md_T_mayStand_33 (by decide) ?_
          refine lv_goto (tgt := 38) hx hb md_T_mayStand_34 (by decide) ?_
          exact pu_zret hx hb hr hlocks rfl md_T_mayStand_38 (by rw [fT_mayStand, if_pos c1, if_neg c6, if_pos c9, if_neg c15])
