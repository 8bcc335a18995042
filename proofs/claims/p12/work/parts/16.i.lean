def in_Pc (D : va_G) (cl : List vw_C) (tys : List (ClassId × FieldType)) (ws : va_W) (Ex : State → Prop) (sz : Nat) (av : List Value) : Array Value → State → Prop := fun v U => v = av.toArray ∧ U.heap.size = sz ∧ va_P D cl ws U.heap ∧ va_K D cl tys U ∧ va_D (fun _ => True) ws ∧ Ex U
theorem in_preS {s : State} {H : Heap} {As : List Value} {D : va_G} {cl : List vw_C} {tys : List (ClassId × FieldType)} {wc : va_W} {A : Nat → Prop} {Ex : State → Prop} (hbl : pu_bl Ex) (hK : va_K D cl tys s) (hP : va_P D cl wc H) (hD : va_D A wc) (hE : ∀ U : State, U.heap = H → s.WarmedH U.vm → Ex U) : PreS s H (in_Pc D cl tys wc Ex H.size As) As := by
  refine ⟨?_, fun U hU hW => ⟨rfl, by rw [hU], by rw [hU]; exact hP, va_K.moved hW.alike hK, hD.weaken (fun _ _ _ _ => trivial), hE U hU hW⟩⟩
  intro a U g mk q
  obtain ⟨q0, qs, qP, qK, qD, qE⟩ := q
  exact ⟨q0, qs, qP, va_K.moved (u := U) (U := U.calling g mk a) (Vm.Alike.refl U.vm) qK, qD, hbl U (U.calling g mk a) rfl (State.WarmedH.refl U) qE⟩

theorem gw_obj : Cond.code objectInit ⟨#[0xb1]⟩ 1 none ∈ gw_l := gw_t 21 (by decide +kernel) rfl

set_option maxHeartbeats 600000 in
set_option maxRecDepth 100000 in
theorem ct_S_init (l : Launch) (dC : Nat → ClassId) (dI : Nat → Nat → Nat) (cC cI cJ : ClassId) (o0 : Nat) (sz : Nat) : Met l my_S_init (.code my_S_init mb_S_init 1 none :: gw_l) ({ frames := 1, cells := 1, slots := 300, locals := 40 }) (in_Pc (dC, dI) mC [(cC, .char), (cI, .int), (cJ, .long)] [(o0, .inr (3, [.null, .int 0]))] (fun _ => True) sz [.ref o0]) (va_Qv (fun (_ : Nat) => True) (fun u t => va_P (dC, dI) mC [(o0, .inr (3, [.ref u, .int 0])), (u, .inl (cC, 300, .inl (fun _ => 0)))] t.heap ∧ va_D (va_A [(o0, .inr (3, [.null, .int 0]))] sz) [(o0, .inr (3, [.ref u, .int 0])), (u, .inl (cC, 300, .inl (fun _ => 0)))]) (va_A [(o0, .inr (3, [.null, .int 0]))] sz)) 1 300 (va_A [(o0, .inr (3, [.null, .int 0]))] sz) := by
  refine Met.ofW (cc := mb_S_init) (maxL := 1) (ret := none) (by decide) rfl ?_
  intro p e s m args below meth c s₁ B hml hv
  obtain ⟨rfl, hsz, hP, hK, hD0, hE⟩ := hv
  have hx := B.exec
  have hb := B.bytes
  have hr := B.returns
  have hts := atoms_spec (ws := (.code my_S_init mb_S_init 1 none :: gw_l)) B.pre
  have hg : ∀ w ∈ gw_l, w.before _ s = true := fun w h => hts w (List.mem_cons_of_mem _ h)
  have hown : s.vm.findClass mR_S = some m.cls := findClass_of_methodNamed B.named
  have hlocks := B.notSynchronized
  have hin : meth.name = "<init>" := (name_of_methodNamed B.named B.method).1
  subst hsz
  have hD := hD0.self (sz := s.heap.size)
  have hS : va_S (va_A [(o0, .inr (3, [.null, .int 0]))] s.heap.size) s.heap s.heap [] := va_S.rf
  have hA : ∀ q : Nat, s.heap.size ≤ q → va_A [(o0, .inr (3, [.null, .int 0]))] s.heap.size q := fun q h => Or.inr h
  generalize hAe : va_A [(o0, .inr (3, [.null, .int 0]))] s.heap.size = A at hD hS hA ⊢
  have hl := lv_entry ([.ref o0]) (n := 1) (Nat.le_of_ble_eq_true rfl)
  rw [lg_entry_eq]
  generalize (lg_sl ([.ref o0]) ++ List.replicate (1 - (lg_sl ([.ref o0])).length) Slot.unset).toArray = ls at hl ⊢
  have hl : lv_has ls 1 [(0, .ref o0)] := hl
  refine lv_aload_n hx hb md_S_init_0 rfl (lv_at hl 0 rfl) ?_
  refine W.objInit hx hb hown (hg _ wd_27) (hg _ wd_20) (hg _ gw_obj) rfl (by rw [hml]; exact hl.1) rfl md_S_init_1 (Nat.le_of_ble_eq_true rfl) (Nat.le_of_ble_eq_true rfl) ?_
  refine W.eq (g2 := F0 m 4 ls []) rfl ?_
  refine lv_aload_n hx hb md_S_init_4 rfl (lv_at hl 0 rfl) ?_
  refine lv_sipush (v := 300) hx hb md_S_init_5 (by decide) ?_
  refine va_newa (D := (dC, dI)) (atype := .char) (ty := .char) (N' := 300) (a0 := (300, .inl (fun _ => 0))) hx hb (hg (.arrayClass .char) wd_35) rfl hK hP hD hS hA (fun _ => rfl) (by decide) (by decide) (by decide) (Nat.le_of_ble_eq_true rfl) (Nat.le_of_ble_eq_true rfl) md_S_init_8 (fun q8 cA H hK1 hP hD hS => ?_)
  have a9 : s.vm.findClass ("[" ++ FieldType.char.toString) = some cA := (hK1.2 3 _ rfl).2
  have b9 : s.vm.findClass ("[" ++ FieldType.char.toString) = some cC := (hK1.2 0 _ rfl).2
  have hcA : cA = cC := Option.some.inj (a9.symm.trans b9)
  rw [hcA] at hP hD
  have hP : va_P (dC, dI) mC [(o0, .inr (3, [.null, .int 0])), (q8, .inl (cC, 300, .inl (fun _ => 0)))] H := hP
  have hD : va_D A [(o0, .inr (3, [.null, .int 0])), (q8, .inl (cC, 300, .inl (fun _ => 0)))] := hD
  refine va_putF (D := (dC, dI)) (ci := 3) (v := .ref q8) (ty := (.array .char)) (C := mR_S) (T := mT_S) (N := 2) hx hb hg gu_S mF_S mO_S mN_S hown hK hP hD hS 0 rfl rfl 0 (by decide) (hg _ wd_28) (fun _ h9 => h9) rfl hin rfl (by decide +kernel) rfl rfl (Nat.le_of_ble_eq_true rfl) md_S_init_10 (fun H locs hP hD hS => ?_)
  have hP : va_P (dC, dI) mC [(o0, .inr (3, [.ref q8, .int 0])), (q8, .inl (cC, 300, .inl (fun _ => 0)))] H := hP
  have hD : va_D A [(o0, .inr (3, [.ref q8, .int 0])), (q8, .inl (cC, 300, .inl (fun _ => 0)))] := hD
  exact W.vret hx hb hr (fun t ht hW => ⟨⟨(q8), rfl, trivial, by have h9 := hP; rw [← ht] at h9; exact h9, hD⟩, hS.F ht⟩) hS.2.2 md_S_init_13 hlocks

set_option maxHeartbeats 600000 in
set_option maxRecDepth 100000 in
theorem ct_D_init (l : Launch) (dC : Nat → ClassId) (dI : Nat → Nat → Nat) (cC cI cJ : ClassId) (o0 : Nat) (sz : Nat) : Met l my_D_init (.code my_D_init mb_D_init 1 none :: gw_l) ({ frames := 1, cells := 0, slots := 0, locals := 40 }) (in_Pc (dC, dI) mC [(cC, .char), (cI, .int), (cJ, .long)] [(o0, .inr (0, [.long 0, .long 0, .long 0, .long 0]))] (fun _ => True) sz [.ref o0]) (va_Qv (fun (_ : Unit) => True) (fun u t => va_P (dC, dI) mC [(o0, .inr (0, [.long 400, .long 700, .long 19, .long 700]))] t.heap ∧ va_D (va_A [(o0, .inr (0, [.long 0, .long 0, .long 0, .long 0]))] sz) [(o0, .inr (0, [.long 400, .long 700, .long 19, .long 700]))]) (va_A [(o0, .inr (0, [.long 0, .long 0, .long 0, .long 0]))] sz)) 0 0 (va_A [(o0, .inr (0, [.long 0, .long 0, .long 0, .long 0]))] sz) := by
  refine Met.ofW (cc := mb_D_init) (maxL := 1) (ret := none) (by decide) rfl ?_
  intro p e s m args below meth c s₁ B hml hv
  obtain ⟨rfl, hsz, hP, hK, hD0, hE⟩ := hv
  have hx := B.exec
  have hb := B.bytes
  have hr := B.returns
  have hts := atoms_spec (ws := (.code my_D_init mb_D_init 1 none :: gw_l)) B.pre
  have hg : ∀ w ∈ gw_l, w.before _ s = true := fun w h => hts w (List.mem_cons_of_mem _ h)
  have hown : s.vm.findClass mR_D = some m.cls := findClass_of_methodNamed B.named
  have hlocks := B.notSynchronized
  have hin : meth.name = "<init>" := (name_of_methodNamed B.named B.method).1
  subst hsz
  have hD := hD0.self (sz := s.heap.size)
  have hS : va_S (va_A [(o0, .inr (0, [.long 0, .long 0, .long 0, .long 0]))] s.heap.size) s.heap s.heap [] := va_S.rf
  have hA : ∀ q : Nat, s.heap.size ≤ q → va_A [(o0, .inr (0, [.long 0, .long 0, .long 0, .long 0]))] s.heap.size q := fun q h => Or.inr h
  generalize hAe : va_A [(o0, .inr (0, [.long 0, .long 0, .long 0, .long 0]))] s.heap.size = A at hD hS hA ⊢
  have hl := lv_entry ([.ref o0]) (n := 1) (Nat.le_of_ble_eq_true rfl)
  rw [lg_entry_eq]
  generalize (lg_sl ([.ref o0]) ++ List.replicate (1 - (lg_sl ([.ref o0])).length) Slot.unset).toArray = ls at hl ⊢
  have hl : lv_has ls 1 [(0, .ref o0)] := hl
  refine lv_aload_n hx hb md_D_init_0 rfl (lv_at hl 0 rfl) ?_
  refine W.objInit hx hb hown (hg _ wd_41) (hg _ wd_20) (hg _ gw_obj) rfl (by rw [hml]; exact hl.1) rfl md_D_init_1 (Nat.le_of_ble_eq_true rfl) (Nat.le_of_ble_eq_true rfl) ?_
  refine W.eq (g2 := F0 m 4 ls []) rfl ?_
  refine lv_aload_n hx hb md_D_init_4 rfl (lv_at hl 0 rfl) ?_
  refine lv_ldc2 hx hb hown (hg _ wd_42) md_D_init_5 ?_
  refine va_put (D := (dC, dI)) (ci := 0) (v := .long 400) (ty := .long) (C := mR_D) (T := mT_D) (N := 4) hx hb hg gu_D mF_D mO_D mN_D hown hK hP hD hS 0 rfl rfl 0 (by decide) (hg _ wd_45) (fun _ h9 => h9) rfl (by decide +kernel) rfl rfl (Nat.le_of_ble_eq_true rfl) md_D_init_8 (fun H locs hP hD hS => ?_)
  have hP : va_P (dC, dI) mC [(o0, .inr (0, [.long 400, .long 0, .long 0, .long 0]))] H := hP
  have hD : va_D A [(o0, .inr (0, [.long 400, .long 0, .long 0, .long 0]))] := hD
  refine lv_aload_n hx hb md_D_init_11 rfl (lv_at hl 0 rfl) ?_
  refine lv_ldc2 hx hb hown (hg _ wd_43) md_D_init_12 ?_
  refine va_put (D := (dC, dI)) (ci := 0) (v := .long 700) (ty := .long) (C := mR_D) (T := mT_D) (N := 4) hx hb hg gu_D mF_D mO_D mN_D hown hK hP hD hS 0 rfl rfl 1 (by decide) (hg _ wd_46) (fun _ h9 => h9) rfl (by decide +kernel) rfl rfl (Nat.le_of_ble_eq_true rfl) md_D_init_15 (fun H locs hP hD hS => ?_)
  have hP : va_P (dC, dI) mC [(o0, .inr (0, [.long 400, .long 700, .long 0, .long 0]))] H := hP
  have hD : va_D A [(o0, .inr (0, [.long 400, .long 700, .long 0, .long 0]))] := hD
  refine lv_aload_n hx hb md_D_init_18 rfl (lv_at hl 0 rfl) ?_
  refine lv_ldc2 hx hb hown (hg _ wd_44) md_D_init_19 ?_
  refine va_put (D := (dC, dI)) (ci := 0) (v := .long 19) (ty := .long) (C := mR_D) (T := mT_D) (N := 4) hx hb hg gu_D mF_D mO_D mN_D hown hK hP hD hS 0 rfl rfl 2 (by decide) (hg _ wd_49) (fun _ h9 => h9) rfl (by decide +kernel) rfl rfl (Nat.le_of_ble_eq_true rfl) md_D_init_22 (fun H locs hP hD hS => ?_)
  have hP : va_P (dC, dI) mC [(o0, .inr (0, [.long 400, .long 700, .long 19, .long 0]))] H := hP
  have hD : va_D A [(o0, .inr (0, [.long 400, .long 700, .long 19, .long 0]))] := hD
  refine lv_aload_n hx hb md_D_init_25 rfl (lv_at hl 0 rfl) ?_
  refine lv_ldc2 hx hb hown (hg _ wd_43) md_D_init_26 ?_
  refine va_put (D := (dC, dI)) (ci := 0) (v := .long 700) (ty := .long) (C := mR_D) (T := mT_D) (N := 4) hx hb hg gu_D mF_D mO_D mN_D hown hK hP hD hS 0 rfl rfl 3 (by decide) (hg _ wd_50) (fun _ h9 => h9) rfl (by decide +kernel) rfl rfl (Nat.le_of_ble_eq_true rfl) md_D_init_29 (fun H locs hP hD hS => ?_)
  have hP : va_P (dC, dI) mC [(o0, .inr (0, [.long 400, .long 700, .long 19, .long 700]))] H := hP
  have hD : va_D A [(o0, .inr (0, [.long 400, .long 700, .long 19, .long 700]))] := hD
  exact W.vret hx hb hr (fun t ht hW => ⟨⟨(), rfl, trivial, by have h9 := hP; rw [← ht] at h9; exact h9, hD⟩, hS.F ht⟩) hS.2.2 md_D_init_32 hlocks

set_option maxHeartbeats 600000 in
set_option maxRecDepth 100000 in
theorem ct_H_init (l : Launch) (dC : Nat → ClassId) (dI : Nat → Nat → Nat) (cC cI cJ : ClassId) (o0 : Nat) (sz : Nat) : Met l my_H_init (.code my_H_init mb_H_init 1 none :: gw_l) ({ frames := 1, cells := 3, slots := 48, locals := 40 }) (in_Pc (dC, dI) mC [(cC, .char), (cI, .int), (cJ, .long)] [(o0, .inr (1, [.null, .null, .null]))] (fun _ => True) sz [.ref o0]) (va_Qv (fun (_ : Nat × Nat × Nat) => True) (fun u t => va_P (dC, dI) mC [(o0, .inr (1, [.ref u.1, .ref u.2.1, .ref u.2.2])), (u.1, .inl (cI, 16, .inl (fun _ => 0))), (u.2.1, .inl (cI, 16, .inl (fun _ => 0))), (u.2.2, .inl (cI, 16, .inl (fun _ => 0)))] t.heap ∧ va_D (va_A [(o0, .inr (1, [.null, .null, .null]))] sz) [(o0, .inr (1, [.ref u.1, .ref u.2.1, .ref u.2.2])), (u.1, .inl (cI, 16, .inl (fun _ => 0))), (u.2.1, .inl (cI, 16, .inl (fun _ => 0))), (u.2.2, .inl (cI, 16, .inl (fun _ => 0)))]) (va_A [(o0, .inr (1, [.null, .null, .null]))] sz)) 3 48 (va_A [(o0, .inr (1, [.null, .null, .null]))] sz) := by
  refine Met.ofW (cc := mb_H_init) (maxL := 1) (ret := none) (by decide) rfl ?_
  intro p e s m args below meth c s₁ B hml hv
  obtain ⟨rfl, hsz, hP, hK, hD0, hE⟩ := hv
  have hx := B.exec
  have hb := B.bytes
  have hr := B.returns
  have hts := atoms_spec (ws := (.code my_H_init mb_H_init 1 none :: gw_l)) B.pre
  have hg : ∀ w ∈ gw_l, w.before _ s = true := fun w h => hts w (List.mem_cons_of_mem _ h)
  have hown : s.vm.findClass mR_H = some m.cls := findClass_of_methodNamed B.named
  have hlocks := B.notSynchronized
  have hin : meth.name = "<init>" := (name_of_methodNamed B.named B.method).1
  subst hsz
  have hD := hD0.self (sz := s.heap.size)
  have hS : va_S (va_A [(o0, .inr (1, [.null, .null, .null]))] s.heap.size) s.heap s.heap [] := va_S.rf
  have hA : ∀ q : Nat, s.heap.size ≤ q → va_A [(o0, .inr (1, [.null, .null, .null]))] s.heap.size q := fun q h => Or.inr h
  generalize hAe : va_A [(o0, .inr (1, [.null, .null, .null]))] s.heap.size = A at hD hS hA ⊢
  have hl := lv_entry ([.ref o0]) (n := 1) (Nat.le_of_ble_eq_true rfl)
  rw [lg_entry_eq]
  generalize (lg_sl ([.ref o0]) ++ List.replicate (1 - (lg_sl ([.ref o0])).length) Slot.unset).toArray = ls at hl ⊢
  have hl : lv_has ls 1 [(0, .ref o0)] := hl
  refine lv_aload_n hx hb md_H_init_0 rfl (lv_at hl 0 rfl) ?_
  refine W.objInit hx hb hown (hg _ wd_65) (hg _ wd_20) (hg _ gw_obj) rfl (by rw [hml]; exact hl.1) rfl md_H_init_1 (Nat.le_of_ble_eq_true rfl) (Nat.le_of_ble_eq_true rfl) ?_
  refine W.eq (g2 := F0 m 4 ls []) rfl ?_
  refine lv_aload_n hx hb md_H_init_4 rfl (lv_at hl 0 rfl) ?_
  refine lv_bipush (v := 16) hx hb md_H_init_5 (by decide) ?_
  refine va_newa (D := (dC, dI)) (atype := .int) (ty := .int) (N' := 16) (a0 := (16, .inl (fun _ => 0))) hx hb (hg (.arrayClass .int) wd_76) rfl hK hP hD hS hA (fun _ => rfl) (by decide) (by decide) (by decide) (Nat.le_of_ble_eq_true rfl) (Nat.le_of_ble_eq_true rfl) md_H_init_7 (fun q7 cA H hK1 hP hD hS => ?_)
  have a9 : s.vm.findClass ("[" ++ FieldType.int.toString) = some cA := (hK1.2 3 _ rfl).2
  have b9 : s.vm.findClass ("[" ++ FieldType.int.toString) = some cI := (hK1.2 1 _ rfl).2
  have hcA : cA = cI := Option.some.inj (a9.symm.trans b9)
  rw [hcA] at hP hD
  have hP : va_P (dC, dI) mC [(o0, .inr (1, [.null, .null, .null])), (q7, .inl (cI, 16, .inl (fun _ => 0)))] H := hP
  have hD : va_D A [(o0, .inr (1, [.null, .null, .null])), (q7, .inl (cI, 16, .inl (fun _ => 0)))] := hD
  refine va_putF (D := (dC, dI)) (ci := 1) (v := .ref q7) (ty := (.array .int)) (C := mR_H) (T := mT_H) (N := 3) hx hb hg gu_H mF_H mO_H mN_H hown hK hP hD hS 0 rfl rfl 0 (by decide) (hg _ wd_66) (fun _ h9 => h9) rfl hin rfl (by decide +kernel) rfl rfl (Nat.le_of_ble_eq_true rfl) md_H_init_9 (fun H locs hP hD hS => ?_)
  have hP : va_P (dC, dI) mC [(o0, .inr (1, [.ref q7, .null, .null])), (q7, .inl (cI, 16, .inl (fun _ => 0)))] H := hP
  have hD : va_D A [(o0, .inr (1, [.ref q7, .null, .null])), (q7, .inl (cI, 16, .inl (fun _ => 0)))] := hD
  refine lv_aload_n hx hb md_H_init_12 rfl (lv_at hl 0 rfl) ?_
  refine lv_bipush (v := 16) hx hb md_H_init_13 (by decide) ?_
  refine va_newa (D := (dC, dI)) (atype := .int) (ty := .int) (N' := 16) (a0 := (16, .inl (fun _ => 0))) hx hb (hg (.arrayClass .int) wd_76) rfl hK hP hD hS hA (fun _ => rfl) (by decide) (by decide) (by decide) (Nat.le_of_ble_eq_true rfl) (Nat.le_of_ble_eq_true rfl) md_H_init_15 (fun q15 cA H hK1 hP hD hS => ?_)
  have a9 : s.vm.findClass ("[" ++ FieldType.int.toString) = some cA := (hK1.2 3 _ rfl).2
  have b9 : s.vm.findClass ("[" ++ FieldType.int.toString) = some cI := (hK1.2 1 _ rfl).2
  have hcA : cA = cI := Option.some.inj (a9.symm.trans b9)
  rw [hcA] at hP hD
  have hP : va_P (dC, dI) mC [(o0, .inr (1, [.ref q7, .null, .null])), (q7, .inl (cI, 16, .inl (fun _ => 0))), (q15, .inl (cI, 16, .inl (fun _ => 0)))] H := hP
  have hD : va_D A [(o0, .inr (1, [.ref q7, .null, .null])), (q7, .inl (cI, 16, .inl (fun _ => 0))), (q15, .inl (cI, 16, .inl (fun _ => 0)))] := hD
  refine va_putF (D := (dC, dI)) (ci := 1) (v := .ref q15) (ty := (.array .int)) (C := mR_H) (T := mT_H) (N := 3) hx hb hg gu_H mF_H mO_H mN_H hown hK hP hD hS 0 rfl rfl 1 (by decide) (hg _ wd_67) (fun _ h9 => h9) rfl hin rfl (by decide +kernel) rfl rfl (Nat.le_of_ble_eq_true rfl) md_H_init_17 (fun H locs hP hD hS => ?_)
  have hP : va_P (dC, dI) mC [(o0, .inr (1, [.ref q7, .ref q15, .null])), (q7, .inl (cI, 16, .inl (fun _ => 0))), (q15, .inl (cI, 16, .inl (fun _ => 0)))] H := hP
  have hD : va_D A [(o0, .inr (1, [.ref q7, .ref q15, .null])), (q7, .inl (cI, 16, .inl (fun _ => 0))), (q15, .inl (cI, 16, .inl (fun _ => 0)))] := hD
  refine lv_aload_n hx hb md_H_init_20 rfl (lv_at hl 0 rfl) ?_
  refine lv_bipush (v := 16) hx hb md_H_init_21 (by decide) ?_
  refine va_newa (D := (dC, dI)) (atype := .int) (ty := .int) (N' := 16) (a0 := (16, .inl (fun _ => 0))) hx hb (hg (.arrayClass .int) wd_76) rfl hK hP hD hS hA (fun _ => rfl) (by decide) (by decide) (by decide) (Nat.le_of_ble_eq_true rfl) (Nat.le_of_ble_eq_true rfl) md_H_init_23 (fun q23 cA H hK1 hP hD hS => ?_)
  have a9 : s.vm.findClass ("[" ++ FieldType.int.toString) = some cA := (hK1.2 3 _ rfl).2
  have b9 : s.vm.findClass ("[" ++ FieldType.int.toString) = some cI := (hK1.2 1 _ rfl).2
  have hcA : cA = cI := Option.some.inj (a9.symm.trans b9)
  rw [hcA] at hP hD
  have hP : va_P (dC, dI) mC [(o0, .inr (1, [.ref q7, .ref q15, .null])), (q7, .inl (cI, 16, .inl (fun _ => 0))), (q15, .inl (cI, 16, .inl (fun _ => 0))), (q23, .inl (cI, 16, .inl (fun _ => 0)))] H := hP
  have hD : va_D A [(o0, .inr (1, [.ref q7, .ref q15, .null])), (q7, .inl (cI, 16, .inl (fun _ => 0))), (q15, .inl (cI, 16, .inl (fun _ => 0))), (q23, .inl (cI, 16, .inl (fun _ => 0)))] := hD
  refine va_putF (D := (dC, dI)) (ci := 1) (v := .ref q23) (ty := (.array .int)) (C := mR_H) (T := mT_H) (N := 3) hx hb hg gu_H mF_H mO_H mN_H hown hK hP hD hS 0 rfl rfl 2 (by decide) (hg _ wd_68) (fun _ h9 => h9) rfl hin rfl (by decide +kernel) rfl rfl (Nat.le_of_ble_eq_true rfl) md_H_init_25 (fun H locs hP hD hS => ?_)
  have hP : va_P (dC, dI) mC [(o0, .inr (1, [.ref q7, .ref q15, .ref q23])), (q7, .inl (cI, 16, .inl (fun _ => 0))), (q15, .inl (cI, 16, .inl (fun _ => 0))), (q23, .inl (cI, 16, .inl (fun _ => 0)))] H := hP
  have hD : va_D A [(o0, .inr (1, [.ref q7, .ref q15, .ref q23])), (q7, .inl (cI, 16, .inl (fun _ => 0))), (q15, .inl (cI, 16, .inl (fun _ => 0))), (q23, .inl (cI, 16, .inl (fun _ => 0)))] := hD
  exact W.vret hx hb hr (fun t ht hW => ⟨⟨(q7, q15, q23), rfl, trivial, by have h9 := hP; rw [← ht] at h9; exact h9, hD⟩, hS.F ht⟩) hS.2.2 md_H_init_28 hlocks

set_option maxHeartbeats 600000 in
set_option maxRecDepth 100000 in
theorem ct_T_init (l : Launch) (dC : Nat → ClassId) (dI : Nat → Nat → Nat) (cC cI cJ : ClassId) (o0 : Nat) (sz : Nat) : Met l my_T_init (.code my_T_init mb_T_init 1 none :: gw_l) ({ frames := 1, cells := 3, slots := 128, locals := 40 }) (in_Pc (dC, dI) mC [(cC, .char), (cI, .int), (cJ, .long)] [(o0, .inr (2, [.null, .null, .null, .int 0]))] (fun _ => True) sz [.ref o0]) (va_Qv (fun (_ : Nat × Nat × Nat) => True) (fun u t => va_P (dC, dI) mC [(o0, .inr (2, [.ref u.1, .ref u.2.1, .ref u.2.2, .int 0])), (u.1, .inl (cC, 16, .inl (fun _ => 0))), (u.2.1, .inl (cI, 96, .inl (fun _ => 0))), (u.2.2, .inl (cI, 16, .inl (fun _ => 0)))] t.heap ∧ va_D (va_A [(o0, .inr (2, [.null, .null, .null, .int 0]))] sz) [(o0, .inr (2, [.ref u.1, .ref u.2.1, .ref u.2.2, .int 0])), (u.1, .inl (cC, 16, .inl (fun _ => 0))), (u.2.1, .inl (cI, 96, .inl (fun _ => 0))), (u.2.2, .inl (cI, 16, .inl (fun _ => 0)))]) (va_A [(o0, .inr (2, [.null, .null, .null, .int 0]))] sz)) 3 128 (va_A [(o0, .inr (2, [.null, .null, .null, .int 0]))] sz) := by
  refine Met.ofW (cc := mb_T_init) (maxL := 1) (ret := none) (by decide) rfl ?_
  intro p e s m args below meth c s₁ B hml hv
  obtain ⟨rfl, hsz, hP, hK, hD0, hE⟩ := hv
  have hx := B.exec
  have hb := B.bytes
  have hr := B.returns
  have hts := atoms_spec (ws := (.code my_T_init mb_T_init 1 none :: gw_l)) B.pre
  have hg : ∀ w ∈ gw_l, w.before _ s = true := fun w h => hts w (List.mem_cons_of_mem _ h)
  have hown : s.vm.findClass mR_T = some m.cls := findClass_of_methodNamed B.named
  have hlocks := B.notSynchronized
  have hin : meth.name = "<init>" := (name_of_methodNamed B.named B.method).1
  subst hsz
  have hD := hD0.self (sz := s.heap.size)
  have hS : va_S (va_A [(o0, .inr (2, [.null, .null, .null, .int 0]))] s.heap.size) s.heap s.heap [] := va_S.rf
  have hA : ∀ q : Nat, s.heap.size ≤ q → va_A [(o0, .inr (2, [.null, .null, .null, .int 0]))] s.heap.size q := fun q h => Or.inr h
  generalize hAe : va_A [(o0, .inr (2, [.null, .null, .null, .int 0]))] s.heap.size = A at hD hS hA ⊢
  have hl := lv_entry ([.ref o0]) (n := 1) (Nat.le_of_ble_eq_true rfl)
  rw [lg_entry_eq]
  generalize (lg_sl ([.ref o0]) ++ List.replicate (1 - (lg_sl ([.ref o0])).length) Slot.unset).toArray = ls at hl ⊢
  have hl : lv_has ls 1 [(0, .ref o0)] := hl
  refine lv_aload_n hx hb md_T_init_0 rfl (lv_at hl 0 rfl) ?_
  refine W.objInit hx hb hown (hg _ wd_82) (hg _ wd_20) (hg _ gw_obj) rfl (by rw [hml]; exact hl.1) rfl md_T_init_1 (Nat.le_of_ble_eq_true rfl) (Nat.le_of_ble_eq_true rfl) ?_
  refine W.eq (g2 := F0 m 4 ls []) rfl ?_
  refine lv_aload_n hx hb md_T_init_4 rfl (lv_at hl 0 rfl) ?_
  refine lv_bipush (v := 16) hx hb md_T_init_5 (by decide) ?_
  refine va_newa (D := (dC, dI)) (atype := .char) (ty := .char) (N' := 16) (a0 := (16, .inl (fun _ => 0))) hx hb (hg (.arrayClass .char) wd_35) rfl hK hP hD hS hA (fun _ => rfl) (by decide) (by decide) (by decide) (Nat.le_of_ble_eq_true rfl) (Nat.le_of_ble_eq_true rfl) md_T_init_7 (fun q7 cA H hK1 hP hD hS => ?_)
  have a9 : s.vm.findClass ("[" ++ FieldType.char.toString) = some cA := (hK1.2 3 _ rfl).2
  have b9 : s.vm.findClass ("[" ++ FieldType.char.toString) = some cC := (hK1.2 0 _ rfl).2
  have hcA : cA = cC := Option.some.inj (a9.symm.trans b9)
  rw [hcA] at hP hD
  have hP : va_P (dC, dI) mC [(o0, .inr (2, [.null, .null, .null, .int 0])), (q7, .inl (cC, 16, .inl (fun _ => 0)))] H := hP
  have hD : va_D A [(o0, .inr (2, [.null, .null, .null, .int 0])), (q7, .inl (cC, 16, .inl (fun _ => 0)))] := hD
  refine va_putF (D := (dC, dI)) (ci := 2) (v := .ref q7) (ty := (.array .char)) (C := mR_T) (T := mT_T) (N := 4) hx hb hg gu_T mF_T mO_T mN_T hown hK hP hD hS 0 rfl rfl 0 (by decide) (hg _ wd_83) (fun _ h9 => h9) rfl hin rfl (by decide +kernel) rfl rfl (Nat.le_of_ble_eq_true rfl) md_T_init_9 (fun H locs hP hD hS => ?_)
  have hP : va_P (dC, dI) mC [(o0, .inr (2, [.ref q7, .null, .null, .int 0])), (q7, .inl (cC, 16, .inl (fun _ => 0)))] H := hP
  have hD : va_D A [(o0, .inr (2, [.ref q7, .null, .null, .int 0])), (q7, .inl (cC, 16, .inl (fun _ => 0)))] := hD
  refine lv_aload_n hx hb md_T_init_12 rfl (lv_at hl 0 rfl) ?_
  refine lv_bipush (v := 96) hx hb md_T_init_13 (by decide) ?_
  refine va_newa (D := (dC, dI)) (atype := .int) (ty := .int) (N' := 96) (a0 := (96, .inl (fun _ => 0))) hx hb (hg (.arrayClass .int) wd_76) rfl hK hP hD hS hA (fun _ => rfl) (by decide) (by decide) (by decide) (Nat.le_of_ble_eq_true rfl) (Nat.le_of_ble_eq_true rfl) md_T_init_15 (fun q15 cA H hK1 hP hD hS => ?_)
  have a9 : s.vm.findClass ("[" ++ FieldType.int.toString) = some cA := (hK1.2 3 _ rfl).2
  have b9 : s.vm.findClass ("[" ++ FieldType.int.toString) = some cI := (hK1.2 1 _ rfl).2
  have hcA : cA = cI := Option.some.inj (a9.symm.trans b9)
  rw [hcA] at hP hD
  have hP : va_P (dC, dI) mC [(o0, .inr (2, [.ref q7, .null, .null, .int 0])), (q7, .inl (cC, 16, .inl (fun _ => 0))), (q15, .inl (cI, 96, .inl (fun _ => 0)))] H := hP
  have hD : va_D A [(o0, .inr (2, [.ref q7, .null, .null, .int 0])), (q7, .inl (cC, 16, .inl (fun _ => 0))), (q15, .inl (cI, 96, .inl (fun _ => 0)))] := hD
  refine va_putF (D := (dC, dI)) (ci := 2) (v := .ref q15) (ty := (.array .int)) (C := mR_T) (T := mT_T) (N := 4) hx hb hg gu_T mF_T mO_T mN_T hown hK hP hD hS 0 rfl rfl 1 (by decide) (hg _ wd_84) (fun _ h9 => h9) rfl hin rfl (by decide +kernel) rfl rfl (Nat.le_of_ble_eq_true rfl) md_T_init_17 (fun H locs hP hD hS => ?_)
  have hP : va_P (dC, dI) mC [(o0, .inr (2, [.ref q7, .ref q15, .null, .int 0])), (q7, .inl (cC, 16, .inl (fun _ => 0))), (q15, .inl (cI, 96, .inl (fun _ => 0)))] H := hP
  have hD : va_D A [(o0, .inr (2, [.ref q7, .ref q15, .null, .int 0])), (q7, .inl (cC, 16, .inl (fun _ => 0))), (q15, .inl (cI, 96, .inl (fun _ => 0)))] := hD
  refine lv_aload_n hx hb md_T_init_20 rfl (lv_at hl 0 rfl) ?_
  refine lv_bipush (v := 16) hx hb md_T_init_21 (by decide) ?_
  refine va_newa (D := (dC, dI)) (atype := .int) (ty := .int) (N' := 16) (a0 := (16, .inl (fun _ => 0))) hx hb (hg (.arrayClass .int) wd_76) rfl hK hP hD hS hA (fun _ => rfl) (by decide) (by decide) (by decide) (Nat.le_of_ble_eq_true rfl) (Nat.le_of_ble_eq_true rfl) md_T_init_23 (fun q23 cA H hK1 hP hD hS => ?_)
  have a9 : s.vm.findClass ("[" ++ FieldType.int.toString) = some cA := (hK1.2 3 _ rfl).2
  have b9 : s.vm.findClass ("[" ++ FieldType.int.toString) = some cI := (hK1.2 1 _ rfl).2
  have hcA : cA = cI := Option.some.inj (a9.symm.trans b9)
  rw [hcA] at hP hD
  have hP : va_P (dC, dI) mC [(o0, .inr (2, [.ref q7, .ref q15, .null, .int 0])), (q7, .inl (cC, 16, .inl (fun _ => 0))), (q15, .inl (cI, 96, .inl (fun _ => 0))), (q23, .inl (cI, 16, .inl (fun _ => 0)))] H := hP
  have hD : va_D A [(o0, .inr (2, [.ref q7, .ref q15, .null, .int 0])), (q7, .inl (cC, 16, .inl (fun _ => 0))), (q15, .inl (cI, 96, .inl (fun _ => 0))), (q23, .inl (cI, 16, .inl (fun _ => 0)))] := hD
  refine va_putF (D := (dC, dI)) (ci := 2) (v := .ref q23) (ty := (.array .int)) (C := mR_T) (T := mT_T) (N := 4) hx hb hg gu_T mF_T mO_T mN_T hown hK hP hD hS 0 rfl rfl 2 (by decide) (hg _ wd_85) (fun _ h9 => h9) rfl hin rfl (by decide +kernel) rfl rfl (Nat.le_of_ble_eq_true rfl) md_T_init_25 (fun H locs hP hD hS => ?_)
  have hP : va_P (dC, dI) mC [(o0, .inr (2, [.ref q7, .ref q15, .ref q23, .int 0])), (q7, .inl (cC, 16, .inl (fun _ => 0))), (q15, .inl (cI, 96, .inl (fun _ => 0))), (q23, .inl (cI, 16, .inl (fun _ => 0)))] H := hP
  have hD : va_D A [(o0, .inr (2, [.ref q7, .ref q15, .ref q23, .int 0])), (q7, .inl (cC, 16, .inl (fun _ => 0))), (q15, .inl (cI, 96, .inl (fun _ => 0))), (q23, .inl (cI, 16, .inl (fun _ => 0)))] := hD
  exact W.vret hx hb hr (fun t ht hW => ⟨⟨(q7, q15, q23), rfl, trivial, by have h9 := hP; rw [← ht] at h9; exact h9, hD⟩, hS.F ht⟩) hS.2.2 md_T_init_28 hlocks

set_option maxHeartbeats 600000 in
set_option maxRecDepth 100000 in
theorem ct_K_init (l : Launch) (dC : Nat → ClassId) (dI : Nat → Nat → Nat) (cC cI cJ : ClassId) (o0 : Nat) (sz : Nat) : Met l my_K_init (.code my_K_init mb_K_init 1 none :: gw_l) ({ frames := 2, cells := 15, slots := 621, locals := 60 }) (in_Pc (dC, dI) mC [(cC, .char), (cI, .int), (cJ, .long)] [(o0, .inr (4, [.null, .null, .null, .null, .null]))] nw_all sz [.ref o0]) (va_Qv (fun (_ : Nat × Nat × Nat × Nat × Nat × Nat × Nat × Nat × Nat × Nat × Nat × Nat × Nat × Nat × Nat) => True) (fun u t => va_P (dC, dI) mC [(o0, .inr (4, [.ref u.1, .ref u.2.2.1, .ref u.2.2.2.1, .ref u.2.2.2.2.2.2.2.1, .ref u.2.2.2.2.2.2.2.2.2.2.2.1])), (u.1, .inr (3, [.ref u.2.1, .int 0])), (u.2.1, .inl (cC, 300, .inl (fun _ => 0))), (u.2.2.1, .inr (0, [.long 400, .long 700, .long 19, .long 700])), (u.2.2.2.1, .inr (1, [.ref u.2.2.2.2.1, .ref u.2.2.2.2.2.1, .ref u.2.2.2.2.2.2.1])), (u.2.2.2.2.1, .inl (cI, 16, .inl (fun _ => 0))), (u.2.2.2.2.2.1, .inl (cI, 16, .inl (fun _ => 0))), (u.2.2.2.2.2.2.1, .inl (cI, 16, .inl (fun _ => 0))), (u.2.2.2.2.2.2.2.1, .inr (2, [.ref u.2.2.2.2.2.2.2.2.1, .ref u.2.2.2.2.2.2.2.2.2.1, .ref u.2.2.2.2.2.2.2.2.2.2.1, .int 0])), (u.2.2.2.2.2.2.2.2.1, .inl (cC, 16, .inl (fun _ => 0))), (u.2.2.2.2.2.2.2.2.2.1, .inl (cI, 96, .inl (fun _ => 0))), (u.2.2.2.2.2.2.2.2.2.2.1, .inl (cI, 16, .inl (fun _ => 0))), (u.2.2.2.2.2.2.2.2.2.2.2.1, .inr (2, [.ref u.2.2.2.2.2.2.2.2.2.2.2.2.1, .ref u.2.2.2.2.2.2.2.2.2.2.2.2.2.1, .ref u.2.2.2.2.2.2.2.2.2.2.2.2.2.2, .int 0])), (u.2.2.2.2.2.2.2.2.2.2.2.2.1, .inl (cC, 16, .inl (fun _ => 0))), (u.2.2.2.2.2.2.2.2.2.2.2.2.2.1, .inl (cI, 96, .inl (fun _ => 0))), (u.2.2.2.2.2.2.2.2.2.2.2.2.2.2, .inl (cI, 16, .inl (fun _ => 0)))] t.heap ∧ va_D (va_A [(o0, .inr (4, [.null, .null, .null, .null, .null]))] sz) [(o0, .inr (4, [.ref u.1, .ref u.2.2.1, .ref u.2.2.2.1, .ref u.2.2.2.2.2.2.2.1, .ref u.2.2.2.2.2.2.2.2.2.2.2.1])), (u.1, .inr (3, [.ref u.2.1, .int 0])), (u.2.1, .inl (cC, 300, .inl (fun _ => 0))), (u.2.2.1, .inr (0, [.long 400, .long 700, .long 19, .long 700])), (u.2.2.2.1, .inr (1, [.ref u.2.2.2.2.1, .ref u.2.2.2.2.2.1, .ref u.2.2.2.2.2.2.1])), (u.2.2.2.2.1, .inl (cI, 16, .inl (fun _ => 0))), (u.2.2.2.2.2.1, .inl (cI, 16, .inl (fun _ => 0))), (u.2.2.2.2.2.2.1, .inl (cI, 16, .inl (fun _ => 0))), (u.2.2.2.2.2.2.2.1, .inr (2, [.ref u.2.2.2.2.2.2.2.2.1, .ref u.2.2.2.2.2.2.2.2.2.1, .ref u.2.2.2.2.2.2.2.2.2.2.1, .int 0])), (u.2.2.2.2.2.2.2.2.1, .inl (cC, 16, .inl (fun _ => 0))), (u.2.2.2.2.2.2.2.2.2.1, .inl (cI, 96, .inl (fun _ => 0))), (u.2.2.2.2.2.2.2.2.2.2.1, .inl (cI, 16, .inl (fun _ => 0))), (u.2.2.2.2.2.2.2.2.2.2.2.1, .inr (2, [.ref u.2.2.2.2.2.2.2.2.2.2.2.2.1, .ref u.2.2.2.2.2.2.2.2.2.2.2.2.2.1, .ref u.2.2.2.2.2.2.2.2.2.2.2.2.2.2, .int 0])), (u.2.2.2.2.2.2.2.2.2.2.2.2.1, .inl (cC, 16, .inl (fun _ => 0))), (u.2.2.2.2.2.2.2.2.2.2.2.2.2.1, .inl (cI, 96, .inl (fun _ => 0))), (u.2.2.2.2.2.2.2.2.2.2.2.2.2.2, .inl (cI, 16, .inl (fun _ => 0)))]) (va_A [(o0, .inr (4, [.null, .null, .null, .null, .null]))] sz)) 15 621 (va_A [(o0, .inr (4, [.null, .null, .null, .null, .null]))] sz) := by
  refine Met.ofW (cc := mb_K_init) (maxL := 1) (ret := none) (by decide) rfl ?_
  intro p e s m args below meth c s₁ B hml hv
  obtain ⟨rfl, hsz, hP, hK, hD0, hE⟩ := hv
  have hx := B.exec
  have hb := B.bytes
  have hr := B.returns
  have hts := atoms_spec (ws := (.code my_K_init mb_K_init 1 none :: gw_l)) B.pre
  have hg : ∀ w ∈ gw_l, w.before _ s = true := fun w h => hts w (List.mem_cons_of_mem _ h)
  have hown : s.vm.findClass mR_K = some m.cls := findClass_of_methodNamed B.named
  have hlocks := B.notSynchronized
  have hin : meth.name = "<init>" := (name_of_methodNamed B.named B.method).1
  subst hsz
  have hD := hD0.self (sz := s.heap.size)
  have hS : va_S (va_A [(o0, .inr (4, [.null, .null, .null, .null, .null]))] s.heap.size) s.heap s.heap [] := va_S.rf
  have hA : ∀ q : Nat, s.heap.size ≤ q → va_A [(o0, .inr (4, [.null, .null, .null, .null, .null]))] s.heap.size q := fun q h => Or.inr h
  generalize hAe : va_A [(o0, .inr (4, [.null, .null, .null, .null, .null]))] s.heap.size = A at hD hS hA ⊢
  have hl := lv_entry ([.ref o0]) (n := 1) (Nat.le_of_ble_eq_true rfl)
  rw [lg_entry_eq]
  generalize (lg_sl ([.ref o0]) ++ List.replicate (1 - (lg_sl ([.ref o0])).length) Slot.unset).toArray = ls at hl ⊢
  have hl : lv_has ls 1 [(0, .ref o0)] := hl
  refine lv_aload_n hx hb md_K_init_0 rfl (lv_at hl 0 rfl) ?_
  refine W.objInit hx hb hown (hg _ wd_19) (hg _ wd_20) (hg _ gw_obj) rfl (by rw [hml]; exact hl.1) rfl md_K_init_1 (Nat.le_of_ble_eq_true rfl) (Nat.le_of_ble_eq_true rfl) ?_
  refine W.eq (g2 := F0 m 4 ls []) rfl ?_
  refine lv_aload_n hx hb md_K_init_4 rfl (lv_at hl 0 rfl) ?_
  refine va_new (ci := 3) (fs := [.null, .int 0]) (C := mR_S) (T := mT_S) (N := 2) hx hb hg gu_S mF_S mO_S hown (hg _ wd_22) (hg _ wd_23) (hg _ wd_2) hK hP hD hS hA rfl (fun j hj => by rcases (show j = 0 ∨ j = 1 by omega) with rfl | rfl <;> rfl) (Nat.le_of_ble_eq_true rfl) (Nat.le_of_ble_eq_true rfl) md_K_init_5 (fun q5 H hP hD hS => ?_)
  have hP : va_P (dC, dI) mC [(o0, .inr (4, [.null, .null, .null, .null, .null])), (q5, .inr (3, [.null, .int 0]))] H := hP
  have hD : va_D A [(o0, .inr (4, [.null, .null, .null, .null, .null])), (q5, .inr (3, [.null, .int 0]))] := hD
  refine lv_dup hx hb md_K_init_8 rfl ?_
  have hPc1 := hP.sub (ws' := [(q5, .inr (3, [.null, .int 0]))]) [1] rfl
  have hDc2 := hD.sub (ws' := [(q5, .inr (3, [.null, .int 0]))]) [1] (by decide) rfl
  have hFc3 := va_free (wc := [(q5, .inr (3, [.null, .int 0]))]) hD hS hA [1] rfl
  refine va_callv (va_runIN (As := []) (rest := [.ref q5, .ref o0]) ⟨hx, hb, hml, hown, hg⟩ (ct_S_init l dC dI cC cI cJ q5 H.size) (gw_cnI hg (nw_24 hE) mv_S_init rfl rfl ⟨Nat.le_of_ble_eq_true rfl, Nat.le_of_ble_eq_true rfl⟩) (in_preS pu_blT hK hPc1 hDc2 pu_e1) rfl rfl hl.1 rfl (lv_room (Nat.le_of_ble_eq_true rfl)) md_K_init_9 ⟨Nat.le_of_ble_eq_true rfl, Nat.le_of_ble_eq_true rfl⟩) hS (fun q _ h => hFc3 q h) hFc3 (fun u9 t9 H9 locs ht hvm hw hB hz1 hk1 hS => ?_)
  obtain ⟨q58, rfl⟩ : ∃ z, z = u9 := ⟨_, rfl⟩
  obtain ⟨hB1, hB2⟩ := hB
  have hB1 : va_P (dC, dI) mC [(q5, .inr (3, [.ref q58, .int 0])), (q58, .inl (cC, 300, .inl (fun _ => 0)))] H9 := by rw [← ht]; exact hB1
  obtain ⟨hP, hD⟩ := va_join (wr := [(o0, .inr (4, [.null, .null, .null, .null, .null]))]) (w1 := [(q5, .inr (3, [.ref q58, .int 0])), (q58, .inl (cC, 300, .inl (fun _ => 0)))]) hP hD [1] [0] rfl rfl (by decide) (by decide) hk1 hFc3 hB1 hB2
  generalize H9 = H at hP hS ⊢
  have hP : va_P (dC, dI) mC [(o0, .inr (4, [.null, .null, .null, .null, .null])), (q5, .inr (3, [.ref q58, .int 0])), (q58, .inl (cC, 300, .inl (fun _ => 0)))] H := hP
  have hD : va_D A [(o0, .inr (4, [.null, .null, .null, .null, .null])), (q5, .inr (3, [.ref q58, .int 0])), (q58, .inl (cC, 300, .inl (fun _ => 0)))] := hD
  refine va_putF (D := (dC, dI)) (ci := 4) (v := .ref q5) (ty := (.object "HingeTables$Text")) (C := mR_K) (T := mT_K) (N := 5) hx hb hg gu_K mF_K mO_K mN_K hown hK hP hD hS 0 rfl rfl 0 (by decide) (hg _ wd_97) (fun _ h9 => h9) rfl hin rfl (by decide +kernel) rfl rfl (Nat.le_of_ble_eq_true rfl) md_K_init_12 (fun H locs hP hD hS => ?_)
  have hP : va_P (dC, dI) mC [(o0, .inr (4, [.ref q5, .null, .null, .null, .null])), (q5, .inr (3, [.ref q58, .int 0])), (q58, .inl (cC, 300, .inl (fun _ => 0)))] H := hP
  have hD : va_D A [(o0, .inr (4, [.ref q5, .null, .null, .null, .null])), (q5, .inr (3, [.ref q58, .int 0])), (q58, .inl (cC, 300, .inl (fun _ => 0)))] := hD
  refine lv_aload_n hx hb md_K_init_15 rfl (lv_at hl 0 rfl) ?_
  refine va_new (ci := 0) (fs := [.long 0, .long 0, .long 0, .long 0]) (C := mR_D) (T := mT_D) (N := 4) hx hb hg gu_D mF_D mO_D hown (hg _ wd_36) (hg _ wd_37) (hg _ wd_3) hK hP hD hS hA rfl (fun j hj => by rcases (show j = 0 ∨ j = 1 ∨ j = 2 ∨ j = 3 by omega) with rfl | rfl | rfl | rfl <;> rfl) (Nat.le_of_ble_eq_true rfl) (Nat.le_of_ble_eq_true rfl) md_K_init_16 (fun q16 H hP hD hS => ?_)
  have hP : va_P (dC, dI) mC [(o0, .inr (4, [.ref q5, .null, .null, .null, .null])), (q5, .inr (3, [.ref q58, .int 0])), (q58, .inl (cC, 300, .inl (fun _ => 0))), (q16, .inr (0, [.long 0, .long 0, .long 0, .long 0]))] H := hP
  have hD : va_D A [(o0, .inr (4, [.ref q5, .null, .null, .null, .null])), (q5, .inr (3, [.ref q58, .int 0])), (q58, .inl (cC, 300, .inl (fun _ => 0))), (q16, .inr (0, [.long 0, .long 0, .long 0, .long 0]))] := hD
  refine lv_dup hx hb md_K_init_19 rfl ?_
  have hPc4 := hP.sub (ws' := [(q16, .inr (0, [.long 0, .long 0, .long 0, .long 0]))]) [3] rfl
  have hDc5 := hD.sub (ws' := [(q16, .inr (0, [.long 0, .long 0, .long 0, .long 0]))]) [3] (by decide) rfl
  have hFc6 := va_free (wc := [(q16, .inr (0, [.long 0, .long 0, .long 0, .long 0]))]) hD hS hA [3] rfl
  refine va_callv (va_runIN (As := []) (rest := [.ref q16, .ref o0]) ⟨hx, hb, hml, hown, hg⟩ (ct_D_init l dC dI cC cI cJ q16 H.size) (gw_cnI hg (nw_38 hE) mv_D_init rfl rfl ⟨Nat.le_of_ble_eq_true rfl, Nat.le_of_ble_eq_true rfl⟩) (in_preS pu_blT hK hPc4 hDc5 pu_e1) rfl rfl hl.1 rfl (lv_room (Nat.le_of_ble_eq_true rfl)) md_K_init_20 ⟨Nat.le_of_ble_eq_true rfl, Nat.le_of_ble_eq_true rfl⟩) hS (fun q _ h => hFc6 q h) hFc6 (fun u9 t9 H9 locs ht hvm hw hB hz1 hk1 hS => ?_)
  obtain ⟨hB1, hB2⟩ := hB
  have hB1 : va_P (dC, dI) mC [(q16, .inr (0, [.long 400, .long 700, .long 19, .long 700]))] H9 := by rw [← ht]; exact hB1
  obtain ⟨hP, hD⟩ := va_join (wr := [(o0, .inr (4, [.ref q5, .null, .null, .null, .null])), (q5, .inr (3, [.ref q58, .int 0])), (q58, .inl (cC, 300, .inl (fun _ => 0)))]) (w1 := [(q16, .inr (0, [.long 400, .long 700, .long 19, .long 700]))]) hP hD [3] [0, 1, 2] rfl rfl (by decide) (by decide) hk1 hFc6 hB1 hB2
  generalize H9 = H at hP hS ⊢
  have hP : va_P (dC, dI) mC [(o0, .inr (4, [.ref q5, .null, .null, .null, .null])), (q5, .inr (3, [.ref q58, .int 0])), (q58, .inl (cC, 300, .inl (fun _ => 0))), (q16, .inr (0, [.long 400, .long 700, .long 19, .long 700]))] H := hP
  have hD : va_D A [(o0, .inr (4, [.ref q5, .null, .null, .null, .null])), (q5, .inr (3, [.ref q58, .int 0])), (q58, .inl (cC, 300, .inl (fun _ => 0))), (q16, .inr (0, [.long 400, .long 700, .long 19, .long 700]))] := hD
  refine va_putF (D := (dC, dI)) (ci := 4) (v := .ref q16) (ty := (.object "HingeTables$Door")) (C := mR_K) (T := mT_K) (N := 5) hx hb hg gu_K mF_K mO_K mN_K hown hK hP hD hS 0 rfl rfl 1 (by decide) (hg _ wd_98) (fun _ h9 => h9) rfl hin rfl (by decide +kernel) rfl rfl (Nat.le_of_ble_eq_true rfl) md_K_init_23 (fun H locs hP hD hS => ?_)
  have hP : va_P (dC, dI) mC [(o0, .inr (4, [.ref q5, .ref q16, .null, .null, .null])), (q5, .inr (3, [.ref q58, .int 0])), (q58, .inl (cC, 300, .inl (fun _ => 0))), (q16, .inr (0, [.long 400, .long 700, .long 19, .long 700]))] H := hP
  have hD : va_D A [(o0, .inr (4, [.ref q5, .ref q16, .null, .null, .null])), (q5, .inr (3, [.ref q58, .int 0])), (q58, .inl (cC, 300, .inl (fun _ => 0))), (q16, .inr (0, [.long 400, .long 700, .long 19, .long 700]))] := hD
  refine lv_aload_n hx hb md_K_init_26 rfl (lv_at hl 0 rfl) ?_
  refine va_new (ci := 1) (fs := [.null, .null, .null]) (C := mR_H) (T := mT_H) (N := 3) hx hb hg gu_H mF_H mO_H hown (hg _ wd_60) (hg _ wd_61) (hg _ wd_4) hK hP hD hS hA rfl (fun j hj => by rcases (show j = 0 ∨ j = 1 ∨ j = 2 by omega) with rfl | rfl | rfl <;> rfl) (Nat.le_of_ble_eq_true rfl) (Nat.le_of_ble_eq_true rfl) md_K_init_27 (fun q27 H hP hD hS => ?_)
  have hP : va_P (dC, dI) mC [(o0, .inr (4, [.ref q5, .ref q16, .null, .null, .null])), (q5, .inr (3, [.ref q58, .int 0])), (q58, .inl (cC, 300, .inl (fun _ => 0))), (q16, .inr (0, [.long 400, .long 700, .long 19, .long 700])), (q27, .inr (1, [.null, .null, .null]))] H := hP
  have hD : va_D A [(o0, .inr (4, [.ref q5, .ref q16, .null, .null, .null])), (q5, .inr (3, [.ref q58, .int 0])), (q58, .inl (cC, 300, .inl (fun _ => 0))), (q16, .inr (0, [.long 400, .long 700, .long 19, .long 700])), (q27, .inr (1, [.null, .null, .null]))] := hD
  refine lv_dup hx hb md_K_init_30 rfl ?_
  have hPc7 := hP.sub (ws' := [(q27, .inr (1, [.null, .null, .null]))]) [4] rfl
  have hDc8 := hD.sub (ws' := [(q27, .inr (1, [.null, .null, .null]))]) [4] (by decide) rfl
  have hFc9 := va_free (wc := [(q27, .inr (1, [.null, .null, .null]))]) hD hS hA [4] rfl
  refine va_callv (va_runIN (As := []) (rest := [.ref q27, .ref o0]) ⟨hx, hb, hml, hown, hg⟩ (ct_H_init l dC dI cC cI cJ q27 H.size) (gw_cnI hg (nw_62 hE) mv_H_init rfl rfl ⟨Nat.le_of_ble_eq_true rfl, Nat.le_of_ble_eq_true rfl⟩) (in_preS pu_blT hK hPc7 hDc8 pu_e1) rfl rfl hl.1 rfl (lv_room (Nat.le_of_ble_eq_true rfl)) md_K_init_31 ⟨Nat.le_of_ble_eq_true rfl, Nat.le_of_ble_eq_true rfl⟩) hS (fun q _ h => hFc9 q h) hFc9 (fun u9 t9 H9 locs ht hvm hw hB hz1 hk1 hS => ?_)
  obtain ⟨q277, q2715, q2723⟩ := u9
  obtain ⟨hB1, hB2⟩ := hB
  have hB1 : va_P (dC, dI) mC [(q27, .inr (1, [.ref q277, .ref q2715, .ref q2723])), (q277, .inl (cI, 16, .inl (fun _ => 0))), (q2715, .inl (cI, 16, .inl (fun _ => 0))), (q2723, .inl (cI, 16, .inl (fun _ => 0)))] H9 := by rw [← ht]; exact hB1
  obtain ⟨hP, hD⟩ := va_join (wr := [(o0, .inr (4, [.ref q5, .ref q16, .null, .null, .null])), (q5, .inr (3, [.ref q58, .int 0])), (q58, .inl (cC, 300, .inl (fun _ => 0))), (q16, .inr (0, [.long 400, .long 700, .long 19, .long 700]))]) (w1 := [(q27, .inr (1, [.ref q277, .ref q2715, .ref q2723])), (q277, .inl (cI, 16, .inl (fun _ => 0))), (q2715, .inl (cI, 16, .inl (fun _ => 0))), (q2723, .inl (cI, 16, .inl (fun _ => 0)))]) hP hD [4] [0, 1, 2, 3] rfl rfl (by decide) (by decide) hk1 hFc9 hB1 hB2
  generalize H9 = H at hP hS ⊢
  have hP : va_P (dC, dI) mC [(o0, .inr (4, [.ref q5, .ref q16, .null, .null, .null])), (q5, .inr (3, [.ref q58, .int 0])), (q58, .inl (cC, 300, .inl (fun _ => 0))), (q16, .inr (0, [.long 400, .long 700, .long 19, .long 700])), (q27, .inr (1, [.ref q277, .ref q2715, .ref q2723])), (q277, .inl (cI, 16, .inl (fun _ => 0))), (q2715, .inl (cI, 16, .inl (fun _ => 0))), (q2723, .inl (cI, 16, .inl (fun _ => 0)))] H := hP
  have hD : va_D A [(o0, .inr (4, [.ref q5, .ref q16, .null, .null, .null])), (q5, .inr (3, [.ref q58, .int 0])), (q58, .inl (cC, 300, .inl (fun _ => 0))), (q16, .inr (0, [.long 400, .long 700, .long 19, .long 700])), (q27, .inr (1, [.ref q277, .ref q2715, .ref q2723])), (q277, .inl (cI, 16, .inl (fun _ => 0))), (q2715, .inl (cI, 16, .inl (fun _ => 0))), (q2723, .inl (cI, 16, .inl (fun _ => 0)))] := hD
  refine va_putF (D := (dC, dI)) (ci := 4) (v := .ref q27) (ty := (.object "HingeTables$Holes")) (C := mR_K) (T := mT_K) (N := 5) hx hb hg gu_K mF_K mO_K mN_K hown hK hP hD hS 0 rfl rfl 2 (by decide) (hg _ wd_99) (fun _ h9 => h9) rfl hin rfl (by decide +kernel) rfl rfl (Nat.le_of_ble_eq_true rfl) md_K_init_34 (fun H locs hP hD hS => ?_)
  have hP : va_P (dC, dI) mC [(o0, .inr (4, [.ref q5, .ref q16, .ref q27, .null, .null])), (q5, .inr (3, [.ref q58, .int 0])), (q58, .inl (cC, 300, .inl (fun _ => 0))), (q16, .inr (0, [.long 400, .long 700, .long 19, .long 700])), (q27, .inr (1, [.ref q277, .ref q2715, .ref q2723])), (q277, .inl (cI, 16, .inl (fun _ => 0))), (q2715, .inl (cI, 16, .inl (fun _ => 0))), (q2723, .inl (cI, 16, .inl (fun _ => 0)))] H := hP
  have hD : va_D A [(o0, .inr (4, [.ref q5, .ref q16, .ref q27, .null, .null])), (q5, .inr (3, [.ref q58, .int 0])), (q58, .inl (cC, 300, .inl (fun _ => 0))), (q16, .inr (0, [.long 400, .long 700, .long 19, .long 700])), (q27, .inr (1, [.ref q277, .ref q2715, .ref q2723])), (q277, .inl (cI, 16, .inl (fun _ => 0))), (q2715, .inl (cI, 16, .inl (fun _ => 0))), (q2723, .inl (cI, 16, .inl (fun _ => 0)))] := hD
  refine lv_aload_n hx hb md_K_init_37 rfl (lv_at hl 0 rfl) ?_
  refine va_new (ci := 2) (fs := [.null, .null, .null, .int 0]) (C := mR_T) (T := mT_T) (N := 4) hx hb hg gu_T mF_T mO_T hown (hg _ wd_77) (hg _ wd_78) (hg _ wd_5) hK hP hD hS hA rfl (fun j hj => by rcases (show j = 0 ∨ j = 1 ∨ j = 2 ∨ j = 3 by omega) with rfl | rfl | rfl | rfl <;> rfl) (Nat.le_of_ble_eq_true rfl) (Nat.le_of_ble_eq_true rfl) md_K_init_38 (fun q38 H hP hD hS => ?_)
  have hP : va_P (dC, dI) mC [(o0, .inr (4, [.ref q5, .ref q16, .ref q27, .null, .null])), (q5, .inr (3, [.ref q58, .int 0])), (q58, .inl (cC, 300, .inl (fun _ => 0))), (q16, .inr (0, [.long 400, .long 700, .long 19, .long 700])), (q27, .inr (1, [.ref q277, .ref q2715, .ref q2723])), (q277, .inl (cI, 16, .inl (fun _ => 0))), (q2715, .inl (cI, 16, .inl (fun _ => 0))), (q2723, .inl (cI, 16, .inl (fun _ => 0))), (q38, .inr (2, [.null, .null, .null, .int 0]))] H := hP
  have hD : va_D A [(o0, .inr (4, [.ref q5, .ref q16, .ref q27, .null, .null])), (q5, .inr (3, [.ref q58, .int 0])), (q58, .inl (cC, 300, .inl (fun _ => 0))), (q16, .inr (0, [.long 400, .long 700, .long 19, .long 700])), (q27, .inr (1, [.ref q277, .ref q2715, .ref q2723])), (q277, .inl (cI, 16, .inl (fun _ => 0))), (q2715, .inl (cI, 16, .inl (fun _ => 0))), (q2723, .inl (cI, 16, .inl (fun _ => 0))), (q38, .inr (2, [.null, .null, .null, .int 0]))] := hD
  refine lv_dup hx hb md_K_init_41 rfl ?_
  have hPc10 := hP.sub (ws' := [(q38, .inr (2, [.null, .null, .null, .int 0]))]) [8] rfl
  have hDc11 := hD.sub (ws' := [(q38, .inr (2, [.null, .null, .null, .int 0]))]) [8] (by decide) rfl
  have hFc12 := va_free (wc := [(q38, .inr (2, [.null, .null, .null, .int 0]))]) hD hS hA [8] rfl
  refine va_callv (va_runIN (As := []) (rest := [.ref q38, .ref o0]) ⟨hx, hb, hml, hown, hg⟩ (ct_T_init l dC dI cC cI cJ q38 H.size) (gw_cnI hg (nw_79 hE) mv_T_init rfl rfl ⟨Nat.le_of_ble_eq_true rfl, Nat.le_of_ble_eq_true rfl⟩) (in_preS pu_blT hK hPc10 hDc11 pu_e1) rfl rfl hl.1 rfl (lv_room (Nat.le_of_ble_eq_true rfl)) md_K_init_42 ⟨Nat.le_of_ble_eq_true rfl, Nat.le_of_ble_eq_true rfl⟩) hS (fun q _ h => hFc12 q h) hFc12 (fun u9 t9 H9 locs ht hvm hw hB hz1 hk1 hS => ?_)
  obtain ⟨q387, q3815, q3823⟩ := u9
  obtain ⟨hB1, hB2⟩ := hB
  have hB1 : va_P (dC, dI) mC [(q38, .inr (2, [.ref q387, .ref q3815, .ref q3823, .int 0])), (q387, .inl (cC, 16, .inl (fun _ => 0))), (q3815, .inl (cI, 96, .inl (fun _ => 0))), (q3823, .inl (cI, 16, .inl (fun _ => 0)))] H9 := by rw [← ht]; exact hB1
  obtain ⟨hP, hD⟩ := va_join (wr := [(o0, .inr (4, [.ref q5, .ref q16, .ref q27, .null, .null])), (q5, .inr (3, [.ref q58, .int 0])), (q58, .inl (cC, 300, .inl (fun _ => 0))), (q16, .inr (0, [.long 400, .long 700, .long 19, .long 700])), (q27, .inr (1, [.ref q277, .ref q2715, .ref q2723])), (q277, .inl (cI, 16, .inl (fun _ => 0))), (q2715, .inl (cI, 16, .inl (fun _ => 0))), (q2723, .inl (cI, 16, .inl (fun _ => 0)))]) (w1 := [(q38, .inr (2, [.ref q387, .ref q3815, .ref q3823, .int 0])), (q387, .inl (cC, 16, .inl (fun _ => 0))), (q3815, .inl (cI, 96, .inl (fun _ => 0))), (q3823, .inl (cI, 16, .inl (fun _ => 0)))]) hP hD [8] [0, 1, 2, 3, 4, 5, 6, 7] rfl rfl (by decide) (by decide) hk1 hFc12 hB1 hB2
  generalize H9 = H at hP hS ⊢
  have hP : va_P (dC, dI) mC [(o0, .inr (4, [.ref q5, .ref q16, .ref q27, .null, .null])), (q5, .inr (3, [.ref q58, .int 0])), (q58, .inl (cC, 300, .inl (fun _ => 0))), (q16, .inr (0, [.long 400, .long 700, .long 19, .long 700])), (q27, .inr (1, [.ref q277, .ref q2715, .ref q2723])), (q277, .inl (cI, 16, .inl (fun _ => 0))), (q2715, .inl (cI, 16, .inl (fun _ => 0))), (q2723, .inl (cI, 16, .inl (fun _ => 0))), (q38, .inr (2, [.ref q387, .ref q3815, .ref q3823, .int 0])), (q387, .inl (cC, 16, .inl (fun _ => 0))), (q3815, .inl (cI, 96, .inl (fun _ => 0))), (q3823, .inl (cI, 16, .inl (fun _ => 0)))] H := hP
  have hD : va_D A [(o0, .inr (4, [.ref q5, .ref q16, .ref q27, .null, .null])), (q5, .inr (3, [.ref q58, .int 0])), (q58, .inl (cC, 300, .inl (fun _ => 0))), (q16, .inr (0, [.long 400, .long 700, .long 19, .long 700])), (q27, .inr (1, [.ref q277, .ref q2715, .ref q2723])), (q277, .inl (cI, 16, .inl (fun _ => 0))), (q2715, .inl (cI, 16, .inl (fun _ => 0))), (q2723, .inl (cI, 16, .inl (fun _ => 0))), (q38, .inr (2, [.ref q387, .ref q3815, .ref q3823, .int 0])), (q387, .inl (cC, 16, .inl (fun _ => 0))), (q3815, .inl (cI, 96, .inl (fun _ => 0))), (q3823, .inl (cI, 16, .inl (fun _ => 0)))] := hD
  refine va_put (D := (dC, dI)) (ci := 4) (v := .ref q38) (ty := (.object "HingeTables$Table")) (C := mR_K) (T := mT_K) (N := 5) hx hb hg gu_K mF_K mO_K mN_K hown hK hP hD hS 0 rfl rfl 3 (by decide) (hg _ wd_100) (fun _ h9 => h9) rfl (by decide +kernel) rfl rfl (Nat.le_of_ble_eq_true rfl) md_K_init_45 (fun H locs hP hD hS => ?_)
  have hP : va_P (dC, dI) mC [(o0, .inr (4, [.ref q5, .ref q16, .ref q27, .ref q38, .null])), (q5, .inr (3, [.ref q58, .int 0])), (q58, .inl (cC, 300, .inl (fun _ => 0))), (q16, .inr (0, [.long 400, .long 700, .long 19, .long 700])), (q27, .inr (1, [.ref q277, .ref q2715, .ref q2723])), (q277, .inl (cI, 16, .inl (fun _ => 0))), (q2715, .inl (cI, 16, .inl (fun _ => 0))), (q2723, .inl (cI, 16, .inl (fun _ => 0))), (q38, .inr (2, [.ref q387, .ref q3815, .ref q3823, .int 0])), (q387, .inl (cC, 16, .inl (fun _ => 0))), (q3815, .inl (cI, 96, .inl (fun _ => 0))), (q3823, .inl (cI, 16, .inl (fun _ => 0)))] H := hP
  have hD : va_D A [(o0, .inr (4, [.ref q5, .ref q16, .ref q27, .ref q38, .null])), (q5, .inr (3, [.ref q58, .int 0])), (q58, .inl (cC, 300, .inl (fun _ => 0))), (q16, .inr (0, [.long 400, .long 700, .long 19, .long 700])), (q27, .inr (1, [.ref q277, .ref q2715, .ref q2723])), (q277, .inl (cI, 16, .inl (fun _ => 0))), (q2715, .inl (cI, 16, .inl (fun _ => 0))), (q2723, .inl (cI, 16, .inl (fun _ => 0))), (q38, .inr (2, [.ref q387, .ref q3815, .ref q3823, .int 0])), (q387, .inl (cC, 16, .inl (fun _ => 0))), (q3815, .inl (cI, 96, .inl (fun _ => 0))), (q3823, .inl (cI, 16, .inl (fun _ => 0)))] := hD
  refine lv_aload_n hx hb md_K_init_48 rfl (lv_at hl 0 rfl) ?_
  refine va_new (ci := 2) (fs := [.null, .null, .null, .int 0]) (C := mR_T) (T := mT_T) (N := 4) hx hb hg gu_T mF_T mO_T hown (hg _ wd_77) (hg _ wd_78) (hg _ wd_5) hK hP hD hS hA rfl (fun j hj => by rcases (show j = 0 ∨ j = 1 ∨ j = 2 ∨ j = 3 by omega) with rfl | rfl | rfl | rfl <;> rfl) (Nat.le_of_ble_eq_true rfl) (Nat.le_of_ble_eq_true rfl) md_K_init_49 (fun q49 H hP hD hS => ?_)
  have hP : va_P (dC, dI) mC [(o0, .inr (4, [.ref q5, .ref q16, .ref q27, .ref q38, .null])), (q5, .inr (3, [.ref q58, .int 0])), (q58, .inl (cC, 300, .inl (fun _ => 0))), (q16, .inr (0, [.long 400, .long 700, .long 19, .long 700])), (q27, .inr (1, [.ref q277, .ref q2715, .ref q2723])), (q277, .inl (cI, 16, .inl (fun _ => 0))), (q2715, .inl (cI, 16, .inl (fun _ => 0))), (q2723, .inl (cI, 16, .inl (fun _ => 0))), (q38, .inr (2, [.ref q387, .ref q3815, .ref q3823, .int 0])), (q387, .inl (cC, 16, .inl (fun _ => 0))), (q3815, .inl (cI, 96, .inl (fun _ => 0))), (q3823, .inl (cI, 16, .inl (fun _ => 0))), (q49, .inr (2, [.null, .null, .null, .int 0]))] H := hP
  have hD : va_D A [(o0, .inr (4, [.ref q5, .ref q16, .ref q27, .ref q38, .null])), (q5, .inr (3, [.ref q58, .int 0])), (q58, .inl (cC, 300, .inl (fun _ => 0))), (q16, .inr (0, [.long 400, .long 700, .long 19, .long 700])), (q27, .inr (1, [.ref q277, .ref q2715, .ref q2723])), (q277, .inl (cI, 16, .inl (fun _ => 0))), (q2715, .inl (cI, 16, .inl (fun _ => 0))), (q2723, .inl (cI, 16, .inl (fun _ => 0))), (q38, .inr (2, [.ref q387, .ref q3815, .ref q3823, .int 0])), (q387, .inl (cC, 16, .inl (fun _ => 0))), (q3815, .inl (cI, 96, .inl (fun _ => 0))), (q3823, .inl (cI, 16, .inl (fun _ => 0))), (q49, .inr (2, [.null, .null, .null, .int 0]))] := hD
  refine lv_dup hx hb md_K_init_52 rfl ?_
  have hPc13 := hP.sub (ws' := [(q49, .inr (2, [.null, .null, .null, .int 0]))]) [12] rfl
  have hDc14 := hD.sub (ws' := [(q49, .inr (2, [.null, .null, .null, .int 0]))]) [12] (by decide) rfl
  have hFc15 := va_free (wc := [(q49, .inr (2, [.null, .null, .null, .int 0]))]) hD hS hA [12] rfl
  refine va_callv (va_runIN (As := []) (rest := [.ref q49, .ref o0]) ⟨hx, hb, hml, hown, hg⟩ (ct_T_init l dC dI cC cI cJ q49 H.size) (gw_cnI hg (nw_79 hE) mv_T_init rfl rfl ⟨Nat.le_of_ble_eq_true rfl, Nat.le_of_ble_eq_true rfl⟩) (in_preS pu_blT hK hPc13 hDc14 pu_e1) rfl rfl hl.1 rfl (lv_room (Nat.le_of_ble_eq_true rfl)) md_K_init_53 ⟨Nat.le_of_ble_eq_true rfl, Nat.le_of_ble_eq_true rfl⟩) hS (fun q _ h => hFc15 q h) hFc15 (fun u9 t9 H9 locs ht hvm hw hB hz1 hk1 hS => ?_)
  obtain ⟨q497, q4915, q4923⟩ := u9
  obtain ⟨hB1, hB2⟩ := hB
  have hB1 : va_P (dC, dI) mC [(q49, .inr (2, [.ref q497, .ref q4915, .ref q4923, .int 0])), (q497, .inl (cC, 16, .inl (fun _ => 0))), (q4915, .inl (cI, 96, .inl (fun _ => 0))), (q4923, .inl (cI, 16, .inl (fun _ => 0)))] H9 := by rw [← ht]; exact hB1
  obtain ⟨hP, hD⟩ := va_join (wr := [(o0, .inr (4, [.ref q5, .ref q16, .ref q27, .ref q38, .null])), (q5, .inr (3, [.ref q58, .int 0])), (q58, .inl (cC, 300, .inl (fun _ => 0))), (q16, .inr (0, [.long 400, .long 700, .long 19, .long 700])), (q27, .inr (1, [.ref q277, .ref q2715, .ref q2723])), (q277, .inl (cI, 16, .inl (fun _ => 0))), (q2715, .inl (cI, 16, .inl (fun _ => 0))), (q2723, .inl (cI, 16, .inl (fun _ => 0))), (q38, .inr (2, [.ref q387, .ref q3815, .ref q3823, .int 0])), (q387, .inl (cC, 16, .inl (fun _ => 0))), (q3815, .inl (cI, 96, .inl (fun _ => 0))), (q3823, .inl (cI, 16, .inl (fun _ => 0)))]) (w1 := [(q49, .inr (2, [.ref q497, .ref q4915, .ref q4923, .int 0])), (q497, .inl (cC, 16, .inl (fun _ => 0))), (q4915, .inl (cI, 96, .inl (fun _ => 0))), (q4923, .inl (cI, 16, .inl (fun _ => 0)))]) hP hD [12] [0, 1, 2, 3, 4, 5, 6, 7, 8, 9, 10, 11] rfl rfl (by decide) (by decide) hk1 hFc15 hB1 hB2
  generalize H9 = H at hP hS ⊢
  have hP : va_P (dC, dI) mC [(o0, .inr (4, [.ref q5, .ref q16, .ref q27, .ref q38, .null])), (q5, .inr (3, [.ref q58, .int 0])), (q58, .inl (cC, 300, .inl (fun _ => 0))), (q16, .inr (0, [.long 400, .long 700, .long 19, .long 700])), (q27, .inr (1, [.ref q277, .ref q2715, .ref q2723])), (q277, .inl (cI, 16, .inl (fun _ => 0))), (q2715, .inl (cI, 16, .inl (fun _ => 0))), (q2723, .inl (cI, 16, .inl (fun _ => 0))), (q38, .inr (2, [.ref q387, .ref q3815, .ref q3823, .int 0])), (q387, .inl (cC, 16, .inl (fun _ => 0))), (q3815, .inl (cI, 96, .inl (fun _ => 0))), (q3823, .inl (cI, 16, .inl (fun _ => 0))), (q49, .inr (2, [.ref q497, .ref q4915, .ref q4923, .int 0])), (q497, .inl (cC, 16, .inl (fun _ => 0))), (q4915, .inl (cI, 96, .inl (fun _ => 0))), (q4923, .inl (cI, 16, .inl (fun _ => 0)))] H := hP
  have hD : va_D A [(o0, .inr (4, [.ref q5, .ref q16, .ref q27, .ref q38, .null])), (q5, .inr (3, [.ref q58, .int 0])), (q58, .inl (cC, 300, .inl (fun _ => 0))), (q16, .inr (0, [.long 400, .long 700, .long 19, .long 700])), (q27, .inr (1, [.ref q277, .ref q2715, .ref q2723])), (q277, .inl (cI, 16, .inl (fun _ => 0))), (q2715, .inl (cI, 16, .inl (fun _ => 0))), (q2723, .inl (cI, 16, .inl (fun _ => 0))), (q38, .inr (2, [.ref q387, .ref q3815, .ref q3823, .int 0])), (q387, .inl (cC, 16, .inl (fun _ => 0))), (q3815, .inl (cI, 96, .inl (fun _ => 0))), (q3823, .inl (cI, 16, .inl (fun _ => 0))), (q49, .inr (2, [.ref q497, .ref q4915, .ref q4923, .int 0])), (q497, .inl (cC, 16, .inl (fun _ => 0))), (q4915, .inl (cI, 96, .inl (fun _ => 0))), (q4923, .inl (cI, 16, .inl (fun _ => 0)))] := hD
  refine va_put (D := (dC, dI)) (ci := 4) (v := .ref q49) (ty := (.object "HingeTables$Table")) (C := mR_K) (T := mT_K) (N := 5) hx hb hg gu_K mF_K mO_K mN_K hown hK hP hD hS 0 rfl rfl 4 (by decide) (hg _ wd_101) (fun _ h9 => h9) rfl (by decide +kernel) rfl rfl (Nat.le_of_ble_eq_true rfl) md_K_init_56 (fun H locs hP hD hS => ?_)
  have hP : va_P (dC, dI) mC [(o0, .inr (4, [.ref q5, .ref q16, .ref q27, .ref q38, .ref q49])), (q5, .inr (3, [.ref q58, .int 0])), (q58, .inl (cC, 300, .inl (fun _ => 0))), (q16, .inr (0, [.long 400, .long 700, .long 19, .long 700])), (q27, .inr (1, [.ref q277, .ref q2715, .ref q2723])), (q277, .inl (cI, 16, .inl (fun _ => 0))), (q2715, .inl (cI, 16, .inl (fun _ => 0))), (q2723, .inl (cI, 16, .inl (fun _ => 0))), (q38, .inr (2, [.ref q387, .ref q3815, .ref q3823, .int 0])), (q387, .inl (cC, 16, .inl (fun _ => 0))), (q3815, .inl (cI, 96, .inl (fun _ => 0))), (q3823, .inl (cI, 16, .inl (fun _ => 0))), (q49, .inr (2, [.ref q497, .ref q4915, .ref q4923, .int 0])), (q497, .inl (cC, 16, .inl (fun _ => 0))), (q4915, .inl (cI, 96, .inl (fun _ => 0))), (q4923, .inl (cI, 16, .inl (fun _ => 0)))] H := hP
  have hD : va_D A [(o0, .inr (4, [.ref q5, .ref q16, .ref q27, .ref q38, .ref q49])), (q5, .inr (3, [.ref q58, .int 0])), (q58, .inl (cC, 300, .inl (fun _ => 0))), (q16, .inr (0, [.long 400, .long 700, .long 19, .long 700])), (q27, .inr (1, [.ref q277, .ref q2715, .ref q2723])), (q277, .inl (cI, 16, .inl (fun _ => 0))), (q2715, .inl (cI, 16, .inl (fun _ => 0))), (q2723, .inl (cI, 16, .inl (fun _ => 0))), (q38, .inr (2, [.ref q387, .ref q3815, .ref q3823, .int 0])), (q387, .inl (cC, 16, .inl (fun _ => 0))), (q3815, .inl (cI, 96, .inl (fun _ => 0))), (q3823, .inl (cI, 16, .inl (fun _ => 0))), (q49, .inr (2, [.ref q497, .ref q4915, .ref q4923, .int 0])), (q497, .inl (cC, 16, .inl (fun _ => 0))), (q4915, .inl (cI, 96, .inl (fun _ => 0))), (q4923, .inl (cI, 16, .inl (fun _ => 0)))] := hD
  exact W.vret hx hb hr (fun t ht hW => ⟨⟨(q5, q58, q16, q27, q277, q2715, q2723, q38, q387, q3815, q3823, q49, q497, q4915, q4923), rfl, trivial, by have h9 := hP; rw [← ht] at h9; exact h9, hD⟩, hS.F ht⟩) hS.2.2 md_K_init_59 hlocks
