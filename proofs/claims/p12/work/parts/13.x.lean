abbrev xn_R : List String := ["java/lang/RuntimeException", "java/lang/Exception"]
theorem vf_0 {s t : State} (ht : t.heap = s.heap) : va_F (fun _ => False) s t := ⟨by rw [ht]; exact Nat.le_refl _, fun q _ _ => by rw [ht]⟩

def am_X (t1 t2 : Nat) (qs : Nat → Nat) (U : State) : Prop := am_K t1 t2 qs U ∧ va_Nw (Cond.castable "java/lang/IllegalStateException" "java/lang/IllegalStateException") U ∧ va_Nw (Cond.castable "java/lang/IndexOutOfBoundsException" "java/lang/IndexOutOfBoundsException") U ∧ va_Nw (Cond.castable "java/lang/IllegalArgumentException" "java/lang/IllegalArgumentException") U ∧ va_Nw (Cond.declares ⟨"java/lang/RuntimeException", "<init>", "(Ljava/lang/String;)V"⟩) U ∧ va_Nw (Cond.declares ⟨"java/lang/Exception", "<init>", "(Ljava/lang/String;)V"⟩) U ∧ va_Nw (Cond.declares ⟨"java/lang/Throwable", "<init>", "(Ljava/lang/String;)V"⟩) U
theorem ac_ISE {t1 t2 : Nat} {qs : Nat → Nat} {U : State} (h : am_X t1 t2 qs U) : va_Nw (Cond.castable "java/lang/IllegalStateException" "java/lang/IllegalStateException") U := h.2.1
theorem ac_IOB {t1 t2 : Nat} {qs : Nat → Nat} {U : State} (h : am_X t1 t2 qs U) : va_Nw (Cond.castable "java/lang/IndexOutOfBoundsException" "java/lang/IndexOutOfBoundsException") U := h.2.2.1
theorem ac_IAE {t1 t2 : Nat} {qs : Nat → Nat} {U : State} (h : am_X t1 t2 qs U) : va_Nw (Cond.castable "java/lang/IllegalArgumentException" "java/lang/IllegalArgumentException") U := h.2.2.2.1
theorem ac_R {t1 t2 : Nat} {qs : Nat → Nat} {U : State} (h : am_X t1 t2 qs U) : va_Nw (Cond.declares ⟨"java/lang/RuntimeException", "<init>", "(Ljava/lang/String;)V"⟩) U := h.2.2.2.2.1
theorem ac_E {t1 t2 : Nat} {qs : Nat → Nat} {U : State} (h : am_X t1 t2 qs U) : va_Nw (Cond.declares ⟨"java/lang/Exception", "<init>", "(Ljava/lang/String;)V"⟩) U := h.2.2.2.2.2.1
theorem ac_T {t1 t2 : Nat} {qs : Nat → Nat} {U : State} (h : am_X t1 t2 qs U) : va_Nw (Cond.declares ⟨"java/lang/Throwable", "<init>", "(Ljava/lang/String;)V"⟩) U := h.2.2.2.2.2.2
theorem am_X_bl {t1 t2 : Nat} {qs : Nat → Nat} : pu_bl (am_X t1 t2 qs) := fun U V hH hW h => ⟨am_K_bl U V hH hW h.1, va_Nw.warmC hW (ac_ISE h), va_Nw.warmC hW (ac_IOB h), va_Nw.warmC hW (ac_IAE h), va_Nw.warmD hW (ac_R h), va_Nw.warmD hW (ac_E h), va_Nw.warmD hW (ac_T h)⟩
theorem xt_ISE : ∀ w ∈ (vx_atS "HingeTables" 132 "java/lang/IllegalStateException" xn_R).filter goodWord, w ∈ lw_tbl := by decide +kernel
theorem xb_ISE : ∀ w ∈ (vx_atS "HingeTables" 132 "java/lang/IllegalStateException" xn_R).filter (fun w => !goodWord w), w ∈ [Cond.castable "java/lang/IllegalStateException" "java/lang/IllegalStateException", Cond.declares ⟨"java/lang/RuntimeException", "<init>", "(Ljava/lang/String;)V"⟩, Cond.declares ⟨"java/lang/Exception", "<init>", "(Ljava/lang/String;)V"⟩, Cond.declares ⟨"java/lang/Throwable", "<init>", "(Ljava/lang/String;)V"⟩] := by decide +kernel
theorem xo_ISE : ∀ w ∈ Cond.classLink "HingeTables" 128 "java/lang/IllegalStateException" :: Cond.initialized "java/lang/IllegalStateException" :: vx_atS "HingeTables" 132 "java/lang/IllegalStateException" xn_R, vx_ot w = true := by decide +kernel
theorem xa_ISE {args : Array Value} {s : State} {t1 t2 : Nat} {qs : Nat → Nat} (hg : ∀ w ∈ gw_l, w.before args s = true) (hE : am_X t1 t2 qs s) : ∀ w ∈ vx_atS "HingeTables" 132 "java/lang/IllegalStateException" xn_R, w.before args s = true :=
  vx_hat (fun w h => hg w (gw_mem (xt_ISE w h) (List.mem_filter.mp h).2)) xb_ISE (vx_c (va_Nw.use rfl (ac_ISE hE)) (vx_c (va_Nw.use rfl (ac_R hE)) (vx_c (va_Nw.use rfl (ac_E hE)) (vx_c (va_Nw.use rfl (ac_T hE)) vx_n))))
theorem xt_IOB : ∀ w ∈ (vx_atS "HingeTables" 70 "java/lang/IndexOutOfBoundsException" xn_R).filter goodWord, w ∈ lw_tbl := by decide +kernel
theorem xb_IOB : ∀ w ∈ (vx_atS "HingeTables" 70 "java/lang/IndexOutOfBoundsException" xn_R).filter (fun w => !goodWord w), w ∈ [Cond.castable "java/lang/IndexOutOfBoundsException" "java/lang/IndexOutOfBoundsException", Cond.declares ⟨"java/lang/RuntimeException", "<init>", "(Ljava/lang/String;)V"⟩, Cond.declares ⟨"java/lang/Exception", "<init>", "(Ljava/lang/String;)V"⟩, Cond.declares ⟨"java/lang/Throwable", "<init>", "(Ljava/lang/String;)V"⟩] := by decide +kernel
theorem xo_IOB : ∀ w ∈ Cond.classLink "HingeTables" 66 "java/lang/IndexOutOfBoundsException" :: Cond.initialized "java/lang/IndexOutOfBoundsException" :: vx_atS "HingeTables" 70 "java/lang/IndexOutOfBoundsException" xn_R, vx_ot w = true := by decide +kernel
theorem xa_IOB {args : Array Value} {s : State} {t1 t2 : Nat} {qs : Nat → Nat} (hg : ∀ w ∈ gw_l, w.before args s = true) (hE : am_X t1 t2 qs s) : ∀ w ∈ vx_atS "HingeTables" 70 "java/lang/IndexOutOfBoundsException" xn_R, w.before args s = true :=
  vx_hat (fun w h => hg w (gw_mem (xt_IOB w h) (List.mem_filter.mp h).2)) xb_IOB (vx_c (va_Nw.use rfl (ac_IOB hE)) (vx_c (va_Nw.use rfl (ac_R hE)) (vx_c (va_Nw.use rfl (ac_E hE)) (vx_c (va_Nw.use rfl (ac_T hE)) vx_n))))
theorem xt_IAE : ∀ w ∈ (vx_atS "HingeTables" 81 "java/lang/IllegalArgumentException" xn_R).filter goodWord, w ∈ lw_tbl := by decide +kernel
theorem xb_IAE : ∀ w ∈ (vx_atS "HingeTables" 81 "java/lang/IllegalArgumentException" xn_R).filter (fun w => !goodWord w), w ∈ [Cond.castable "java/lang/IllegalArgumentException" "java/lang/IllegalArgumentException", Cond.declares ⟨"java/lang/RuntimeException", "<init>", "(Ljava/lang/String;)V"⟩, Cond.declares ⟨"java/lang/Exception", "<init>", "(Ljava/lang/String;)V"⟩, Cond.declares ⟨"java/lang/Throwable", "<init>", "(Ljava/lang/String;)V"⟩] := by decide +kernel
theorem xo_IAE : ∀ w ∈ Cond.classLink "HingeTables" 77 "java/lang/IllegalArgumentException" :: Cond.initialized "java/lang/IllegalArgumentException" :: vx_atS "HingeTables" 81 "java/lang/IllegalArgumentException" xn_R, vx_ot w = true := by decide +kernel
theorem xa_IAE {args : Array Value} {s : State} {t1 t2 : Nat} {qs : Nat → Nat} (hg : ∀ w ∈ gw_l, w.before args s = true) (hE : am_X t1 t2 qs s) : ∀ w ∈ vx_atS "HingeTables" 81 "java/lang/IllegalArgumentException" xn_R, w.before args s = true :=
  vx_hat (fun w h => hg w (gw_mem (xt_IAE w h) (List.mem_filter.mp h).2)) xb_IAE (vx_c (va_Nw.use rfl (ac_IAE hE)) (vx_c (va_Nw.use rfl (ac_R hE)) (vx_c (va_Nw.use rfl (ac_E hE)) (vx_c (va_Nw.use rfl (ac_T hE)) vx_n))))

theorem nx_r {row : Int32} {tz : Nat} (hz : tz ≤ 16) (h1 : ¬ row < 0) (h2 : row < nI tz) : ∃ r : Nat, r < tz ∧ row = nI r := by
  obtain ⟨j, hj, rfl⟩ := nI_of h1
  exact ⟨j, (nI_ltI hj (by omega)).mp h2, rfl⟩
theorem nx_r16 {row : Int32} {tz : Nat} (hz : tz ≤ 16) (h1 : ¬ row < 0) (h2 : row < nI tz) : vp_in row 16 := by
  obtain ⟨r, hr, rfl⟩ := nx_r hz h1 h2
  exact nx_16 (by omega)
theorem nx_rn {row : Int32} {tz : Nat} (hz : tz ≤ 16) (h1 : ¬ row < 0) (h2 : row < nI tz) : ∀ (x : Int32) (k : Nat), k < 6 → x = nI k → vp_in (row * 6 + x) 96 := by
  obtain ⟨r, hr, rfl⟩ := nx_r hz h1 h2
  exact fun x k hk e => nx_6e k (by omega) hk e
theorem nx_rk {row k x : Int32} (hrn : ∀ (x : Int32) (k : Nat), k < 6 → x = nI k → vp_in (row * 6 + x) 96) (h1 : ¬ k < 0) (h2 : k < fK_numbersBehind x) : vp_in (row * 6 + k) 96 := by
  obtain ⟨w, hw, e⟩ := nb_le x
  rw [e] at h2
  obtain ⟨j, hj, rfl⟩ := nI_of h1
  exact hrn _ j (by have := (nI_ltI hj (by omega)).mp h2; omega) rfl
theorem nx_h {k : Int32} (h1 : ¬ k < 0) (h2 : k < 16) : vp_in k 16 := by
  obtain ⟨j, hj, rfl⟩ := nI_of h1
  exact nx_16 ((nI_ltI hj (by omega)).mp (show nI j < nI 16 from h2))
theorem nx_t {k : Int32} (h1 : ¬ k < 0) (h2 : ¬ 9 ≤ k) : vp_in k 9 := by
  obtain ⟨j, hj, rfl⟩ := nI_of h1
  exact vp_in_nI (nx_lt (a := j) (b := 9) hj (by omega) h2) (by omega)

def xK_needTable (tz : Nat) : Except String Unit := if (nI tz) = 0 then (.error "java/lang/IllegalStateException") else (.ok ())
set_option maxHeartbeats 1000000 in
set_option maxRecDepth 100000 in
theorem cx_K_needTable (l : Launch) (dC : Nat → ClassId) (dI : Nat → Nat → Nat) (cC cI cJ : ClassId) (kA : Nat) (xA : Nat) (dA : Nat) (oA : Nat) (uA : Nat) (tA : Nat) (tL : Nat) (tN : Nat) (tS : Nat) (tl : Nat → Int32) (tn : Nat → Int32) (ts : Nat → Int32) (tz : Nat)  (t1 t2 : Nat) (qs : Nat → Nat) (hl9 : l.stackTraces = false) : vx_Met l my_K_needTable (.code my_K_needTable mb_K_needTable 1 none :: gw_l) ({ frames := 6, cells := 1, slots := 6, locals := 130 }) (pu_Pc (dC, dI) mC [(cC, .char), (cI, .int), (cJ, .long)] [(kA, .inr (4, [.ref xA, .ref dA, .ref oA, .ref tA, .ref uA])), (tA, .inr (2, [.ref tL, .ref tN, .ref tS, .int (nI tz)])), (tL, .inl (cC, 16, .inl tl)), (tN, .inl (cI, 96, .inl tn)), (tS, .inl (cI, 16, .inl ts))] (am_X t1 t2 qs) [.ref kA]) (va_Qv (fun (u : Unit) => xK_needTable tz = .ok u) (fun _ _ => True) (fun _ => False)) (vx_X (fun _ : Unit => True) (fun E _ _ => xK_needTable tz = .error E) (fun _ => False)) 1 6 (fun _ => False) := by
  refine vx_ofW (cc := mb_K_needTable) (maxL := 1) (ret := none) (by decide) rfl ?_
  intro p e s m args below meth c s₁ B hml hne hv
  obtain ⟨rfl, hP, hK, hE⟩ := hv
  have hx := B.exec
  have hb := B.bytes
  have hr := B.returns
  have hts := atoms_spec (ws := (.code my_K_needTable mb_K_needTable 1 none :: gw_l)) B.pre
  have hg : ∀ w ∈ gw_l, w.before _ s = true := fun w h => hts w (List.mem_cons_of_mem _ h)
  have hown : s.vm.findClass mR_K = some m.cls := findClass_of_methodNamed B.named
  have hlocks := B.notSynchronized
  have hl := lv_entry ([.ref kA]) (n := 1) (Nat.le_of_ble_eq_true rfl)
  rw [lg_entry_eq]
  generalize (lg_sl ([.ref kA]) ++ List.replicate (1 - (lg_sl ([.ref kA])).length) Slot.unset).toArray = ls at hl ⊢
  have hl : lv_has ls 1 [(0, .ref kA)] := hl
  refine lv_aload_n hx hb md_K_needTable_0 rfl (lv_at hl 0 rfl) ?_
  refine va_get (D := (dC, dI)) (ci := 4) (v := .ref tA) (C := mR_K) (T := mT_K) (N := 5) hx hb hg gu_K hown hK hP 0 rfl rfl 3 (by decide) (hg _ wd_100) (fun _ h9 => h9) rfl md_K_needTable_1 ?_
  refine va_getN (D := (dC, dI)) (ci := 2) (v := .int (nI tz)) (C := mR_T) (T := mT_T) (N := 4) hx hb hg gu_T hown hK hP 1 rfl rfl 3 (by decide) (va_Nw.use rfl (nw_87 hE.1.1.1)) (fun _ h9 => h9) rfl md_K_needTable_4 ?_
  refine lv_if_ne (tgt := 20) hx hb md_K_needTable_7 (by decide) (fun c1 => ?_) (fun c1 => ?_)
  · exact vx_ret (W.widen (k := 1) (n := 6) (Nat.zero_le _) (Nat.zero_le _) (W.vret hx hb hr (fun t ht hW => ⟨⟨(), rfl, (by rw [xK_needTable, if_neg c1]), trivial⟩, vf_0 ht⟩) (fun q hq => by cases hq) md_K_needTable_20 hlocks))
  · exact vx_throwS (names := xn_R) hx hb hl9 hown (by decide +kernel) (by decide +kernel) (hg _ wd_183) (hg _ wd_10) (ak_190 hE.1) (xa_ISE hg hE) xo_ISE (vx_Zq.narrow hE.1.2.1.1 (fun _ h => h.elim)) (vx_Zq.narrow hE.1.2.1.2 (fun _ h => h.elim)) (A := fun _ => False) (va_S.rf) (hl.1.trans hml.symm) md_K_needTable_10 md_K_needTable_13 md_K_needTable_14 md_K_needTable_16 md_K_needTable_19 (fun x h => (hne x h).elim) (Nat.le_of_ble_eq_true rfl) (Nat.le_of_ble_eq_true rfl) (Nat.le_of_ble_eq_true rfl) (Nat.le_of_ble_eq_true rfl) hlocks (fun t hal hz hk => ⟨(), trivial, (by rw [xK_needTable, if_pos c1]), hz, fun q h1 _ => hk q h1⟩) (fun z hz => by cases hz) (Nat.le_refl _) (Nat.le_refl _)
set_option maxHeartbeats 1000000 in
set_option maxRecDepth 100000 in
theorem ct_K_needTable (l : Launch) (dC : Nat → ClassId) (dI : Nat → Nat → Nat) (cC cI cJ : ClassId) (kA : Nat) (xA : Nat) (dA : Nat) (oA : Nat) (uA : Nat) (tA : Nat) (tL : Nat) (tN : Nat) (tS : Nat) (tl : Nat → Int32) (tn : Nat → Int32) (ts : Nat → Int32) (tz : Nat)  (t1 t2 : Nat) (qs : Nat → Nat) (hok : xK_needTable tz = .ok ()) : Met l my_K_needTable (.code my_K_needTable mb_K_needTable 1 none :: gw_l) ({ frames := 0, cells := 0, slots := 0, locals := 0 }) (pu_Pc (dC, dI) mC [(cC, .char), (cI, .int), (cJ, .long)] [(kA, .inr (4, [.ref xA, .ref dA, .ref oA, .ref tA, .ref uA])), (tA, .inr (2, [.ref tL, .ref tN, .ref tS, .int (nI tz)])), (tL, .inl (cC, 16, .inl tl)), (tN, .inl (cI, 96, .inl tn)), (tS, .inl (cI, 16, .inl ts))] (am_X t1 t2 qs) [.ref kA]) (va_Sv (fun _ => True)) 0 0 (fun _ => False) := by
  refine Met.ofW (cc := mb_K_needTable) (maxL := 1) (ret := none) (by decide) rfl ?_
  intro p e s m args below meth c s₁ B hml hv
  obtain ⟨rfl, hP, hK, hE⟩ := hv
  have hx := B.exec
  have hb := B.bytes
  have hr := B.returns
  have hts := atoms_spec (ws := (.code my_K_needTable mb_K_needTable 1 none :: gw_l)) B.pre
  have hg : ∀ w ∈ gw_l, w.before _ s = true := fun w h => hts w (List.mem_cons_of_mem _ h)
  have hown : s.vm.findClass mR_K = some m.cls := findClass_of_methodNamed B.named
  have hlocks := B.notSynchronized
  have hl := lv_entry ([.ref kA]) (n := 1) (Nat.le_of_ble_eq_true rfl)
  rw [lg_entry_eq]
  generalize (lg_sl ([.ref kA]) ++ List.replicate (1 - (lg_sl ([.ref kA])).length) Slot.unset).toArray = ls at hl ⊢
  have hl : lv_has ls 1 [(0, .ref kA)] := hl
  refine lv_aload_n hx hb md_K_needTable_0 rfl (lv_at hl 0 rfl) ?_
  refine va_get (D := (dC, dI)) (ci := 4) (v := .ref tA) (C := mR_K) (T := mT_K) (N := 5) hx hb hg gu_K hown hK hP 0 rfl rfl 3 (by decide) (hg _ wd_100) (fun _ h9 => h9) rfl md_K_needTable_1 ?_
  refine va_getN (D := (dC, dI)) (ci := 2) (v := .int (nI tz)) (C := mR_T) (T := mT_T) (N := 4) hx hb hg gu_T hown hK hP 1 rfl rfl 3 (by decide) (va_Nw.use rfl (nw_87 hE.1.1.1)) (fun _ h9 => h9) rfl md_K_needTable_4 ?_
  refine lv_if_ne (tgt := 20) hx hb md_K_needTable_7 (by decide) (fun c1 => ?_) (fun c1 => ?_)
  · exact pu_vret hx hb hr hlocks md_K_needTable_20
  · exact absurd hok (by rw [xK_needTable, if_pos c1]; exact fun h => by cases h)

def xK_needRow (tz : Nat) (row : Int32) : Except String Unit := if row < 0 then (.error "java/lang/IndexOutOfBoundsException") else (if row < (nI tz) then (.ok ()) else (.error "java/lang/IndexOutOfBoundsException"))
set_option maxHeartbeats 1000000 in
set_option maxRecDepth 100000 in
theorem cx_K_needRow (l : Launch) (dC : Nat → ClassId) (dI : Nat → Nat → Nat) (cC cI cJ : ClassId) (kA : Nat) (xA : Nat) (dA : Nat) (oA : Nat) (uA : Nat) (tA : Nat) (tL : Nat) (tN : Nat) (tS : Nat) (tl : Nat → Int32) (tn : Nat → Int32) (ts : Nat → Int32) (tz : Nat) (row : Int32) (t1 t2 : Nat) (qs : Nat → Nat) (hl9 : l.stackTraces = false) : vx_Met l my_K_needRow (.code my_K_needRow mb_K_needRow 2 none :: gw_l) ({ frames := 6, cells := 1, slots := 6, locals := 130 }) (pu_Pc (dC, dI) mC [(cC, .char), (cI, .int), (cJ, .long)] [(kA, .inr (4, [.ref xA, .ref dA, .ref oA, .ref tA, .ref uA])), (tA, .inr (2, [.ref tL, .ref tN, .ref tS, .int (nI tz)])), (tL, .inl (cC, 16, .inl tl)), (tN, .inl (cI, 96, .inl tn)), (tS, .inl (cI, 16, .inl ts))] (am_X t1 t2 qs) [.ref kA, .int row]) (va_Qv (fun (u : Unit) => xK_needRow tz row = .ok u) (fun _ _ => True) (fun _ => False)) (vx_X (fun _ : Unit => True) (fun E _ _ => xK_needRow tz row = .error E) (fun _ => False)) 1 6 (fun _ => False) := by
  refine vx_ofW (cc := mb_K_needRow) (maxL := 2) (ret := none) (by decide) rfl ?_
  intro p e s m args below meth c s₁ B hml hne hv
  obtain ⟨rfl, hP, hK, hE⟩ := hv
  have hx := B.exec
  have hb := B.bytes
  have hr := B.returns
  have hts := atoms_spec (ws := (.code my_K_needRow mb_K_needRow 2 none :: gw_l)) B.pre
  have hg : ∀ w ∈ gw_l, w.before _ s = true := fun w h => hts w (List.mem_cons_of_mem _ h)
  have hown : s.vm.findClass mR_K = some m.cls := findClass_of_methodNamed B.named
  have hlocks := B.notSynchronized
  have hl := lv_entry ([.ref kA, .int row]) (n := 2) (Nat.le_of_ble_eq_true rfl)
  rw [lg_entry_eq]
  generalize (lg_sl ([.ref kA, .int row]) ++ List.replicate (2 - (lg_sl ([.ref kA, .int row])).length) Slot.unset).toArray = ls at hl ⊢
  have hl : lv_has ls 2 [(0, .ref kA), (1, .int row)] := hl
  refine lv_iload_n hx hb md_K_needRow_0 rfl (lv_at hl 1 rfl) ?_
  refine lv_if_lt (tgt := 15) hx hb md_K_needRow_1 (by decide) (fun c1 => ?_) (fun c1 => ?_)
  · exact vx_throwS (names := xn_R) hx hb hl9 hown (by decide +kernel) (by decide +kernel) (hg _ wd_255) (hg _ wd_11) (ak_192 hE.1) (xa_IOB hg hE) xo_IOB (vx_Zq.narrow hE.1.2.1.1 (fun _ h => h.elim)) (vx_Zq.narrow hE.1.2.1.2 (fun _ h => h.elim)) (A := fun _ => False) (va_S.rf) (hl.1.trans hml.symm) md_K_needRow_15 md_K_needRow_18 md_K_needRow_19 md_K_needRow_21 md_K_needRow_24 (fun x h => (hne x h).elim) (Nat.le_of_ble_eq_true rfl) (Nat.le_of_ble_eq_true rfl) (Nat.le_of_ble_eq_true rfl) (Nat.le_of_ble_eq_true rfl) hlocks (fun t hal hz hk => ⟨(), trivial, (by rw [xK_needRow, if_pos c1]), hz, fun q h1 _ => hk q h1⟩) (fun z hz => by cases hz) (Nat.le_refl _) (Nat.le_refl _)
  · refine lv_iload_n hx hb md_K_needRow_4 rfl (lv_at hl 1 rfl) ?_
    refine lv_aload_n hx hb md_K_needRow_5 rfl (lv_at hl 0 rfl) ?_
    refine va_get (D := (dC, dI)) (ci := 4) (v := .ref tA) (C := mR_K) (T := mT_K) (N := 5) hx hb hg gu_K hown hK hP 0 rfl rfl 3 (by decide) (hg _ wd_100) (fun _ h9 => h9) rfl md_K_needRow_6 ?_
    refine va_getN (D := (dC, dI)) (ci := 2) (v := .int (nI tz)) (C := mR_T) (T := mT_T) (N := 4) hx hb hg gu_T hown hK hP 1 rfl rfl 3 (by decide) (va_Nw.use rfl (nw_87 hE.1.1.1)) (fun _ h9 => h9) rfl md_K_needRow_9 ?_
    refine lv_icmp_lt (tgt := 25) hx hb md_K_needRow_12 (by decide) (fun c2 => ?_) (fun c2 => ?_)
    · exact vx_ret (W.widen (k := 1) (n := 6) (Nat.zero_le _) (Nat.zero_le _) (W.vret hx hb hr (fun t ht hW => ⟨⟨(), rfl, (by rw [xK_needRow, if_neg c1, if_pos c2]), trivial⟩, vf_0 ht⟩) (fun q hq => by cases hq) md_K_needRow_25 hlocks))
    · exact vx_throwS (names := xn_R) hx hb hl9 hown (by decide +kernel) (by decide +kernel) (hg _ wd_255) (hg _ wd_11) (ak_192 hE.1) (xa_IOB hg hE) xo_IOB (vx_Zq.narrow hE.1.2.1.1 (fun _ h => h.elim)) (vx_Zq.narrow hE.1.2.1.2 (fun _ h => h.elim)) (A := fun _ => False) (va_S.rf) (hl.1.trans hml.symm) md_K_needRow_15 md_K_needRow_18 md_K_needRow_19 md_K_needRow_21 md_K_needRow_24 (fun x h => (hne x h).elim) (Nat.le_of_ble_eq_true rfl) (Nat.le_of_ble_eq_true rfl) (Nat.le_of_ble_eq_true rfl) (Nat.le_of_ble_eq_true rfl) hlocks (fun t hal hz hk => ⟨(), trivial, (by rw [xK_needRow, if_neg c1, if_neg c2]), hz, fun q h1 _ => hk q h1⟩) (fun z hz => by cases hz) (Nat.le_refl _) (Nat.le_refl _)
set_option maxHeartbeats 1000000 in
set_option maxRecDepth 100000 in
theorem ct_K_needRow (l : Launch) (dC : Nat → ClassId) (dI : Nat → Nat → Nat) (cC cI cJ : ClassId) (kA : Nat) (xA : Nat) (dA : Nat) (oA : Nat) (uA : Nat) (tA : Nat) (tL : Nat) (tN : Nat) (tS : Nat) (tl : Nat → Int32) (tn : Nat → Int32) (ts : Nat → Int32) (tz : Nat) (row : Int32) (t1 t2 : Nat) (qs : Nat → Nat) (hok : xK_needRow tz row = .ok ()) : Met l my_K_needRow (.code my_K_needRow mb_K_needRow 2 none :: gw_l) ({ frames := 0, cells := 0, slots := 0, locals := 0 }) (pu_Pc (dC, dI) mC [(cC, .char), (cI, .int), (cJ, .long)] [(kA, .inr (4, [.ref xA, .ref dA, .ref oA, .ref tA, .ref uA])), (tA, .inr (2, [.ref tL, .ref tN, .ref tS, .int (nI tz)])), (tL, .inl (cC, 16, .inl tl)), (tN, .inl (cI, 96, .inl tn)), (tS, .inl (cI, 16, .inl ts))] (am_X t1 t2 qs) [.ref kA, .int row]) (va_Sv (fun _ => True)) 0 0 (fun _ => False) := by
  refine Met.ofW (cc := mb_K_needRow) (maxL := 2) (ret := none) (by decide) rfl ?_
  intro p e s m args below meth c s₁ B hml hv
  obtain ⟨rfl, hP, hK, hE⟩ := hv
  have hx := B.exec
  have hb := B.bytes
  have hr := B.returns
  have hts := atoms_spec (ws := (.code my_K_needRow mb_K_needRow 2 none :: gw_l)) B.pre
  have hg : ∀ w ∈ gw_l, w.before _ s = true := fun w h => hts w (List.mem_cons_of_mem _ h)
  have hown : s.vm.findClass mR_K = some m.cls := findClass_of_methodNamed B.named
  have hlocks := B.notSynchronized
  have hl := lv_entry ([.ref kA, .int row]) (n := 2) (Nat.le_of_ble_eq_true rfl)
  rw [lg_entry_eq]
  generalize (lg_sl ([.ref kA, .int row]) ++ List.replicate (2 - (lg_sl ([.ref kA, .int row])).length) Slot.unset).toArray = ls at hl ⊢
  have hl : lv_has ls 2 [(0, .ref kA), (1, .int row)] := hl
  refine lv_iload_n hx hb md_K_needRow_0 rfl (lv_at hl 1 rfl) ?_
  refine lv_if_lt (tgt := 15) hx hb md_K_needRow_1 (by decide) (fun c1 => ?_) (fun c1 => ?_)
  · exact absurd hok (by rw [xK_needRow, if_pos c1]; exact fun h => by cases h)
  · refine lv_iload_n hx hb md_K_needRow_4 rfl (lv_at hl 1 rfl) ?_
    refine lv_aload_n hx hb md_K_needRow_5 rfl (lv_at hl 0 rfl) ?_
    refine va_get (D := (dC, dI)) (ci := 4) (v := .ref tA) (C := mR_K) (T := mT_K) (N := 5) hx hb hg gu_K hown hK hP 0 rfl rfl 3 (by decide) (hg _ wd_100) (fun _ h9 => h9) rfl md_K_needRow_6 ?_
    refine va_getN (D := (dC, dI)) (ci := 2) (v := .int (nI tz)) (C := mR_T) (T := mT_T) (N := 4) hx hb hg gu_T hown hK hP 1 rfl rfl 3 (by decide) (va_Nw.use rfl (nw_87 hE.1.1.1)) (fun _ h9 => h9) rfl md_K_needRow_9 ?_
    refine lv_icmp_lt (tgt := 25) hx hb md_K_needRow_12 (by decide) (fun c2 => ?_) (fun c2 => ?_)
    · exact pu_vret hx hb hr hlocks md_K_needRow_25
    · exact absurd hok (by rw [xK_needRow, if_neg c1, if_neg c2]; exact fun h => by cases h)

def xK_needHole (k : Int32) : Except String Unit := if k < 0 then (.error "java/lang/IndexOutOfBoundsException") else (if k < 16 then (.ok ()) else (.error "java/lang/IndexOutOfBoundsException"))
set_option maxHeartbeats 1000000 in
set_option maxRecDepth 100000 in
theorem cx_K_needHole (l : Launch) (dC : Nat → ClassId) (dI : Nat → Nat → Nat) (cC cI cJ : ClassId)  (k : Int32) (t1 t2 : Nat) (qs : Nat → Nat) (hl9 : l.stackTraces = false) : vx_Met l my_K_needHole (.code my_K_needHole mb_K_needHole 1 none :: gw_l) ({ frames := 6, cells := 1, slots := 6, locals := 130 }) (pu_Pc (dC, dI) mC [(cC, .char), (cI, .int), (cJ, .long)] [] (am_X t1 t2 qs) [.int k]) (va_Qv (fun (u : Unit) => xK_needHole k = .ok u) (fun _ _ => True) (fun _ => False)) (vx_X (fun _ : Unit => True) (fun E _ _ => xK_needHole k = .error E) (fun _ => False)) 1 6 (fun _ => False) := by
  refine vx_ofW (cc := mb_K_needHole) (maxL := 1) (ret := none) (by decide) rfl ?_
  intro p e s m args below meth c s₁ B hml hne hv
  obtain ⟨rfl, hP, hK, hE⟩ := hv
  have hx := B.exec
  have hb := B.bytes
  have hr := B.returns
  have hts := atoms_spec (ws := (.code my_K_needHole mb_K_needHole 1 none :: gw_l)) B.pre
  have hg : ∀ w ∈ gw_l, w.before _ s = true := fun w h => hts w (List.mem_cons_of_mem _ h)
  have hown : s.vm.findClass mR_K = some m.cls := findClass_of_methodNamed B.named
  have hlocks := B.notSynchronized
  have hl := lv_entry ([.int k]) (n := 1) (Nat.le_of_ble_eq_true rfl)
  rw [lg_entry_eq]
  generalize (lg_sl ([.int k]) ++ List.replicate (1 - (lg_sl ([.int k])).length) Slot.unset).toArray = ls at hl ⊢
  have hl : lv_has ls 1 [(0, .int k)] := hl
  refine lv_iload_n hx hb md_K_needHole_0 rfl (lv_at hl 0 rfl) ?_
  refine lv_if_lt (tgt := 10) hx hb md_K_needHole_1 (by decide) (fun c1 => ?_) (fun c1 => ?_)
  · exact vx_throwS (names := xn_R) hx hb hl9 hown (by decide +kernel) (by decide +kernel) (hg _ wd_255) (hg _ wd_11) (ak_194 hE.1) (xa_IOB hg hE) xo_IOB (vx_Zq.narrow hE.1.2.1.1 (fun _ h => h.elim)) (vx_Zq.narrow hE.1.2.1.2 (fun _ h => h.elim)) (A := fun _ => False) (va_S.rf) (hl.1.trans hml.symm) md_K_needHole_10 md_K_needHole_13 md_K_needHole_14 md_K_needHole_16 md_K_needHole_19 (fun x h => (hne x h).elim) (Nat.le_of_ble_eq_true rfl) (Nat.le_of_ble_eq_true rfl) (Nat.le_of_ble_eq_true rfl) (Nat.le_of_ble_eq_true rfl) hlocks (fun t hal hz hk => ⟨(), trivial, (by rw [xK_needHole, if_pos c1]), hz, fun q h1 _ => hk q h1⟩) (fun z hz => by cases hz) (Nat.le_refl _) (Nat.le_refl _)
  · refine lv_iload_n hx hb md_K_needHole_4 rfl (lv_at hl 0 rfl) ?_
    refine lv_bipush (v := 16) hx hb md_K_needHole_5 (by decide) ?_
    refine lv_icmp_lt (tgt := 20) hx hb md_K_needHole_7 (by decide) (fun c2 => ?_) (fun c2 => ?_)
    · exact vx_ret (W.widen (k := 1) (n := 6) (Nat.zero_le _) (Nat.zero_le _) (W.vret hx hb hr (fun t ht hW => ⟨⟨(), rfl, (by rw [xK_needHole, if_neg c1, if_pos c2]), trivial⟩, vf_0 ht⟩) (fun q hq => by cases hq) md_K_needHole_20 hlocks))
    · exact vx_throwS (names := xn_R) hx hb hl9 hown (by decide +kernel) (by decide +kernel) (hg _ wd_255) (hg _ wd_11) (ak_194 hE.1) (xa_IOB hg hE) xo_IOB (vx_Zq.narrow hE.1.2.1.1 (fun _ h => h.elim)) (vx_Zq.narrow hE.1.2.1.2 (fun _ h => h.elim)) (A := fun _ => False) (va_S.rf) (hl.1.trans hml.symm) md_K_needHole_10 md_K_needHole_13 md_K_needHole_14 md_K_needHole_16 md_K_needHole_19 (fun x h => (hne x h).elim) (Nat.le_of_ble_eq_true rfl) (Nat.le_of_ble_eq_true rfl) (Nat.le_of_ble_eq_true rfl) (Nat.le_of_ble_eq_true rfl) hlocks (fun t hal hz hk => ⟨(), trivial, (by rw [xK_needHole, if_neg c1, if_neg c2]), hz, fun q h1 _ => hk q h1⟩) (fun z hz => by cases hz) (Nat.le_refl _) (Nat.le_refl _)
set_option maxHeartbeats 1000000 in
set_option maxRecDepth 100000 in
theorem ct_K_needHole (l : Launch) (dC : Nat → ClassId) (dI : Nat → Nat → Nat) (cC cI cJ : ClassId)  (k : Int32) (t1 t2 : Nat) (qs : Nat → Nat) (hok : xK_needHole k = .ok ()) : Met l my_K_needHole (.code my_K_needHole mb_K_needHole 1 none :: gw_l) ({ frames := 0, cells := 0, slots := 0, locals := 0 }) (pu_Pc (dC, dI) mC [(cC, .char), (cI, .int), (cJ, .long)] [] (am_X t1 t2 qs) [.int k]) (va_Sv (fun _ => True)) 0 0 (fun _ => False) := by
  refine Met.ofW (cc := mb_K_needHole) (maxL := 1) (ret := none) (by decide) rfl ?_
  intro p e s m args below meth c s₁ B hml hv
  obtain ⟨rfl, hP, hK, hE⟩ := hv
  have hx := B.exec
  have hb := B.bytes
  have hr := B.returns
  have hts := atoms_spec (ws := (.code my_K_needHole mb_K_needHole 1 none :: gw_l)) B.pre
  have hg : ∀ w ∈ gw_l, w.before _ s = true := fun w h => hts w (List.mem_cons_of_mem _ h)
  have hown : s.vm.findClass mR_K = some m.cls := findClass_of_methodNamed B.named
  have hlocks := B.notSynchronized
  have hl := lv_entry ([.int k]) (n := 1) (Nat.le_of_ble_eq_true rfl)
  rw [lg_entry_eq]
  generalize (lg_sl ([.int k]) ++ List.replicate (1 - (lg_sl ([.int k])).length) Slot.unset).toArray = ls at hl ⊢
  have hl : lv_has ls 1 [(0, .int k)] := hl
  refine lv_iload_n hx hb md_K_needHole_0 rfl (lv_at hl 0 rfl) ?_
  refine lv_if_lt (tgt := 10) hx hb md_K_needHole_1 (by decide) (fun c1 => ?_) (fun c1 => ?_)
  · exact absurd hok (by rw [xK_needHole, if_pos c1]; exact fun h => by cases h)
  · refine lv_iload_n hx hb md_K_needHole_4 rfl (lv_at hl 0 rfl) ?_
    refine lv_bipush (v := 16) hx hb md_K_needHole_5 (by decide) ?_
    refine lv_icmp_lt (tgt := 20) hx hb md_K_needHole_7 (by decide) (fun c2 => ?_) (fun c2 => ?_)
    · exact pu_vret hx hb hr hlocks md_K_needHole_20
    · exact absurd hok (by rw [xK_needHole, if_neg c1, if_neg c2]; exact fun h => by cases h)

def xK_needPart (part : Int32) : Except String Unit := if part < 0 then (.error "java/lang/IndexOutOfBoundsException") else (if part ≤ 1 then (.ok ()) else (.error "java/lang/IndexOutOfBoundsException"))
set_option maxHeartbeats 1000000 in
set_option maxRecDepth 100000 in
theorem cx_K_needPart (l : Launch) (dC : Nat → ClassId) (dI : Nat → Nat → Nat) (cC cI cJ : ClassId)  (part : Int32) (t1 t2 : Nat) (qs : Nat → Nat) (hl9 : l.stackTraces = false) : vx_Met l my_K_needPart (.code my_K_needPart mb_K_needPart 1 none :: gw_l) ({ frames := 6, cells := 1, slots := 6, locals := 130 }) (pu_Pc (dC, dI) mC [(cC, .char), (cI, .int), (cJ, .long)] [] (am_X t1 t2 qs) [.int part]) (va_Qv (fun (u : Unit) => xK_needPart part = .ok u) (fun _ _ => True) (fun _ => False)) (vx_X (fun _ : Unit => True) (fun E _ _ => xK_needPart part = .error E) (fun _ => False)) 1 6 (fun _ => False) := by
  refine vx_ofW (cc := mb_K_needPart) (maxL := 1) (ret := none) (by decide) rfl ?_
  intro p e s m args below meth c s₁ B hml hne hv
  obtain ⟨rfl, hP, hK, hE⟩ := hv
  have hx := B.exec
  have hb := B.bytes
  have hr := B.returns
  have hts := atoms_spec (ws := (.code my_K_needPart mb_K_needPart 1 none :: gw_l)) B.pre
  have hg : ∀ w ∈ gw_l, w.before _ s = true := fun w h => hts w (List.mem_cons_of_mem _ h)
  have hown : s.vm.findClass mR_K = some m.cls := findClass_of_methodNamed B.named
  have hlocks := B.notSynchronized
  have hl := lv_entry ([.int part]) (n := 1) (Nat.le_of_ble_eq_true rfl)
  rw [lg_entry_eq]
  generalize (lg_sl ([.int part]) ++ List.replicate (1 - (lg_sl ([.int part])).length) Slot.unset).toArray = ls at hl ⊢
  have hl : lv_has ls 1 [(0, .int part)] := hl
  refine lv_iload_n hx hb md_K_needPart_0 rfl (lv_at hl 0 rfl) ?_
  refine lv_if_lt (tgt := 9) hx hb md_K_needPart_1 (by decide) (fun c1 => ?_) (fun c1 => ?_)
  · exact vx_throwS (names := xn_R) hx hb hl9 hown (by decide +kernel) (by decide +kernel) (hg _ wd_255) (hg _ wd_11) (ak_196 hE.1) (xa_IOB hg hE) xo_IOB (vx_Zq.narrow hE.1.2.1.1 (fun _ h => h.elim)) (vx_Zq.narrow hE.1.2.1.2 (fun _ h => h.elim)) (A := fun _ => False) (va_S.rf) (hl.1.trans hml.symm) md_K_needPart_9 md_K_needPart_12 md_K_needPart_13 md_K_needPart_15 md_K_needPart_18 (fun x h => (hne x h).elim) (Nat.le_of_ble_eq_true rfl) (Nat.le_of_ble_eq_true rfl) (Nat.le_of_ble_eq_true rfl) (Nat.le_of_ble_eq_true rfl) hlocks (fun t hal hz hk => ⟨(), trivial, (by rw [xK_needPart, if_pos c1]), hz, fun q h1 _ => hk q h1⟩) (fun z hz => by cases hz) (Nat.le_refl _) (Nat.le_refl _)
  · refine lv_iload_n hx hb md_K_needPart_4 rfl (lv_at hl 0 rfl) ?_
    refine lv_iconst (v := 1) hx hb md_K_needPart_5 (by decide) ?_
    refine lv_icmp_le (tgt := 19) hx hb md_K_needPart_6 (by decide) (fun c2 => ?_) (fun c2 => ?_)
    · exact vx_ret (W.widen (k := 1) (n := 6) (Nat.zero_le _) (Nat.zero_le _) (W.vret hx hb hr (fun t ht hW => ⟨⟨(), rfl, (by rw [xK_needPart, if_neg c1, if_pos c2]), trivial⟩, vf_0 ht⟩) (fun q hq => by cases hq) md_K_needPart_19 hlocks))
    · exact vx_throwS (names := xn_R) hx hb hl9 hown (by decide +kernel) (by decide +kernel) (hg _ wd_255) (hg _ wd_11) (ak_196 hE.1) (xa_IOB hg hE) xo_IOB (vx_Zq.narrow hE.1.2.1.1 (fun _ h => h.elim)) (vx_Zq.narrow hE.1.2.1.2 (fun _ h => h.elim)) (A := fun _ => False) (va_S.rf) (hl.1.trans hml.symm) md_K_needPart_9 md_K_needPart_12 md_K_needPart_13 md_K_needPart_15 md_K_needPart_18 (fun x h => (hne x h).elim) (Nat.le_of_ble_eq_true rfl) (Nat.le_of_ble_eq_true rfl) (Nat.le_of_ble_eq_true rfl) (Nat.le_of_ble_eq_true rfl) hlocks (fun t hal hz hk => ⟨(), trivial, (by rw [xK_needPart, if_neg c1, if_neg c2]), hz, fun q h1 _ => hk q h1⟩) (fun z hz => by cases hz) (Nat.le_refl _) (Nat.le_refl _)
set_option maxHeartbeats 1000000 in
set_option maxRecDepth 100000 in
theorem ct_K_needPart (l : Launch) (dC : Nat → ClassId) (dI : Nat → Nat → Nat) (cC cI cJ : ClassId)  (part : Int32) (t1 t2 : Nat) (qs : Nat → Nat) (hok : xK_needPart part = .ok ()) : Met l my_K_needPart (.code my_K_needPart mb_K_needPart 1 none :: gw_l) ({ frames := 0, cells := 0, slots := 0, locals := 0 }) (pu_Pc (dC, dI) mC [(cC, .char), (cI, .int), (cJ, .long)] [] (am_X t1 t2 qs) [.int part]) (va_Sv (fun _ => True)) 0 0 (fun _ => False) := by
  refine Met.ofW (cc := mb_K_needPart) (maxL := 1) (ret := none) (by decide) rfl ?_
  intro p e s m args below meth c s₁ B hml hv
  obtain ⟨rfl, hP, hK, hE⟩ := hv
  have hx := B.exec
  have hb := B.bytes
  have hr := B.returns
  have hts := atoms_spec (ws := (.code my_K_needPart mb_K_needPart 1 none :: gw_l)) B.pre
  have hg : ∀ w ∈ gw_l, w.before _ s = true := fun w h => hts w (List.mem_cons_of_mem _ h)
  have hown : s.vm.findClass mR_K = some m.cls := findClass_of_methodNamed B.named
  have hlocks := B.notSynchronized
  have hl := lv_entry ([.int part]) (n := 1) (Nat.le_of_ble_eq_true rfl)
  rw [lg_entry_eq]
  generalize (lg_sl ([.int part]) ++ List.replicate (1 - (lg_sl ([.int part])).length) Slot.unset).toArray = ls at hl ⊢
  have hl : lv_has ls 1 [(0, .int part)] := hl
  refine lv_iload_n hx hb md_K_needPart_0 rfl (lv_at hl 0 rfl) ?_
  refine lv_if_lt (tgt := 9) hx hb md_K_needPart_1 (by decide) (fun c1 => ?_) (fun c1 => ?_)
  · exact absurd hok (by rw [xK_needPart, if_pos c1]; exact fun h => by cases h)
  · refine lv_iload_n hx hb md_K_needPart_4 rfl (lv_at hl 0 rfl) ?_
    refine lv_iconst (v := 1) hx hb md_K_needPart_5 (by decide) ?_
    refine lv_icmp_le (tgt := 19) hx hb md_K_needPart_6 (by decide) (fun c2 => ?_) (fun c2 => ?_)
    · exact pu_vret hx hb hr hlocks md_K_needPart_19
    · exact absurd hok (by rw [xK_needPart, if_neg c1, if_neg c2]; exact fun h => by cases h)

def xK_row (tl : Nat → Int32) (tn : Nat → Int32) (tz : Nat) (row : Int32) (k : Int32) : Except String Int32 := if (nI tz) = 0 then (.error "java/lang/IllegalStateException") else (if row < 0 then (.error "java/lang/IndexOutOfBoundsException") else (if row < (nI tz) then (if k = (-1) then (.ok (fT_letter tl row)) else (if k < 0 then (.error "java/lang/IndexOutOfBoundsException") else (if k < (fK_numbersBehind (fT_letter tl row)) then (.ok (fT_number tn row k)) else (.error "java/lang/IndexOutOfBoundsException")))) else (.error "java/lang/IndexOutOfBoundsException")))
set_option maxHeartbeats 1000000 in
set_option maxRecDepth 100000 in
theorem cx_K_row (l : Launch) (dC : Nat → ClassId) (dI : Nat → Nat → Nat) (cC cI cJ : ClassId) (kA : Nat) (xA : Nat) (dA : Nat) (oA : Nat) (uA : Nat) (tA : Nat) (tL : Nat) (tN : Nat) (tS : Nat) (tl : Nat → Int32) (tn : Nat → Int32) (ts : Nat → Int32) (tz : Nat) (row : Int32) (k : Int32) (t1 t2 : Nat) (qs : Nat → Nat) (hl9 : l.stackTraces = false) (hz : tz ≤ 16) (hch : ∀ j, narrow .char (.int (tl j)) = .int (tl j)) : vx_Met l my_K_row (.code my_K_row mb_K_row 3 (some .int) :: gw_l) ({ frames := 7, cells := 1, slots := 6, locals := 151 }) (pu_Pc (dC, dI) mC [(cC, .char), (cI, .int), (cJ, .long)] [(kA, .inr (4, [.ref xA, .ref dA, .ref oA, .ref tA, .ref uA])), (tA, .inr (2, [.ref tL, .ref tN, .ref tS, .int (nI tz)])), (tL, .inl (cC, 16, .inl tl)), (tN, .inl (cI, 96, .inl tn)), (tS, .inl (cI, 16, .inl ts))] (am_X t1 t2 qs) [.ref kA, .int row, .int k]) (va_Qi (fun (r : Int32) (_ : Unit) => xK_row tl tn tz row k = .ok r) (fun _ _ => True) (fun _ => False)) (vx_X (fun _ : Unit => True) (fun E _ _ => xK_row tl tn tz row k = .error E) (fun _ => False)) 1 6 (fun _ => False) := by
  refine vx_ofW (cc := mb_K_row) (maxL := 3) (ret := (some .int)) (by decide) rfl ?_
  intro p e s m args below meth c s₁ B hml hne hv
  obtain ⟨rfl, hP, hK, hE⟩ := hv
  have hx := B.exec
  have hb := B.bytes
  have hr := B.returns
  have hts := atoms_spec (ws := (.code my_K_row mb_K_row 3 (some .int) :: gw_l)) B.pre
  have hg : ∀ w ∈ gw_l, w.before _ s = true := fun w h => hts w (List.mem_cons_of_mem _ h)
  have hown : s.vm.findClass mR_K = some m.cls := findClass_of_methodNamed B.named
  have hlocks := B.notSynchronized
  have hl := lv_entry ([.ref kA, .int row, .int k]) (n := 3) (Nat.le_of_ble_eq_true rfl)
  rw [lg_entry_eq]
  generalize (lg_sl ([.ref kA, .int row, .int k]) ++ List.replicate (3 - (lg_sl ([.ref kA, .int row, .int k])).length) Slot.unset).toArray = ls at hl ⊢
  have hl : lv_has ls 3 [(0, .ref kA), (1, .int row), (2, .int k)] := hl
  refine lv_aload_n hx hb md_K_row_0 rfl (lv_at hl 0 rfl) ?_
  by_cases c1 : (nI tz) = 0
  · have hPc2 := hP.sub (ws' := [(kA, .inr (4, [.ref xA, .ref dA, .ref oA, .ref tA, .ref uA])), (tA, .inr (2, [.ref tL, .ref tN, .ref tS, .int (nI tz)])), (tL, .inl (cC, 16, .inl tl)), (tN, .inl (cI, 96, .inl tn)), (tS, .inl (cI, 16, .inl ts))]) [0, 1, 2, 3, 4] rfl
    refine vx_callv (vx_runV (As := []) (rest := []) ⟨hx, hb, hml, hown, hg⟩ (cx_K_needTable l dC dI cC cI cJ kA xA dA oA uA tA tL tN tS tl tn ts tz t1 t2 qs hl9) (gw_cwV hg wd_179 mv_K_needTable rfl rfl ⟨Nat.le_of_ble_eq_true rfl, Nat.le_of_ble_eq_true rfl⟩) (pu_preV (ci := 4) (q0 := 0) am_X_bl hK hPc2 (pu_e0 am_X_bl hE) rfl rfl) rfl rfl hl.1 rfl (lv_room (Nat.le_of_ble_eq_true rfl)) md_K_row_1 ⟨Nat.le_of_ble_eq_true rfl, Nat.le_of_ble_eq_true rfl⟩) (va_S.rf (A := fun _ => False)) (fun _ _ h => h.elim) (fun _ h => h.elim) (fun _ _ h => h.elim) (fun E ce q9 u9 t9 H1 locs1 ht hal hpx hBX hz hk hS1 hcell hcv hcl => ?_) (fun u9 t9 H1 locs1 ht hal hpost hB hz hk hS1 => ?_)
    · have hBX : xK_needTable tz = .error E := hBX
      have hEe : E = "java/lang/IllegalStateException" := by rw [xK_needTable, if_pos c1] at hBX; exact (Except.error.inj hBX).symm
      subst hEe
      exact vx_out (fun x h => (hne x h).elim) hlocks hcell hcv hcl (fun t ht2 _ => ⟨(), trivial, (by rw [xK_row, if_pos c1]), by rw [ht2]; exact hz, fun q h1 _ => by rw [ht2]; exact hk q h1 (fun h => h)⟩) (fun z hz2 => hS1.2.2 z hz2) (Nat.le_refl _) (Nat.le_refl _)
    · have hpost : xK_needTable tz = .ok () := hpost
      rw [xK_needTable, if_pos c1] at hpost
      cases hpost
  · have hPc3 := hP.sub (ws' := [(kA, .inr (4, [.ref xA, .ref dA, .ref oA, .ref tA, .ref uA])), (tA, .inr (2, [.ref tL, .ref tN, .ref tS, .int (nI tz)])), (tL, .inl (cC, 16, .inl tl)), (tN, .inl (cI, 96, .inl tn)), (tS, .inl (cI, 16, .inl ts))]) [0, 1, 2, 3, 4] rfl
    refine pu_v (W.runV (As := []) (rest := []) ⟨hx, hb, hml, hown, hg⟩ (ct_K_needTable l dC dI cC cI cJ kA xA dA oA uA tA tL tN tS tl tn ts tz t1 t2 qs (by rw [xK_needTable, if_neg c1])) (gw_cwV hg wd_179 mv_K_needTable rfl rfl ⟨Nat.le_of_ble_eq_true rfl, Nat.le_of_ble_eq_true rfl⟩) (pu_preV (ci := 4) (q0 := 0) am_X_bl hK hPc3 (pu_e0 am_X_bl hE) rfl rfl) rfl rfl hl.1 rfl (lv_room (Nat.le_of_ble_eq_true rfl)) md_K_row_1 ⟨Nat.zero_le _, Nat.zero_le _⟩) ?_
    refine lv_aload_n hx hb md_K_row_4 rfl (lv_at hl 0 rfl) ?_
    refine lv_iload_n hx hb md_K_row_5 rfl (lv_at hl 1 rfl) ?_
    by_cases c4 : row < 0
    · have hPc5 := hP.sub (ws' := [(kA, .inr (4, [.ref xA, .ref dA, .ref oA, .ref tA, .ref uA])), (tA, .inr (2, [.ref tL, .ref tN, .ref tS, .int (nI tz)])), (tL, .inl (cC, 16, .inl tl)), (tN, .inl (cI, 96, .inl tn)), (tS, .inl (cI, 16, .inl ts))]) [0, 1, 2, 3, 4] rfl
      refine vx_callv (vx_runV (As := [.int row]) (rest := []) ⟨hx, hb, hml, hown, hg⟩ (cx_K_needRow l dC dI cC cI cJ kA xA dA oA uA tA tL tN tS tl tn ts tz row t1 t2 qs hl9) (gw_cwV hg wd_251 mv_K_needRow rfl rfl ⟨Nat.le_of_ble_eq_true rfl, Nat.le_of_ble_eq_true rfl⟩) (pu_preV (ci := 4) (q0 := 0) am_X_bl hK hPc5 (pu_e0 am_X_bl hE) rfl rfl) rfl rfl hl.1 rfl (lv_room (Nat.le_of_ble_eq_true rfl)) md_K_row_6 ⟨Nat.le_of_ble_eq_true rfl, Nat.le_of_ble_eq_true rfl⟩) (va_S.rf (A := fun _ => False)) (fun _ _ h => h.elim) (fun _ h => h.elim) (fun _ _ h => h.elim) (fun E ce q9 u9 t9 H1 locs1 ht hal hpx hBX hz hk hS1 hcell hcv hcl => ?_) (fun u9 t9 H1 locs1 ht hal hpost hB hz hk hS1 => ?_)
      · have hBX : xK_needRow tz row = .error E := hBX
        have hEe : E = "java/lang/IndexOutOfBoundsException" := by rw [xK_needRow, if_pos c4] at hBX; exact (Except.error.inj hBX).symm
        subst hEe
        exact vx_out (fun x h => (hne x h).elim) hlocks hcell hcv hcl (fun t ht2 _ => ⟨(), trivial, (by rw [xK_row, if_neg c1, if_pos c4]), by rw [ht2]; exact hz, fun q h1 _ => by rw [ht2]; exact hk q h1 (fun h => h)⟩) (fun z hz2 => hS1.2.2 z hz2) (Nat.le_refl _) (Nat.le_refl _)
      · have hpost : xK_needRow tz row = .ok () := hpost
        rw [xK_needRow, if_pos c4] at hpost
        cases hpost
    · by_cases c6 : row < (nI tz)
      · have hPc7 := hP.sub (ws' := [(kA, .inr (4, [.ref xA, .ref dA, .ref oA, .ref tA, .ref uA])), (tA, .inr (2, [.ref tL, .ref tN, .ref tS, .int (nI tz)])), (tL, .inl (cC, 16, .inl tl)), (tN, .inl (cI, 96, .inl tn)), (tS, .inl (cI, 16, .inl ts))]) [0, 1, 2, 3, 4] rfl
        refine pu_v (W.runV (As := [.int row]) (rest := []) ⟨hx, hb, hml, hown, hg⟩ (ct_K_needRow l dC dI cC cI cJ kA xA dA oA uA tA tL tN tS tl tn ts tz row t1 t2 qs (by rw [xK_needRow, if_neg c4, if_pos c6])) (gw_cwV hg wd_251 mv_K_needRow rfl rfl ⟨Nat.le_of_ble_eq_true rfl, Nat.le_of_ble_eq_true rfl⟩) (pu_preV (ci := 4) (q0 := 0) am_X_bl hK hPc7 (pu_e0 am_X_bl hE) rfl rfl) rfl rfl hl.1 rfl (lv_room (Nat.le_of_ble_eq_true rfl)) md_K_row_6 ⟨Nat.zero_le _, Nat.zero_le _⟩) ?_
        have hrow : vp_in row 16 := nx_r16 hz c4 c6
        have hrn := nx_rn hz c4 c6
        refine lv_iload_n hx hb md_K_row_9 rfl (lv_at hl 2 rfl) ?_
        refine lv_iconst (v := (-1)) hx hb md_K_row_10 (by decide) ?_
        refine lv_icmp_ne (tgt := 23) hx hb md_K_row_11 (by decide) (fun c8 => ?_) (fun c8 => ?_)
        · refine lv_iload_n hx hb md_K_row_23 rfl (lv_at hl 2 rfl) ?_
          refine lv_if_lt (tgt := 42) hx hb md_K_row_24 (by decide) (fun c9 => ?_) (fun c9 => ?_)
          · exact vx_throwS (names := xn_R) hx hb hl9 hown (by decide +kernel) (by decide +kernel) (hg _ wd_255) (hg _ wd_11) (ak_68 hE.1) (xa_IOB hg hE) xo_IOB (vx_Zq.narrow hE.1.2.1.1 (fun _ h => h.elim)) (vx_Zq.narrow hE.1.2.1.2 (fun _ h => h.elim)) (A := fun _ => False) (va_S.rf) (hl.1.trans hml.symm) md_K_row_42 md_K_row_45 md_K_row_46 md_K_row_48 md_K_row_51 (fun x h => (hne x h).elim) (Nat.le_of_ble_eq_true rfl) (Nat.le_of_ble_eq_true rfl) (Nat.le_of_ble_eq_true rfl) (Nat.le_of_ble_eq_true rfl) hlocks (fun t hal hz hk => ⟨(), trivial, (by rw [xK_row, if_neg c1, if_neg c4, if_pos c6, if_neg c8, if_pos c9]), hz, fun q h1 _ => hk q h1⟩) (fun z hz => by cases hz) (Nat.le_refl _) (Nat.le_refl _)
          · refine lv_iload_n hx hb md_K_row_27 rfl (lv_at hl 2 rfl) ?_
            refine lv_aload_n hx hb md_K_row_28 rfl (lv_at hl 0 rfl) ?_
            refine va_get (D := (dC, dI)) (ci := 4) (v := .ref tA) (C := mR_K) (T := mT_K) (N := 5) hx hb hg gu_K hown hK hP 0 rfl rfl 3 (by decide) (hg _ wd_100) (fun _ h9 => h9) rfl md_K_row_29 ?_
            refine lv_iload_n hx hb md_K_row_32 rfl (lv_at hl 1 rfl) ?_
            have hPc10 := hP.sub (ws' := [(tA, .inr (2, [.ref tL, .ref tN, .ref tS, .int (nI tz)])), (tL, .inl (cC, 16, .inl tl)), (tN, .inl (cI, 96, .inl tn)), (tS, .inl (cI, 16, .inl ts))]) [1, 2, 3, 4] rfl
            refine pu_i (W.runV (As := [.int row]) (rest := [.int k]) ⟨hx, hb, hml, hown, hg⟩ (ct_T_letter l dC dI cC cI cJ tA tL tN tS tl tn ts (nI tz) row hrow hch) (gw_cwV hg wd_271 mv_T_letter rfl rfl ⟨Nat.le_of_ble_eq_true rfl, Nat.le_of_ble_eq_true rfl⟩) (pu_preV (ci := 2) (q0 := 0) pu_blT hK hPc10 pu_e1 rfl rfl) rfl rfl hl.1 rfl (lv_room (Nat.le_of_ble_eq_true rfl)) md_K_row_33 ⟨Nat.zero_le _, Nat.zero_le _⟩) ?_
            have hPc11 := hP.sub (ws' := []) [] rfl
            refine pu_i (W.runS (As := [.int (fT_letter tl row)]) (rest := [.int k]) ⟨hx, hb, hml, hown, hg⟩ (ct_K_numbersBehind l dC dI cC cI cJ (fT_letter tl row)) (gw_cwS hg wd_275 mv_K_numbersBehind rfl rfl ⟨Nat.le_of_ble_eq_true rfl, Nat.le_of_ble_eq_true rfl⟩) (pu_preS pu_blT hK hPc11 pu_e1) rfl rfl hl.1 rfl (lv_room (Nat.le_of_ble_eq_true rfl)) md_K_row_36 ⟨Nat.zero_le _, Nat.zero_le _⟩) ?_
            refine lv_icmp_lt (tgt := 52) hx hb md_K_row_39 (by decide) (fun c12 => ?_) (fun c12 => ?_)
            · have hki := nx_rk hrn c9 c12
              refine lv_aload_n hx hb md_K_row_52 rfl (lv_at hl 0 rfl) ?_
              refine va_get (D := (dC, dI)) (ci := 4) (v := .ref tA) (C := mR_K) (T := mT_K) (N := 5) hx hb hg gu_K hown hK hP 0 rfl rfl 3 (by decide) (hg _ wd_100) (fun _ h9 => h9) rfl md_K_row_53 ?_
              refine lv_iload_n hx hb md_K_row_56 rfl (lv_at hl 1 rfl) ?_
              refine lv_iload_n hx hb md_K_row_57 rfl (lv_at hl 2 rfl) ?_
              have hPc13 := hP.sub (ws' := [(tA, .inr (2, [.ref tL, .ref tN, .ref tS, .int (nI tz)])), (tL, .inl (cC, 16, .inl tl)), (tN, .inl (cI, 96, .inl tn)), (tS, .inl (cI, 16, .inl ts))]) [1, 2, 3, 4] rfl
              refine pu_i (W.runV (As := [.int row, .int k]) (rest := []) ⟨hx, hb, hml, hown, hg⟩ (ct_T_number l dC dI cC cI cJ tA tL tN tS tl tn ts (nI tz) row k hki) (gw_cwV hg wd_277 mv_T_number rfl rfl ⟨Nat.le_of_ble_eq_true rfl, Nat.le_of_ble_eq_true rfl⟩) (pu_preV (ci := 2) (q0 := 0) pu_blT hK hPc13 pu_e1 rfl rfl) rfl rfl hl.1 rfl (lv_room (Nat.le_of_ble_eq_true rfl)) md_K_row_58 ⟨Nat.zero_le _, Nat.zero_le _⟩) ?_
              exact vx_ret (W.widen (k := 1) (n := 6) (Nat.zero_le _) (Nat.zero_le _) (W.iret (v := fT_number tn row k) hx hb hr (fun t ht hW => ⟨⟨fT_number tn row k, (), rfl, (by rw [xK_row, if_neg c1, if_neg c4, if_pos c6, if_neg c8, if_neg c9, if_pos c12]), trivial⟩, vf_0 ht⟩) (fun q hq => by cases hq) md_K_row_61 hlocks))
            · exact vx_throwS (names := xn_R) hx hb hl9 hown (by decide +kernel) (by decide +kernel) (hg _ wd_255) (hg _ wd_11) (ak_68 hE.1) (xa_IOB hg hE) xo_IOB (vx_Zq.narrow hE.1.2.1.1 (fun _ h => h.elim)) (vx_Zq.narrow hE.1.2.1.2 (fun _ h => h.elim)) (A := fun _ => False) (va_S.rf) (hl.1.trans hml.symm) md_K_row_42 md_K_row_45 md_K_row_46 md_K_row_48 md_K_row_51 (fun x h => (hne x h).elim) (Nat.le_of_ble_eq_true rfl) (Nat.le_of_ble_eq_true rfl) (Nat.le_of_ble_eq_true rfl) (Nat.le_of_ble_eq_true rfl) hlocks (fun t hal hz hk => ⟨(), trivial, (by rw [xK_row, if_neg c1, if_neg c4, if_pos c6, if_neg c8, if_neg c9, if_neg c12]), hz, fun q h1 _ => hk q h1⟩) (fun z hz => by cases hz) (Nat.le_refl _) (Nat.le_refl _)
        · refine lv_aload_n hx hb md_K_row_14 rfl (lv_at hl 0 rfl) ?_
          refine va_get (D := (dC, dI)) (ci := 4) (v := .ref tA) (C := mR_K) (T := mT_K) (N := 5) hx hb hg gu_K hown hK hP 0 rfl rfl 3 (by decide) (hg _ wd_100) (fun _ h9 => h9) rfl md_K_row_15 ?_
          refine lv_iload_n hx hb md_K_row_18 rfl (lv_at hl 1 rfl) ?_
          have hPc14 := hP.sub (ws' := [(tA, .inr (2, [.ref tL, .ref tN, .ref tS, .int (nI tz)])), (tL, .inl (cC, 16, .inl tl)), (tN, .inl (cI, 96, .inl tn)), (tS, .inl (cI, 16, .inl ts))]) [1, 2, 3, 4] rfl
          refine pu_i (W.runV (As := [.int row]) (rest := []) ⟨hx, hb, hml, hown, hg⟩ (ct_T_letter l dC dI cC cI cJ tA tL tN tS tl tn ts (nI tz) row hrow hch) (gw_cwV hg wd_271 mv_T_letter rfl rfl ⟨Nat.le_of_ble_eq_true rfl, Nat.le_of_ble_eq_true rfl⟩) (pu_preV (ci := 2) (q0 := 0) pu_blT hK hPc14 pu_e1 rfl rfl) rfl rfl hl.1 rfl (lv_room (Nat.le_of_ble_eq_true rfl)) md_K_row_19 ⟨Nat.zero_le _, Nat.zero_le _⟩) ?_
          exact vx_ret (W.widen (k := 1) (n := 6) (Nat.zero_le _) (Nat.zero_le _) (W.iret (v := fT_letter tl row) hx hb hr (fun t ht hW => ⟨⟨fT_letter tl row, (), rfl, (by rw [xK_row, if_neg c1, if_neg c4, if_pos c6, if_pos c8]), trivial⟩, vf_0 ht⟩) (fun q hq => by cases hq) md_K_row_22 hlocks))
      · have hPc15 := hP.sub (ws' := [(kA, .inr (4, [.ref xA, .ref dA, .ref oA, .ref tA, .ref uA])), (tA, .inr (2, [.ref tL, .ref tN, .ref tS, .int (nI tz)])), (tL, .inl (cC, 16, .inl tl)), (tN, .inl (cI, 96, .inl tn)), (tS, .inl (cI, 16, .inl ts))]) [0, 1, 2, 3, 4] rfl
        refine vx_callv (vx_runV (As := [.int row]) (rest := []) ⟨hx, hb, hml, hown, hg⟩ (cx_K_needRow l dC dI cC cI cJ kA xA dA oA uA tA tL tN tS tl tn ts tz row t1 t2 qs hl9) (gw_cwV hg wd_251 mv_K_needRow rfl rfl ⟨Nat.le_of_ble_eq_true rfl, Nat.le_of_ble_eq_true rfl⟩) (pu_preV (ci := 4) (q0 := 0) am_X_bl hK hPc15 (pu_e0 am_X_bl hE) rfl rfl) rfl rfl hl.1 rfl (lv_room (Nat.le_of_ble_eq_true rfl)) md_K_row_6 ⟨Nat.le_of_ble_eq_true rfl, Nat.le_of_ble_eq_true rfl⟩) (va_S.rf (A := fun _ => False)) (fun _ _ h => h.elim) (fun _ h => h.elim) (fun _ _ h => h.elim) (fun E ce q9 u9 t9 H1 locs1 ht hal hpx hBX hz hk hS1 hcell hcv hcl => ?_) (fun u9 t9 H1 locs1 ht hal hpost hB hz hk hS1 => ?_)
        · have hBX : xK_needRow tz row = .error E := hBX
          have hEe : E = "java/lang/IndexOutOfBoundsException" := by rw [xK_needRow, if_neg c4, if_neg c6] at hBX; exact (Except.error.inj hBX).symm
          subst hEe
          exact vx_out (fun x h => (hne x h).elim) hlocks hcell hcv hcl (fun t ht2 _ => ⟨(), trivial, (by rw [xK_row, if_neg c1, if_neg c4, if_neg c6]), by rw [ht2]; exact hz, fun q h1 _ => by rw [ht2]; exact hk q h1 (fun h => h)⟩) (fun z hz2 => hS1.2.2 z hz2) (Nat.le_refl _) (Nat.le_refl _)
        · have hpost : xK_needRow tz row = .ok () := hpost
          rw [xK_needRow, if_neg c4, if_neg c6] at hpost
          cases hpost

def xK_stock (ts : Nat → Int32) (tz : Nat) (row : Int32) (n0 : Int32) : Except String (Int32 × (Nat → Int32)) := if (nI tz) = 0 then (.error "java/lang/IllegalStateException") else (if row < 0 then (.error "java/lang/IndexOutOfBoundsException") else (if row < (nI tz) then (if n0 < 0 then (.error "java/lang/IllegalArgumentException") else (if n0 ≤ 1000 then (.ok ((fT_changeStock ts row n0).1, (fT_changeStock ts row n0).2)) else (.error "java/lang/IllegalArgumentException"))) else (.error "java/lang/IndexOutOfBoundsException")))
set_option maxHeartbeats 1000000 in
set_option maxRecDepth 100000 in
theorem cx_K_stock (l : Launch) (dC : Nat → ClassId) (dI : Nat → Nat → Nat) (cC cI cJ : ClassId) (kA : Nat) (xA : Nat) (dA : Nat) (oA : Nat) (uA : Nat) (tA : Nat) (tL : Nat) (tN : Nat) (tS : Nat) (tl : Nat → Int32) (tn : Nat → Int32) (ts : Nat → Int32) (tz : Nat) (row : Int32) (n0 : Int32) (t1 t2 : Nat) (qs : Nat → Nat) (hl9 : l.stackTraces = false) (hz : tz ≤ 16) : vx_Met l my_K_stock (.code my_K_stock mb_K_stock 3 (some .boolean) :: gw_l) ({ frames := 7, cells := 1, slots := 6, locals := 151 }) (mu_Pc (dC, dI) mC [(cC, .char), (cI, .int), (cJ, .long)] [(kA, .inr (4, [.ref xA, .ref dA, .ref oA, .ref tA, .ref uA])), (tA, .inr (2, [.ref tL, .ref tN, .ref tS, .int (nI tz)])), (tL, .inl (cC, 16, .inl tl)), (tN, .inl (cI, 96, .inl tn)), (tS, .inl (cI, 16, .inl ts))] (am_X t1 t2 qs) [.ref kA, .int row, .int n0]) (va_Qi (fun (r : Int32) (u : (Nat → Int32)) => xK_stock ts tz row n0 = .ok (r, u)) (fun u t => va_P (dC, dI) mC [(kA, .inr (4, [.ref xA, .ref dA, .ref oA, .ref tA, .ref uA])), (tA, .inr (2, [.ref tL, .ref tN, .ref tS, .int (nI tz)])), (tL, .inl (cC, 16, .inl tl)), (tN, .inl (cI, 96, .inl tn)), (tS, .inl (cI, 16, .inl u))] t.heap) (mu_A [(kA, .inr (4, [.ref xA, .ref dA, .ref oA, .ref tA, .ref uA])), (tA, .inr (2, [.ref tL, .ref tN, .ref tS, .int (nI tz)])), (tL, .inl (cC, 16, .inl tl)), (tN, .inl (cI, 96, .inl tn)), (tS, .inl (cI, 16, .inl ts))])) (vx_X (fun _ : Unit => True) (fun E _ _ => xK_stock ts tz row n0 = .error E) (fun _ => False)) 1 6 (mu_A [(kA, .inr (4, [.ref xA, .ref dA, .ref oA, .ref tA, .ref uA])), (tA, .inr (2, [.ref tL, .ref tN, .ref tS, .int (nI tz)])), (tL, .inl (cC, 16, .inl tl)), (tN, .inl (cI, 96, .inl tn)), (tS, .inl (cI, 16, .inl ts))]) := by
  refine vx_ofW (cc := mb_K_stock) (maxL := 3) (ret := (some .boolean)) (by decide) rfl ?_
  intro p e s m args below meth c s₁ B hml hne hv
  obtain ⟨rfl, hP, hK, hD0, hE⟩ := hv
  have hx := B.exec
  have hb := B.bytes
  have hr := B.returns
  have hts := atoms_spec (ws := (.code my_K_stock mb_K_stock 3 (some .boolean) :: gw_l)) B.pre
  have hg : ∀ w ∈ gw_l, w.before _ s = true := fun w h => hts w (List.mem_cons_of_mem _ h)
  have hown : s.vm.findClass mR_K = some m.cls := findClass_of_methodNamed B.named
  have hlocks := B.notSynchronized
  have hD := mu_self hD0
  have hS : va_S (mu_A [(kA, .inr (4, [.ref xA, .ref dA, .ref oA, .ref tA, .ref uA])), (tA, .inr (2, [.ref tL, .ref tN, .ref tS, .int (nI tz)])), (tL, .inl (cC, 16, .inl tl)), (tN, .inl (cI, 96, .inl tn)), (tS, .inl (cI, 16, .inl ts))]) s.heap s.heap [] := va_S.rf
  generalize hAe : mu_A [(kA, .inr (4, [.ref xA, .ref dA, .ref oA, .ref tA, .ref uA])), (tA, .inr (2, [.ref tL, .ref tN, .ref tS, .int (nI tz)])), (tL, .inl (cC, 16, .inl tl)), (tN, .inl (cI, 96, .inl tn)), (tS, .inl (cI, 16, .inl ts))] = A at hD hS ⊢
  have hl := lv_entry ([.ref kA, .int row, .int n0]) (n := 3) (Nat.le_of_ble_eq_true rfl)
  rw [lg_entry_eq]
  generalize (lg_sl ([.ref kA, .int row, .int n0]) ++ List.replicate (3 - (lg_sl ([.ref kA, .int row, .int n0])).length) Slot.unset).toArray = ls at hl ⊢
  have hl : lv_has ls 3 [(0, .ref kA), (1, .int row), (2, .int n0)] := hl
  refine lv_aload_n hx hb md_K_stock_0 rfl (lv_at hl 0 rfl) ?_
  by_cases c1 : (nI tz) = 0
  · have hPc2 := hP.sub (ws' := [(kA, .inr (4, [.ref xA, .ref dA, .ref oA, .ref tA, .ref uA])), (tA, .inr (2, [.ref tL, .ref tN, .ref tS, .int (nI tz)])), (tL, .inl (cC, 16, .inl tl)), (tN, .inl (cI, 96, .inl tn)), (tS, .inl (cI, 16, .inl ts))]) [0, 1, 2, 3, 4] rfl
    refine vx_callv (vx_runV (As := []) (rest := []) ⟨hx, hb, hml, hown, hg⟩ (cx_K_needTable l dC dI cC cI cJ kA xA dA oA uA tA tL tN tS tl tn ts tz t1 t2 qs hl9) (gw_cwV hg wd_179 mv_K_needTable rfl rfl ⟨Nat.le_of_ble_eq_true rfl, Nat.le_of_ble_eq_true rfl⟩) (pu_preV (ci := 4) (q0 := 0) am_X_bl hK hPc2 (pu_e0 am_X_bl hE) rfl rfl) rfl rfl hl.1 rfl (lv_room (Nat.le_of_ble_eq_true rfl)) md_K_stock_1 ⟨Nat.le_of_ble_eq_true rfl, Nat.le_of_ble_eq_true rfl⟩) hS (fun _ _ h => h.elim) (fun _ h => h.elim) (fun _ _ h => h.elim) (fun E ce q9 u9 t9 H1 locs1 ht hal hpx hBX hz hk hS1 hcell hcv hcl => ?_) (fun u9 t9 H1 locs1 ht hal hpost hB hz hk hS1 => ?_)
    · have hBX : xK_needTable tz = .error E := hBX
      have hEe : E = "java/lang/IllegalStateException" := by rw [xK_needTable, if_pos c1] at hBX; exact (Except.error.inj hBX).symm
      subst hEe
      exact vx_out (fun x h => (hne x h).elim) hlocks hcell hcv hcl (fun t ht2 _ => ⟨(), trivial, (by rw [xK_stock, if_pos c1]), by rw [ht2]; exact hz, fun q h1 _ => by rw [ht2]; exact hk q h1 (fun h => h)⟩) (fun z hz2 => hS1.2.2 z hz2) (Nat.le_refl _) (Nat.le_refl _)
    · have hpost : xK_needTable tz = .ok () := hpost
      rw [xK_needTable, if_pos c1] at hpost
      cases hpost
  · have hPc3 := hP.sub (ws' := [(kA, .inr (4, [.ref xA, .ref dA, .ref oA, .ref tA, .ref uA])), (tA, .inr (2, [.ref tL, .ref tN, .ref tS, .int (nI tz)])), (tL, .inl (cC, 16, .inl tl)), (tN, .inl (cI, 96, .inl tn)), (tS, .inl (cI, 16, .inl ts))]) [0, 1, 2, 3, 4] rfl
    refine pu_v (W.runV (As := []) (rest := []) ⟨hx, hb, hml, hown, hg⟩ (ct_K_needTable l dC dI cC cI cJ kA xA dA oA uA tA tL tN tS tl tn ts tz t1 t2 qs (by rw [xK_needTable, if_neg c1])) (gw_cwV hg wd_179 mv_K_needTable rfl rfl ⟨Nat.le_of_ble_eq_true rfl, Nat.le_of_ble_eq_true rfl⟩) (pu_preV (ci := 4) (q0 := 0) am_X_bl hK hPc3 (pu_e0 am_X_bl hE) rfl rfl) rfl rfl hl.1 rfl (lv_room (Nat.le_of_ble_eq_true rfl)) md_K_stock_1 ⟨Nat.zero_le _, Nat.zero_le _⟩) ?_
    refine lv_aload_n hx hb md_K_stock_4 rfl (lv_at hl 0 rfl) ?_
    refine lv_iload_n hx hb md_K_stock_5 rfl (lv_at hl 1 rfl) ?_
    by_cases c4 : row < 0
    · have hPc5 := hP.sub (ws' := [(kA, .inr (4, [.ref xA, .ref dA, .ref oA, .ref tA, .ref uA])), (tA, .inr (2, [.ref tL, .ref tN, .ref tS, .int (nI tz)])), (tL, .inl (cC, 16, .inl tl)), (tN, .inl (cI, 96, .inl tn)), (tS, .inl (cI, 16, .inl ts))]) [0, 1, 2, 3, 4] rfl
      refine vx_callv (vx_runV (As := [.int row]) (rest := []) ⟨hx, hb, hml, hown, hg⟩ (cx_K_needRow l dC dI cC cI cJ kA xA dA oA uA tA tL tN tS tl tn ts tz row t1 t2 qs hl9) (gw_cwV hg wd_251 mv_K_needRow rfl rfl ⟨Nat.le_of_ble_eq_true rfl, Nat.le_of_ble_eq_true rfl⟩) (pu_preV (ci := 4) (q0 := 0) am_X_bl hK hPc5 (pu_e0 am_X_bl hE) rfl rfl) rfl rfl hl.1 rfl (lv_room (Nat.le_of_ble_eq_true rfl)) md_K_stock_6 ⟨Nat.le_of_ble_eq_true rfl, Nat.le_of_ble_eq_true rfl⟩) hS (fun _ _ h => h.elim) (fun _ h => h.elim) (fun _ _ h => h.elim) (fun E ce q9 u9 t9 H1 locs1 ht hal hpx hBX hz hk hS1 hcell hcv hcl => ?_) (fun u9 t9 H1 locs1 ht hal hpost hB hz hk hS1 => ?_)
      · have hBX : xK_needRow tz row = .error E := hBX
        have hEe : E = "java/lang/IndexOutOfBoundsException" := by rw [xK_needRow, if_pos c4] at hBX; exact (Except.error.inj hBX).symm
        subst hEe
        exact vx_out (fun x h => (hne x h).elim) hlocks hcell hcv hcl (fun t ht2 _ => ⟨(), trivial, (by rw [xK_stock, if_neg c1, if_pos c4]), by rw [ht2]; exact hz, fun q h1 _ => by rw [ht2]; exact hk q h1 (fun h => h)⟩) (fun z hz2 => hS1.2.2 z hz2) (Nat.le_refl _) (Nat.le_refl _)
      · have hpost : xK_needRow tz row = .ok () := hpost
        rw [xK_needRow, if_pos c4] at hpost
        cases hpost
    · by_cases c6 : row < (nI tz)
      · have hPc7 := hP.sub (ws' := [(kA, .inr (4, [.ref xA, .ref dA, .ref oA, .ref tA, .ref uA])), (tA, .inr (2, [.ref tL, .ref tN, .ref tS, .int (nI tz)])), (tL, .inl (cC, 16, .inl tl)), (tN, .inl (cI, 96, .inl tn)), (tS, .inl (cI, 16, .inl ts))]) [0, 1, 2, 3, 4] rfl
        refine pu_v (W.runV (As := [.int row]) (rest := []) ⟨hx, hb, hml, hown, hg⟩ (ct_K_needRow l dC dI cC cI cJ kA xA dA oA uA tA tL tN tS tl tn ts tz row t1 t2 qs (by rw [xK_needRow, if_neg c4, if_pos c6])) (gw_cwV hg wd_251 mv_K_needRow rfl rfl ⟨Nat.le_of_ble_eq_true rfl, Nat.le_of_ble_eq_true rfl⟩) (pu_preV (ci := 4) (q0 := 0) am_X_bl hK hPc7 (pu_e0 am_X_bl hE) rfl rfl) rfl rfl hl.1 rfl (lv_room (Nat.le_of_ble_eq_true rfl)) md_K_stock_6 ⟨Nat.zero_le _, Nat.zero_le _⟩) ?_
        have hrow : vp_in row 16 := nx_r16 hz c4 c6
        have hrn := nx_rn hz c4 c6
        refine lv_iload_n hx hb md_K_stock_9 rfl (lv_at hl 2 rfl) ?_
        refine lv_if_lt (tgt := 20) hx hb md_K_stock_10 (by decide) (fun c8 => ?_) (fun c8 => ?_)
        · exact vx_throwS (names := xn_R) hx hb hl9 hown (by decide +kernel) (by decide +kernel) (hg _ wd_286) (hg _ wd_12) (ak_79 hE.1) (xa_IAE hg hE) xo_IAE (vx_Zq.narrow hE.1.2.1.1 (fun _ h => h.elim)) (vx_Zq.narrow hE.1.2.1.2 (fun _ h => h.elim)) (A := fun _ => False) (va_S.rf) (hl.1.trans hml.symm) md_K_stock_20 md_K_stock_23 md_K_stock_24 md_K_stock_26 md_K_stock_29 (fun x h => (hne x h).elim) (Nat.le_of_ble_eq_true rfl) (Nat.le_of_ble_eq_true rfl) (Nat.le_of_ble_eq_true rfl) (Nat.le_of_ble_eq_true rfl) hlocks (fun t hal hz hk => ⟨(), trivial, (by rw [xK_stock, if_neg c1, if_neg c4, if_pos c6, if_pos c8]), hz, fun q h1 _ => hk q h1⟩) (fun z hz => by cases hz) (Nat.le_refl _) (Nat.le_refl _)
        · refine lv_iload_n hx hb md_K_stock_13 rfl (lv_at hl 2 rfl) ?_
          refine lv_sipush (v := 1000) hx hb md_K_stock_14 (by decide) ?_
          refine lv_icmp_le (tgt := 30) hx hb md_K_stock_17 (by decide) (fun c9 => ?_) (fun c9 => ?_)
          · refine lv_aload_n hx hb md_K_stock_30 rfl (lv_at hl 0 rfl) ?_
            refine va_get (D := (dC, dI)) (ci := 4) (v := .ref tA) (C := mR_K) (T := mT_K) (N := 5) hx hb hg gu_K hown hK hP 0 rfl rfl 3 (by decide) (hg _ wd_100) (fun _ h9 => h9) rfl md_K_stock_31 ?_
            refine lv_iload_n hx hb md_K_stock_34 rfl (lv_at hl 1 rfl) ?_
            refine lv_iload_n hx hb md_K_stock_35 rfl (lv_at hl 2 rfl) ?_
            have hPc10 := hP.sub (ws' := [(tA, .inr (2, [.ref tL, .ref tN, .ref tS, .int (nI tz)])), (tL, .inl (cC, 16, .inl tl)), (tN, .inl (cI, 96, .inl tn)), (tS, .inl (cI, 16, .inl ts))]) [1, 2, 3, 4] rfl
            have hDc11 := hD.sub (ws' := [(tA, .inr (2, [.ref tL, .ref tN, .ref tS, .int (nI tz)])), (tL, .inl (cC, 16, .inl tl)), (tN, .inl (cI, 96, .inl tn)), (tS, .inl (cI, 16, .inl ts))]) [1, 2, 3, 4] (by decide) rfl
            have hFc12 := mu_free (wc := [(tA, .inr (2, [.ref tL, .ref tN, .ref tS, .int (nI tz)])), (tL, .inl (cC, 16, .inl tl)), (tN, .inl (cI, 96, .inl tn)), (tS, .inl (cI, 16, .inl ts))]) hD [1, 2, 3, 4] rfl
            refine va_calli (va_runV (As := [.int row, .int n0]) (rest := []) ⟨hx, hb, hml, hown, hg⟩ (ct_T_changeStock l dC dI cC cI cJ tA tL tN tS tl tn ts (nI tz) row n0 hrow) (gw_cwV hg wd_302 mv_T_changeStock rfl rfl ⟨Nat.le_of_ble_eq_true rfl, Nat.le_of_ble_eq_true rfl⟩) (mu_preV (ci := 2) (q0 := 0) pu_blT hK hPc10 hDc11 pu_e1 rfl rfl) rfl rfl hl.1 rfl (lv_room (Nat.le_of_ble_eq_true rfl)) md_K_stock_36 ⟨Nat.zero_le _, Nat.zero_le _⟩) hS (fun q _ h => hFc12 q h) hFc12 (fun r9 u9 t9 H locs ht hvm hw hB hz1 hk1 hS => ?_)
            have hw : (r9, u9) = (fT_changeStock ts row n0) := hw
            have er : r9 = (fT_changeStock ts row n0).1 := by rw [← hw]
            have hw : u9 = (fT_changeStock ts row n0).2 := by rw [← hw]
            subst hw
            subst er
            have hB : va_P (dC, dI) mC [(tA, .inr (2, [.ref tL, .ref tN, .ref tS, .int (nI tz)])), (tL, .inl (cC, 16, .inl tl)), (tN, .inl (cI, 96, .inl tn)), (tS, .inl (cI, 16, .inl ((fT_changeStock ts row n0).2)))] H := by rw [← ht]; exact hB
            have hP := mu_join (ws' := [(kA, .inr (4, [.ref xA, .ref dA, .ref oA, .ref tA, .ref uA])), (tA, .inr (2, [.ref tL, .ref tN, .ref tS, .int (nI tz)])), (tL, .inl (cC, 16, .inl tl)), (tN, .inl (cI, 96, .inl tn)), (tS, .inl (cI, 16, .inl ((fT_changeStock ts row n0).2)))]) hP hD [1, 2, 3, 4] [.inr 0, .inl 0, .inl 1, .inl 2, .inl 3] rfl rfl rfl hk1 hB
            have hD : va_D A [(kA, .inr (4, [.ref xA, .ref dA, .ref oA, .ref tA, .ref uA])), (tA, .inr (2, [.ref tL, .ref tN, .ref tS, .int (nI tz)])), (tL, .inl (cC, 16, .inl tl)), (tN, .inl (cI, 96, .inl tn)), (tS, .inl (cI, 16, .inl ((fT_changeStock ts row n0).2)))] := mu_D (ws := [(kA, .inr (4, [.ref xA, .ref dA, .ref oA, .ref tA, .ref uA])), (tA, .inr (2, [.ref tL, .ref tN, .ref tS, .int (nI tz)])), (tL, .inl (cC, 16, .inl tl)), (tN, .inl (cI, 96, .inl tn)), (tS, .inl (cI, 16, .inl ts))]) rfl hD
            exact vx_ret (W.widen (k := 1) (n := 6) (Nat.zero_le _) (Nat.zero_le _) (W.zret (v := (fT_changeStock ts row n0).1) hx hb hr (zT_changeStock _ _ _) (fun t ht hW => ⟨⟨(fT_changeStock ts row n0).1, ((fT_changeStock ts row n0).2), rfl, (by rw [xK_stock, if_neg c1, if_neg c4, if_pos c6, if_neg c8, if_pos c9]), by have h9 := hP; rw [← ht] at h9; exact h9⟩, hS.F ht⟩) hS.2.2 md_K_stock_39 hlocks))
          · exact vx_throwS (names := xn_R) hx hb hl9 hown (by decide +kernel) (by decide +kernel) (hg _ wd_286) (hg _ wd_12) (ak_79 hE.1) (xa_IAE hg hE) xo_IAE (vx_Zq.narrow hE.1.2.1.1 (fun _ h => h.elim)) (vx_Zq.narrow hE.1.2.1.2 (fun _ h => h.elim)) (A := fun _ => False) (va_S.rf) (hl.1.trans hml.symm) md_K_stock_20 md_K_stock_23 md_K_stock_24 md_K_stock_26 md_K_stock_29 (fun x h => (hne x h).elim) (Nat.le_of_ble_eq_true rfl) (Nat.le_of_ble_eq_true rfl) (Nat.le_of_ble_eq_true rfl) (Nat.le_of_ble_eq_true rfl) hlocks (fun t hal hz hk => ⟨(), trivial, (by rw [xK_stock, if_neg c1, if_neg c4, if_pos c6, if_neg c8, if_neg c9]), hz, fun q h1 _ => hk q h1⟩) (fun z hz => by cases hz) (Nat.le_refl _) (Nat.le_refl _)
      · have hPc13 := hP.sub (ws' := [(kA, .inr (4, [.ref xA, .ref dA, .ref oA, .ref tA, .ref uA])), (tA, .inr (2, [.ref tL, .ref tN, .ref tS, .int (nI tz)])), (tL, .inl (cC, 16, .inl tl)), (tN, .inl (cI, 96, .inl tn)), (tS, .inl (cI, 16, .inl ts))]) [0, 1, 2, 3, 4] rfl
        refine vx_callv (vx_runV (As := [.int row]) (rest := []) ⟨hx, hb, hml, hown, hg⟩ (cx_K_needRow l dC dI cC cI cJ kA xA dA oA uA tA tL tN tS tl tn ts tz row t1 t2 qs hl9) (gw_cwV hg wd_251 mv_K_needRow rfl rfl ⟨Nat.le_of_ble_eq_true rfl, Nat.le_of_ble_eq_true rfl⟩) (pu_preV (ci := 4) (q0 := 0) am_X_bl hK hPc13 (pu_e0 am_X_bl hE) rfl rfl) rfl rfl hl.1 rfl (lv_room (Nat.le_of_ble_eq_true rfl)) md_K_stock_6 ⟨Nat.le_of_ble_eq_true rfl, Nat.le_of_ble_eq_true rfl⟩) hS (fun _ _ h => h.elim) (fun _ h => h.elim) (fun _ _ h => h.elim) (fun E ce q9 u9 t9 H1 locs1 ht hal hpx hBX hz hk hS1 hcell hcv hcl => ?_) (fun u9 t9 H1 locs1 ht hal hpost hB hz hk hS1 => ?_)
        · have hBX : xK_needRow tz row = .error E := hBX
          have hEe : E = "java/lang/IndexOutOfBoundsException" := by rw [xK_needRow, if_neg c4, if_neg c6] at hBX; exact (Except.error.inj hBX).symm
          subst hEe
          exact vx_out (fun x h => (hne x h).elim) hlocks hcell hcv hcl (fun t ht2 _ => ⟨(), trivial, (by rw [xK_stock, if_neg c1, if_neg c4, if_neg c6]), by rw [ht2]; exact hz, fun q h1 _ => by rw [ht2]; exact hk q h1 (fun h => h)⟩) (fun z hz2 => hS1.2.2 z hz2) (Nat.le_refl _) (Nat.le_refl _)
        · have hpost : xK_needRow tz row = .ok () := hpost
          rw [xK_needRow, if_neg c4, if_neg c6] at hpost
          cases hpost

def xK_hinge (tl : Nat → Int32) (tn : Nat → Int32) (ts : Nat → Int32) (tz : Nat) (overlay : Int64) (thick : Int64) (angle : Int32) : Except String Int32 := if (nI tz) = 0 then (.error "java/lang/IllegalStateException") else (.ok (fT_firstHinge tl tn ts tz overlay thick angle))
set_option maxHeartbeats 1000000 in
set_option maxRecDepth 100000 in
theorem cx_K_hinge (l : Launch) (dC : Nat → ClassId) (dI : Nat → Nat → Nat) (cC cI cJ : ClassId) (kA : Nat) (xA : Nat) (dA : Nat) (oA : Nat) (uA : Nat) (tA : Nat) (tL : Nat) (tN : Nat) (tS : Nat) (tl : Nat → Int32) (tn : Nat → Int32) (ts : Nat → Int32) (tz : Nat) (overlay : Int64) (thick : Int64) (angle : Int32) (t1 t2 : Nat) (qs : Nat → Nat) (hl9 : l.stackTraces = false) (hz : tz ≤ 16) : vx_Met l my_K_hinge (.code my_K_hinge mb_K_hinge 6 (some .int) :: gw_l) ({ frames := 7, cells := 1, slots := 6, locals := 150 }) (pu_Pc (dC, dI) mC [(cC, .char), (cI, .int), (cJ, .long)] [(kA, .inr (4, [.ref xA, .ref dA, .ref oA, .ref tA, .ref uA])), (tA, .inr (2, [.ref tL, .ref tN, .ref tS, .int (nI tz)])), (tL, .inl (cC, 16, .inl tl)), (tN, .inl (cI, 96, .inl tn)), (tS, .inl (cI, 16, .inl ts))] (am_X t1 t2 qs) [.ref kA, .long overlay, .long thick, .int angle]) (va_Qi (fun (r : Int32) (_ : Unit) => xK_hinge tl tn ts tz overlay thick angle = .ok r) (fun _ _ => True) (fun _ => False)) (vx_X (fun _ : Unit => True) (fun E _ _ => xK_hinge tl tn ts tz overlay thick angle = .error E) (fun _ => False)) 1 6 (fun _ => False) := by
  refine vx_ofW (cc := mb_K_hinge) (maxL := 6) (ret := (some .int)) (by decide) rfl ?_
  intro p e s m args below meth c s₁ B hml hne hv
  obtain ⟨rfl, hP, hK, hE⟩ := hv
  have hx := B.exec
  have hb := B.bytes
  have hr := B.returns
  have hts := atoms_spec (ws := (.code my_K_hinge mb_K_hinge 6 (some .int) :: gw_l)) B.pre
  have hg : ∀ w ∈ gw_l, w.before _ s = true := fun w h => hts w (List.mem_cons_of_mem _ h)
  have hown : s.vm.findClass mR_K = some m.cls := findClass_of_methodNamed B.named
  have hlocks := B.notSynchronized
  have hl := lv_entry ([.ref kA, .long overlay, .long thick, .int angle]) (n := 6) (Nat.le_of_ble_eq_true rfl)
  rw [lg_entry_eq]
  generalize (lg_sl ([.ref kA, .long overlay, .long thick, .int angle]) ++ List.replicate (6 - (lg_sl ([.ref kA, .long overlay, .long thick, .int angle])).length) Slot.unset).toArray = ls at hl ⊢
  have hl : lv_has ls 6 [(0, .ref kA), (1, .long overlay), (3, .long thick), (5, .int angle)] := hl
  refine lv_aload_n hx hb md_K_hinge_0 rfl (lv_at hl 0 rfl) ?_
  by_cases c1 : (nI tz) = 0
  · have hPc2 := hP.sub (ws' := [(kA, .inr (4, [.ref xA, .ref dA, .ref oA, .ref tA, .ref uA])), (tA, .inr (2, [.ref tL, .ref tN, .ref tS, .int (nI tz)])), (tL, .inl (cC, 16, .inl tl)), (tN, .inl (cI, 96, .inl tn)), (tS, .inl (cI, 16, .inl ts))]) [0, 1, 2, 3, 4] rfl
    refine vx_callv (vx_runV (As := []) (rest := []) ⟨hx, hb, hml, hown, hg⟩ (cx_K_needTable l dC dI cC cI cJ kA xA dA oA uA tA tL tN tS tl tn ts tz t1 t2 qs hl9) (gw_cwV hg wd_179 mv_K_needTable rfl rfl ⟨Nat.le_of_ble_eq_true rfl, Nat.le_of_ble_eq_true rfl⟩) (pu_preV (ci := 4) (q0 := 0) am_X_bl hK hPc2 (pu_e0 am_X_bl hE) rfl rfl) rfl rfl hl.1 rfl (lv_room (Nat.le_of_ble_eq_true rfl)) md_K_hinge_1 ⟨Nat.le_of_ble_eq_true rfl, Nat.le_of_ble_eq_true rfl⟩) (va_S.rf (A := fun _ => False)) (fun _ _ h => h.elim) (fun _ h => h.elim) (fun _ _ h => h.elim) (fun E ce q9 u9 t9 H1 locs1 ht hal hpx hBX hz hk hS1 hcell hcv hcl => ?_) (fun u9 t9 H1 locs1 ht hal hpost hB hz hk hS1 => ?_)
    · have hBX : xK_needTable tz = .error E := hBX
      have hEe : E = "java/lang/IllegalStateException" := by rw [xK_needTable, if_pos c1] at hBX; exact (Except.error.inj hBX).symm
      subst hEe
      exact vx_out (fun x h => (hne x h).elim) hlocks hcell hcv hcl (fun t ht2 _ => ⟨(), trivial, (by rw [xK_hinge, if_pos c1]), by rw [ht2]; exact hz, fun q h1 _ => by rw [ht2]; exact hk q h1 (fun h => h)⟩) (fun z hz2 => hS1.2.2 z hz2) (Nat.le_refl _) (Nat.le_refl _)
    · have hpost : xK_needTable tz = .ok () := hpost
      rw [xK_needTable, if_pos c1] at hpost
      cases hpost
  · have hPc3 := hP.sub (ws' := [(kA, .inr (4, [.ref xA, .ref dA, .ref oA, .ref tA, .ref uA])), (tA, .inr (2, [.ref tL, .ref tN, .ref tS, .int (nI tz)])), (tL, .inl (cC, 16, .inl tl)), (tN, .inl (cI, 96, .inl tn)), (tS, .inl (cI, 16, .inl ts))]) [0, 1, 2, 3, 4] rfl
    refine pu_v (W.runV (As := []) (rest := []) ⟨hx, hb, hml, hown, hg⟩ (ct_K_needTable l dC dI cC cI cJ kA xA dA oA uA tA tL tN tS tl tn ts tz t1 t2 qs (by rw [xK_needTable, if_neg c1])) (gw_cwV hg wd_179 mv_K_needTable rfl rfl ⟨Nat.le_of_ble_eq_true rfl, Nat.le_of_ble_eq_true rfl⟩) (pu_preV (ci := 4) (q0 := 0) am_X_bl hK hPc3 (pu_e0 am_X_bl hE) rfl rfl) rfl rfl hl.1 rfl (lv_room (Nat.le_of_ble_eq_true rfl)) md_K_hinge_1 ⟨Nat.zero_le _, Nat.zero_le _⟩) ?_
    refine lv_aload_n hx hb md_K_hinge_4 rfl (lv_at hl 0 rfl) ?_
    refine va_get (D := (dC, dI)) (ci := 4) (v := .ref tA) (C := mR_K) (T := mT_K) (N := 5) hx hb hg gu_K hown hK hP 0 rfl rfl 3 (by decide) (hg _ wd_100) (fun _ h9 => h9) rfl md_K_hinge_5 ?_
    refine lv_lload_n hx hb md_K_hinge_8 rfl (lv_at hl 1 rfl) ?_
    refine lv_lload_n hx hb md_K_hinge_9 rfl (lv_at hl 2 rfl) ?_
    refine lv_iload hx hb md_K_hinge_10 (lv_at hl 3 rfl) ?_
    have hPc4 := hP.sub (ws' := [(tA, .inr (2, [.ref tL, .ref tN, .ref tS, .int (nI tz)])), (tL, .inl (cC, 16, .inl tl)), (tN, .inl (cI, 96, .inl tn)), (tS, .inl (cI, 16, .inl ts))]) [1, 2, 3, 4] rfl
    refine pu_i (W.runV (As := [.long overlay, .long thick, .int angle]) (rest := []) ⟨hx, hb, hml, hown, hg⟩ (ct_T_firstHinge l dC dI cC cI cJ tA tL tN tS tl tn ts tz overlay thick angle hz) (gw_cwV hg wd_313 mv_T_firstHinge rfl rfl ⟨Nat.le_of_ble_eq_true rfl, Nat.le_of_ble_eq_true rfl⟩) (pu_preV (ci := 2) (q0 := 0) pu_blT hK hPc4 pu_e1 rfl rfl) rfl rfl hl.1 rfl (lv_room (Nat.le_of_ble_eq_true rfl)) md_K_hinge_12 ⟨Nat.zero_le _, Nat.zero_le _⟩) ?_
    exact vx_ret (W.widen (k := 1) (n := 6) (Nat.zero_le _) (Nat.zero_le _) (W.iret (v := fT_firstHinge tl tn ts tz overlay thick angle) hx hb hr (fun t ht hW => ⟨⟨fT_firstHinge tl tn ts tz overlay thick angle, (), rfl, (by rw [xK_hinge, if_neg c1]), trivial⟩, vf_0 ht⟩) (fun q hq => by cases hq) md_K_hinge_15 hlocks))

def xK_other (tl : Nat → Int32) (tn : Nat → Int32) (ts : Nat → Int32) (tz : Nat) (row : Int32) (k : Int32) : Except String Int32 := if (nI tz) = 0 then (.error "java/lang/IllegalStateException") else (if row < 0 then (.error "java/lang/IndexOutOfBoundsException") else (if row < (nI tz) then (if 0 ≤ k then (if (fT_letter tl row) = 104 then (.ok (fT_otherHinge tl tn ts tz row k)) else (.error "java/lang/IllegalArgumentException")) else (.error "java/lang/IndexOutOfBoundsException")) else (.error "java/lang/IndexOutOfBoundsException")))
set_option maxHeartbeats 1000000 in
set_option maxRecDepth 100000 in
theorem cx_K_other (l : Launch) (dC : Nat → ClassId) (dI : Nat → Nat → Nat) (cC cI cJ : ClassId) (kA : Nat) (xA : Nat) (dA : Nat) (oA : Nat) (uA : Nat) (tA : Nat) (tL : Nat) (tN : Nat) (tS : Nat) (tl : Nat → Int32) (tn : Nat → Int32) (ts : Nat → Int32) (tz : Nat) (row : Int32) (k : Int32) (t1 t2 : Nat) (qs : Nat → Nat) (hl9 : l.stackTraces = false) (hz : tz ≤ 16) (hch : ∀ j, narrow .char (.int (tl j)) = .int (tl j)) : vx_Met l my_K_other (.code my_K_other mb_K_other 3 (some .int) :: gw_l) ({ frames := 7, cells := 1, slots := 6, locals := 151 }) (pu_Pc (dC, dI) mC [(cC, .char), (cI, .int), (cJ, .long)] [(kA, .inr (4, [.ref xA, .ref dA, .ref oA, .ref tA, .ref uA])), (tA, .inr (2, [.ref tL, .ref tN, .ref tS, .int (nI tz)])), (tL, .inl (cC, 16, .inl tl)), (tN, .inl (cI, 96, .inl tn)), (tS, .inl (cI, 16, .inl ts))] (am_X t1 t2 qs) [.ref kA, .int row, .int k]) (va_Qi (fun (r : Int32) (_ : Unit) => xK_other tl tn ts tz row k = .ok r) (fun _ _ => True) (fun _ => False)) (vx_X (fun _ : Unit => True) (fun E _ _ => xK_other tl tn ts tz row k = .error E) (fun _ => False)) 1 6 (fun _ => False) := by
  refine vx_ofW (cc := mb_K_other) (maxL := 3) (ret := (some .int)) (by decide) rfl ?_
  intro p e s m args below meth c s₁ B hml hne hv
  obtain ⟨rfl, hP, hK, hE⟩ := hv
  have hx := B.exec
  have hb := B.bytes
  have hr := B.returns
  have hts := atoms_spec (ws := (.code my_K_other mb_K_other 3 (some .int) :: gw_l)) B.pre
  have hg : ∀ w ∈ gw_l, w.before _ s = true := fun w h => hts w (List.mem_cons_of_mem _ h)
  have hown : s.vm.findClass mR_K = some m.cls := findClass_of_methodNamed B.named
  have hlocks := B.notSynchronized
  have hl := lv_entry ([.ref kA, .int row, .int k]) (n := 3) (Nat.le_of_ble_eq_true rfl)
  rw [lg_entry_eq]
  generalize (lg_sl ([.ref kA, .int row, .int k]) ++ List.replicate (3 - (lg_sl ([.ref kA, .int row, .int k])).length) Slot.unset).toArray = ls at hl ⊢
  have hl : lv_has ls 3 [(0, .ref kA), (1, .int row), (2, .int k)] := hl
  refine lv_aload_n hx hb md_K_other_0 rfl (lv_at hl 0 rfl) ?_
  by_cases c1 : (nI tz) = 0
  · have hPc2 := hP.sub (ws' := [(kA, .inr (4, [.ref xA, .ref dA, .ref oA, .ref tA, .ref uA])), (tA, .inr (2, [.ref tL, .ref tN, .ref tS, .int (nI tz)])), (tL, .inl (cC, 16, .inl tl)), (tN, .inl (cI, 96, .inl tn)), (tS, .inl (cI, 16, .inl ts))]) [0, 1, 2, 3, 4] rfl
    refine vx_callv (vx_runV (As := []) (rest := []) ⟨hx, hb, hml, hown, hg⟩ (cx_K_needTable l dC dI cC cI cJ kA xA dA oA uA tA tL tN tS tl tn ts tz t1 t2 qs hl9) (gw_cwV hg wd_179 mv_K_needTable rfl rfl ⟨Nat.le_of_ble_eq_true rfl, Nat.le_of_ble_eq_true rfl⟩) (pu_preV (ci := 4) (q0 := 0) am_X_bl hK hPc2 (pu_e0 am_X_bl hE) rfl rfl) rfl rfl hl.1 rfl (lv_room (Nat.le_of_ble_eq_true rfl)) md_K_other_1 ⟨Nat.le_of_ble_eq_true rfl, Nat.le_of_ble_eq_true rfl⟩) (va_S.rf (A := fun _ => False)) (fun _ _ h => h.elim) (fun _ h => h.elim) (fun _ _ h => h.elim) (fun E ce q9 u9 t9 H1 locs1 ht hal hpx hBX hz hk hS1 hcell hcv hcl => ?_) (fun u9 t9 H1 locs1 ht hal hpost hB hz hk hS1 => ?_)
    · have hBX : xK_needTable tz = .error E := hBX
      have hEe : E = "java/lang/IllegalStateException" := by rw [xK_needTable, if_pos c1] at hBX; exact (Except.error.inj hBX).symm
      subst hEe
      exact vx_out (fun x h => (hne x h).elim) hlocks hcell hcv hcl (fun t ht2 _ => ⟨(), trivial, (by rw [xK_other, if_pos c1]), by rw [ht2]; exact hz, fun q h1 _ => by rw [ht2]; exact hk q h1 (fun h => h)⟩) (fun z hz2 => hS1.2.2 z hz2) (Nat.le_refl _) (Nat.le_refl _)
    · have hpost : xK_needTable tz = .ok () := hpost
      rw [xK_needTable, if_pos c1] at hpost
      cases hpost
  · have hPc3 := hP.sub (ws' := [(kA, .inr (4, [.ref xA, .ref dA, .ref oA, .ref tA, .ref uA])), (tA, .inr (2, [.ref tL, .ref tN, .ref tS, .int (nI tz)])), (tL, .inl (cC, 16, .inl tl)), (tN, .inl (cI, 96, .inl tn)), (tS, .inl (cI, 16, .inl ts))]) [0, 1, 2, 3, 4] rfl
    refine pu_v (W.runV (As := []) (rest := []) ⟨hx, hb, hml, hown, hg⟩ (ct_K_needTable l dC dI cC cI cJ kA xA dA oA uA tA tL tN tS tl tn ts tz t1 t2 qs (by rw [xK_needTable, if_neg c1])) (gw_cwV hg wd_179 mv_K_needTable rfl rfl ⟨Nat.le_of_ble_eq_true rfl, Nat.le_of_ble_eq_true rfl⟩) (pu_preV (ci := 4) (q0 := 0) am_X_bl hK hPc3 (pu_e0 am_X_bl hE) rfl rfl) rfl rfl hl.1 rfl (lv_room (Nat.le_of_ble_eq_true rfl)) md_K_other_1 ⟨Nat.zero_le _, Nat.zero_le _⟩) ?_
    refine lv_aload_n hx hb md_K_other_4 rfl (lv_at hl 0 rfl) ?_
    refine lv_iload_n hx hb md_K_other_5 rfl (lv_at hl 1 rfl) ?_
    by_cases c4 : row < 0
    · have hPc5 := hP.sub (ws' := [(kA, .inr (4, [.ref xA, .ref dA, .ref oA, .ref tA, .ref uA])), (tA, .inr (2, [.ref tL, .ref tN, .ref tS, .int (nI tz)])), (tL, .inl (cC, 16, .inl tl)), (tN, .inl (cI, 96, .inl tn)), (tS, .inl (cI, 16, .inl ts))]) [0, 1, 2, 3, 4] rfl
      refine vx_callv (vx_runV (As := [.int row]) (rest := []) ⟨hx, hb, hml, hown, hg⟩ (cx_K_needRow l dC dI cC cI cJ kA xA dA oA uA tA tL tN tS tl tn ts tz row t1 t2 qs hl9) (gw_cwV hg wd_251 mv_K_needRow rfl rfl ⟨Nat.le_of_ble_eq_true rfl, Nat.le_of_ble_eq_true rfl⟩) (pu_preV (ci := 4) (q0 := 0) am_X_bl hK hPc5 (pu_e0 am_X_bl hE) rfl rfl) rfl rfl hl.1 rfl (lv_room (Nat.le_of_ble_eq_true rfl)) md_K_other_6 ⟨Nat.le_of_ble_eq_true rfl, Nat.le_of_ble_eq_true rfl⟩) (va_S.rf (A := fun _ => False)) (fun _ _ h => h.elim) (fun _ h => h.elim) (fun _ _ h => h.elim) (fun E ce q9 u9 t9 H1 locs1 ht hal hpx hBX hz hk hS1 hcell hcv hcl => ?_) (fun u9 t9 H1 locs1 ht hal hpost hB hz hk hS1 => ?_)
      · have hBX : xK_needRow tz row = .error E := hBX
        have hEe : E = "java/lang/IndexOutOfBoundsException" := by rw [xK_needRow, if_pos c4] at hBX; exact (Except.error.inj hBX).symm
        subst hEe
        exact vx_out (fun x h => (hne x h).elim) hlocks hcell hcv hcl (fun t ht2 _ => ⟨(), trivial, (by rw [xK_other, if_neg c1, if_pos c4]), by rw [ht2]; exact hz, fun q h1 _ => by rw [ht2]; exact hk q h1 (fun h => h)⟩) (fun z hz2 => hS1.2.2 z hz2) (Nat.le_refl _) (Nat.le_refl _)
      · have hpost : xK_needRow tz row = .ok () := hpost
        rw [xK_needRow, if_pos c4] at hpost
        cases hpost
    · by_cases c6 : row < (nI tz)
      · have hPc7 := hP.sub (ws' := [(kA, .inr (4, [.ref xA, .ref dA, .ref oA, .ref tA, .ref uA])), (tA, .inr (2, [.ref tL, .ref tN, .ref tS, .int (nI tz)])), (tL, .inl (cC, 16, .inl tl)), (tN, .inl (cI, 96, .inl tn)), (tS, .inl (cI, 16, .inl ts))]) [0, 1, 2, 3, 4] rfl
        refine pu_v (W.runV (As := [.int row]) (rest := []) ⟨hx, hb, hml, hown, hg⟩ (ct_K_needRow l dC dI cC cI cJ kA xA dA oA uA tA tL tN tS tl tn ts tz row t1 t2 qs (by rw [xK_needRow, if_neg c4, if_pos c6])) (gw_cwV hg wd_251 mv_K_needRow rfl rfl ⟨Nat.le_of_ble_eq_true rfl, Nat.le_of_ble_eq_true rfl⟩) (pu_preV (ci := 4) (q0 := 0) am_X_bl hK hPc7 (pu_e0 am_X_bl hE) rfl rfl) rfl rfl hl.1 rfl (lv_room (Nat.le_of_ble_eq_true rfl)) md_K_other_6 ⟨Nat.zero_le _, Nat.zero_le _⟩) ?_
        have hrow : vp_in row 16 := nx_r16 hz c4 c6
        have hrn := nx_rn hz c4 c6
        refine lv_iload_n hx hb md_K_other_9 rfl (lv_at hl 2 rfl) ?_
        refine lv_if_ge (tgt := 23) hx hb md_K_other_10 (by decide) (fun c8 => ?_) (fun c8 => ?_)
        · refine lv_aload_n hx hb md_K_other_23 rfl (lv_at hl 0 rfl) ?_
          refine va_get (D := (dC, dI)) (ci := 4) (v := .ref tA) (C := mR_K) (T := mT_K) (N := 5) hx hb hg gu_K hown hK hP 0 rfl rfl 3 (by decide) (hg _ wd_100) (fun _ h9 => h9) rfl md_K_other_24 ?_
          refine lv_iload_n hx hb md_K_other_27 rfl (lv_at hl 1 rfl) ?_
          have hPc9 := hP.sub (ws' := [(tA, .inr (2, [.ref tL, .ref tN, .ref tS, .int (nI tz)])), (tL, .inl (cC, 16, .inl tl)), (tN, .inl (cI, 96, .inl tn)), (tS, .inl (cI, 16, .inl ts))]) [1, 2, 3, 4] rfl
          refine pu_i (W.runV (As := [.int row]) (rest := []) ⟨hx, hb, hml, hown, hg⟩ (ct_T_letter l dC dI cC cI cJ tA tL tN tS tl tn ts (nI tz) row hrow hch) (gw_cwV hg wd_271 mv_T_letter rfl rfl ⟨Nat.le_of_ble_eq_true rfl, Nat.le_of_ble_eq_true rfl⟩) (pu_preV (ci := 2) (q0 := 0) pu_blT hK hPc9 pu_e1 rfl rfl) rfl rfl hl.1 rfl (lv_room (Nat.le_of_ble_eq_true rfl)) md_K_other_28 ⟨Nat.zero_le _, Nat.zero_le _⟩) ?_
          refine lv_bipush (v := 104) hx hb md_K_other_31 (by decide) ?_
          refine lv_icmp_eq (tgt := 46) hx hb md_K_other_33 (by decide) (fun c10 => ?_) (fun c10 => ?_)
          · refine lv_aload_n hx hb md_K_other_46 rfl (lv_at hl 0 rfl) ?_
            refine va_get (D := (dC, dI)) (ci := 4) (v := .ref tA) (C := mR_K) (T := mT_K) (N := 5) hx hb hg gu_K hown hK hP 0 rfl rfl 3 (by decide) (hg _ wd_100) (fun _ h9 => h9) rfl md_K_other_47 ?_
            refine lv_iload_n hx hb md_K_other_50 rfl (lv_at hl 1 rfl) ?_
            refine lv_iload_n hx hb md_K_other_51 rfl (lv_at hl 2 rfl) ?_
            have hPc11 := hP.sub (ws' := [(tA, .inr (2, [.ref tL, .ref tN, .ref tS, .int (nI tz)])), (tL, .inl (cC, 16, .inl tl)), (tN, .inl (cI, 96, .inl tn)), (tS, .inl (cI, 16, .inl ts))]) [1, 2, 3, 4] rfl
            refine pu_i (W.runV (As := [.int row, .int k]) (rest := []) ⟨hx, hb, hml, hown, hg⟩ (ct_T_otherHinge l dC dI cC cI cJ tA tL tN tS tl tn ts tz row k hz hrn) (gw_cwV hg wd_334 mv_T_otherHinge rfl rfl ⟨Nat.le_of_ble_eq_true rfl, Nat.le_of_ble_eq_true rfl⟩) (pu_preV (ci := 2) (q0 := 0) pu_blT hK hPc11 pu_e1 rfl rfl) rfl rfl hl.1 rfl (lv_room (Nat.le_of_ble_eq_true rfl)) md_K_other_52 ⟨Nat.zero_le _, Nat.zero_le _⟩) ?_
            exact vx_ret (W.widen (k := 1) (n := 6) (Nat.zero_le _) (Nat.zero_le _) (W.iret (v := fT_otherHinge tl tn ts tz row k) hx hb hr (fun t ht hW => ⟨⟨fT_otherHinge tl tn ts tz row k, (), rfl, (by rw [xK_other, if_neg c1, if_neg c4, if_pos c6, if_pos c8, if_pos c10]), trivial⟩, vf_0 ht⟩) (fun q hq => by cases hq) md_K_other_55 hlocks))
          · exact vx_throwS (names := xn_R) hx hb hl9 hown (by decide +kernel) (by decide +kernel) (hg _ wd_286) (hg _ wd_12) (ak_92 hE.1) (xa_IAE hg hE) xo_IAE (vx_Zq.narrow hE.1.2.1.1 (fun _ h => h.elim)) (vx_Zq.narrow hE.1.2.1.2 (fun _ h => h.elim)) (A := fun _ => False) (va_S.rf) (hl.1.trans hml.symm) md_K_other_36 md_K_other_39 md_K_other_40 md_K_other_42 md_K_other_45 (fun x h => (hne x h).elim) (Nat.le_of_ble_eq_true rfl) (Nat.le_of_ble_eq_true rfl) (Nat.le_of_ble_eq_true rfl) (Nat.le_of_ble_eq_true rfl) hlocks (fun t hal hz hk => ⟨(), trivial, (by rw [xK_other, if_neg c1, if_neg c4, if_pos c6, if_pos c8, if_neg c10]), hz, fun q h1 _ => hk q h1⟩) (fun z hz => by cases hz) (Nat.le_refl _) (Nat.le_refl _)
        · exact vx_throwS (names := xn_R) hx hb hl9 hown (by decide +kernel) (by decide +kernel) (hg _ wd_255) (hg _ wd_11) (ak_90 hE.1) (xa_IOB hg hE) xo_IOB (vx_Zq.narrow hE.1.2.1.1 (fun _ h => h.elim)) (vx_Zq.narrow hE.1.2.1.2 (fun _ h => h.elim)) (A := fun _ => False) (va_S.rf) (hl.1.trans hml.symm) md_K_other_13 md_K_other_16 md_K_other_17 md_K_other_19 md_K_other_22 (fun x h => (hne x h).elim) (Nat.le_of_ble_eq_true rfl) (Nat.le_of_ble_eq_true rfl) (Nat.le_of_ble_eq_true rfl) (Nat.le_of_ble_eq_true rfl) hlocks (fun t hal hz hk => ⟨(), trivial, (by rw [xK_other, if_neg c1, if_neg c4, if_pos c6, if_neg c8]), hz, fun q h1 _ => hk q h1⟩) (fun z hz => by cases hz) (Nat.le_refl _) (Nat.le_refl _)
      · have hPc12 := hP.sub (ws' := [(kA, .inr (4, [.ref xA, .ref dA, .ref oA, .ref tA, .ref uA])), (tA, .inr (2, [.ref tL, .ref tN, .ref tS, .int (nI tz)])), (tL, .inl (cC, 16, .inl tl)), (tN, .inl (cI, 96, .inl tn)), (tS, .inl (cI, 16, .inl ts))]) [0, 1, 2, 3, 4] rfl
        refine vx_callv (vx_runV (As := [.int row]) (rest := []) ⟨hx, hb, hml, hown, hg⟩ (cx_K_needRow l dC dI cC cI cJ kA xA dA oA uA tA tL tN tS tl tn ts tz row t1 t2 qs hl9) (gw_cwV hg wd_251 mv_K_needRow rfl rfl ⟨Nat.le_of_ble_eq_true rfl, Nat.le_of_ble_eq_true rfl⟩) (pu_preV (ci := 4) (q0 := 0) am_X_bl hK hPc12 (pu_e0 am_X_bl hE) rfl rfl) rfl rfl hl.1 rfl (lv_room (Nat.le_of_ble_eq_true rfl)) md_K_other_6 ⟨Nat.le_of_ble_eq_true rfl, Nat.le_of_ble_eq_true rfl⟩) (va_S.rf (A := fun _ => False)) (fun _ _ h => h.elim) (fun _ h => h.elim) (fun _ _ h => h.elim) (fun E ce q9 u9 t9 H1 locs1 ht hal hpx hBX hz hk hS1 hcell hcv hcl => ?_) (fun u9 t9 H1 locs1 ht hal hpost hB hz hk hS1 => ?_)
        · have hBX : xK_needRow tz row = .error E := hBX
          have hEe : E = "java/lang/IndexOutOfBoundsException" := by rw [xK_needRow, if_neg c4, if_neg c6] at hBX; exact (Except.error.inj hBX).symm
          subst hEe
          exact vx_out (fun x h => (hne x h).elim) hlocks hcell hcv hcl (fun t ht2 _ => ⟨(), trivial, (by rw [xK_other, if_neg c1, if_neg c4, if_neg c6]), by rw [ht2]; exact hz, fun q h1 _ => by rw [ht2]; exact hk q h1 (fun h => h)⟩) (fun z hz2 => hS1.2.2 z hz2) (Nat.le_refl _) (Nat.le_refl _)
        · have hpost : xK_needRow tz row = .ok () := hpost
          rw [xK_needRow, if_neg c4, if_neg c6] at hpost
          cases hpost

def xK_slide (tl : Nat → Int32) (tn : Nat → Int32) (ts : Nat → Int32) (tz : Nat) (depth : Int64) : Except String Int32 := if (nI tz) = 0 then (.error "java/lang/IllegalStateException") else (.ok (fT_longestSlide tl tn ts tz depth))
set_option maxHeartbeats 1000000 in
set_option maxRecDepth 100000 in
theorem cx_K_slide (l : Launch) (dC : Nat → ClassId) (dI : Nat → Nat → Nat) (cC cI cJ : ClassId) (kA : Nat) (xA : Nat) (dA : Nat) (oA : Nat) (uA : Nat) (tA : Nat) (tL : Nat) (tN : Nat) (tS : Nat) (tl : Nat → Int32) (tn : Nat → Int32) (ts : Nat → Int32) (tz : Nat) (depth : Int64) (t1 t2 : Nat) (qs : Nat → Nat) (hl9 : l.stackTraces = false) (hz : tz ≤ 16) : vx_Met l my_K_slide (.code my_K_slide mb_K_slide 3 (some .int) :: gw_l) ({ frames := 7, cells := 1, slots := 6, locals := 150 }) (pu_Pc (dC, dI) mC [(cC, .char), (cI, .int), (cJ, .long)] [(kA, .inr (4, [.ref xA, .ref dA, .ref oA, .ref tA, .ref uA])), (tA, .inr (2, [.ref tL, .ref tN, .ref tS, .int (nI tz)])), (tL, .inl (cC, 16, .inl tl)), (tN, .inl (cI, 96, .inl tn)), (tS, .inl (cI, 16, .inl ts))] (am_X t1 t2 qs) [.ref kA, .long depth]) (va_Qi (fun (r : Int32) (_ : Unit) => xK_slide tl tn ts tz depth = .ok r) (fun _ _ => True) (fun _ => False)) (vx_X (fun _ : Unit => True) (fun E _ _ => xK_slide tl tn ts tz depth = .error E) (fun _ => False)) 1 6 (fun _ => False) := by
  refine vx_ofW (cc := mb_K_slide) (maxL := 3) (ret := (some .int)) (by decide) rfl ?_
  intro p e s m args below meth c s₁ B hml hne hv
  obtain ⟨rfl, hP, hK, hE⟩ := hv
  have hx := B.exec
  have hb := B.bytes
  have hr := B.returns
  have hts := atoms_spec (ws := (.code my_K_slide mb_K_slide 3 (some .int) :: gw_l)) B.pre
  have hg : ∀ w ∈ gw_l, w.before _ s = true := fun w h => hts w (List.mem_cons_of_mem _ h)
  have hown : s.vm.findClass mR_K = some m.cls := findClass_of_methodNamed B.named
  have hlocks := B.notSynchronized
  have hl := lv_entry ([.ref kA, .long depth]) (n := 3) (Nat.le_of_ble_eq_true rfl)
  rw [lg_entry_eq]
  generalize (lg_sl ([.ref kA, .long depth]) ++ List.replicate (3 - (lg_sl ([.ref kA, .long depth])).length) Slot.unset).toArray = ls at hl ⊢
  have hl : lv_has ls 3 [(0, .ref kA), (1, .long depth)] := hl
  refine lv_aload_n hx hb md_K_slide_0 rfl (lv_at hl 0 rfl) ?_
  by_cases c1 : (nI tz) = 0
  · have hPc2 := hP.sub (ws' := [(kA, .inr (4, [.ref xA, .ref dA, .ref oA, .ref tA, .ref uA])), (tA, .inr (2, [.ref tL, .ref tN, .ref tS, .int (nI tz)])), (tL, .inl (cC, 16, .inl tl)), (tN, .inl (cI, 96, .inl tn)), (tS, .inl (cI, 16, .inl ts))]) [0, 1, 2, 3, 4] rfl
    refine vx_callv (vx_runV (As := []) (rest := []) ⟨hx, hb, hml, hown, hg⟩ (cx_K_needTable l dC dI cC cI cJ kA xA dA oA uA tA tL tN tS tl tn ts tz t1 t2 qs hl9) (gw_cwV hg wd_179 mv_K_needTable rfl rfl ⟨Nat.le_of_ble_eq_true rfl, Nat.le_of_ble_eq_true rfl⟩) (pu_preV (ci := 4) (q0 := 0) am_X_bl hK hPc2 (pu_e0 am_X_bl hE) rfl rfl) rfl rfl hl.1 rfl (lv_room (Nat.le_of_ble_eq_true rfl)) md_K_slide_1 ⟨Nat.le_of_ble_eq_true rfl, Nat.le_of_ble_eq_true rfl⟩) (va_S.rf (A := fun _ => False)) (fun _ _ h => h.elim) (fun _ h => h.elim) (fun _ _ h => h.elim) (fun E ce q9 u9 t9 H1 locs1 ht hal hpx hBX hz hk hS1 hcell hcv hcl => ?_) (fun u9 t9 H1 locs1 ht hal hpost hB hz hk hS1 => ?_)
    · have hBX : xK_needTable tz = .error E := hBX
      have hEe : E = "java/lang/IllegalStateException" := by rw [xK_needTable, if_pos c1] at hBX; exact (Except.error.inj hBX).symm
      subst hEe
      exact vx_out (fun x h => (hne x h).elim) hlocks hcell hcv hcl (fun t ht2 _ => ⟨(), trivial, (by rw [xK_slide, if_pos c1]), by rw [ht2]; exact hz, fun q h1 _ => by rw [ht2]; exact hk q h1 (fun h => h)⟩) (fun z hz2 => hS1.2.2 z hz2) (Nat.le_refl _) (Nat.le_refl _)
    · have hpost : xK_needTable tz = .ok () := hpost
      rw [xK_needTable, if_pos c1] at hpost
      cases hpost
  · have hPc3 := hP.sub (ws' := [(kA, .inr (4, [.ref xA, .ref dA, .ref oA, .ref tA, .ref uA])), (tA, .inr (2, [.ref tL, .ref tN, .ref tS, .int (nI tz)])), (tL, .inl (cC, 16, .inl tl)), (tN, .inl (cI, 96, .inl tn)), (tS, .inl (cI, 16, .inl ts))]) [0, 1, 2, 3, 4] rfl
    refine pu_v (W.runV (As := []) (rest := []) ⟨hx, hb, hml, hown, hg⟩ (ct_K_needTable l dC dI cC cI cJ kA xA dA oA uA tA tL tN tS tl tn ts tz t1 t2 qs (by rw [xK_needTable, if_neg c1])) (gw_cwV hg wd_179 mv_K_needTable rfl rfl ⟨Nat.le_of_ble_eq_true rfl, Nat.le_of_ble_eq_true rfl⟩) (pu_preV (ci := 4) (q0 := 0) am_X_bl hK hPc3 (pu_e0 am_X_bl hE) rfl rfl) rfl rfl hl.1 rfl (lv_room (Nat.le_of_ble_eq_true rfl)) md_K_slide_1 ⟨Nat.zero_le _, Nat.zero_le _⟩) ?_
    refine lv_aload_n hx hb md_K_slide_4 rfl (lv_at hl 0 rfl) ?_
    refine va_get (D := (dC, dI)) (ci := 4) (v := .ref tA) (C := mR_K) (T := mT_K) (N := 5) hx hb hg gu_K hown hK hP 0 rfl rfl 3 (by decide) (hg _ wd_100) (fun _ h9 => h9) rfl md_K_slide_5 ?_
    refine lv_lload_n hx hb md_K_slide_8 rfl (lv_at hl 1 rfl) ?_
    have hPc4 := hP.sub (ws' := [(tA, .inr (2, [.ref tL, .ref tN, .ref tS, .int (nI tz)])), (tL, .inl (cC, 16, .inl tl)), (tN, .inl (cI, 96, .inl tn)), (tS, .inl (cI, 16, .inl ts))]) [1, 2, 3, 4] rfl
    refine pu_i (W.runV (As := [.long depth]) (rest := []) ⟨hx, hb, hml, hown, hg⟩ (ct_T_longestSlide l dC dI cC cI cJ tA tL tN tS tl tn ts tz depth hz) (gw_cwV hg wd_349 mv_T_longestSlide rfl rfl ⟨Nat.le_of_ble_eq_true rfl, Nat.le_of_ble_eq_true rfl⟩) (pu_preV (ci := 2) (q0 := 0) pu_blT hK hPc4 pu_e1 rfl rfl) rfl rfl hl.1 rfl (lv_room (Nat.le_of_ble_eq_true rfl)) md_K_slide_9 ⟨Nat.zero_le _, Nat.zero_le _⟩) ?_
    exact vx_ret (W.widen (k := 1) (n := 6) (Nat.zero_le _) (Nat.zero_le _) (W.iret (v := fT_longestSlide tl tn ts tz depth) hx hb hr (fun t ht hW => ⟨⟨fT_longestSlide tl tn ts tz depth, (), rfl, (by rw [xK_slide, if_neg c1]), trivial⟩, vf_0 ht⟩) (fun q hq => by cases hq) md_K_slide_12 hlocks))

def xK_door (dw : Int64) (dh : Int64) (dt : Int64) (dd : Int64) (w0 : Int64) (h0 : Int64) (th0 : Int64) (de0 : Int64) : Except String (Int32 × Int64 × Int64 × Int64 × Int64) := if (fK_isOfDoor w0) = 0 then (.error "java/lang/IllegalArgumentException") else (if (fK_isOfDoor h0) = 0 then (.error "java/lang/IllegalArgumentException") else (if (fK_isOfDoor th0) = 0 then (.error "java/lang/IllegalArgumentException") else (if (fK_isOfDoor de0) = 0 then (.error "java/lang/IllegalArgumentException") else (.ok ((fD_change dw dh dt dd w0 h0 th0 de0).1, (fD_change dw dh dt dd w0 h0 th0 de0).2.1, (fD_change dw dh dt dd w0 h0 th0 de0).2.2.1, (fD_change dw dh dt dd w0 h0 th0 de0).2.2.2.1, (fD_change dw dh dt dd w0 h0 th0 de0).2.2.2.2)))))
set_option maxHeartbeats 1000000 in
set_option maxRecDepth 100000 in
theorem cx_K_door (l : Launch) (dC : Nat → ClassId) (dI : Nat → Nat → Nat) (cC cI cJ : ClassId) (kA : Nat) (xA : Nat) (oA : Nat) (tA : Nat) (uA : Nat) (dA : Nat) (dw : Int64) (dh : Int64) (dt : Int64) (dd : Int64) (w0 : Int64) (h0 : Int64) (th0 : Int64) (de0 : Int64) (t1 t2 : Nat) (qs : Nat → Nat) (hl9 : l.stackTraces = false) : vx_Met l my_K_door (.code my_K_door mb_K_door 9 (some .boolean) :: gw_l) ({ frames := 6, cells := 1, slots := 6, locals := 130 }) (mu_Pc (dC, dI) mC [(cC, .char), (cI, .int), (cJ, .long)] [(kA, .inr (4, [.ref xA, .ref dA, .ref oA, .ref tA, .ref uA])), (dA, .inr (0, [.long dw, .long dh, .long dt, .long dd]))] (am_X t1 t2 qs) [.ref kA, .long w0, .long h0, .long th0, .long de0]) (va_Qi (fun (r : Int32) (u : Int64 × Int64 × Int64 × Int64) => xK_door dw dh dt dd w0 h0 th0 de0 = .ok (r, u)) (fun u t => va_P (dC, dI) mC [(kA, .inr (4, [.ref xA, .ref dA, .ref oA, .ref tA, .ref uA])), (dA, .inr (0, [.long u.1, .long u.2.1, .long u.2.2.1, .long u.2.2.2]))] t.heap) (mu_A [(kA, .inr (4, [.ref xA, .ref dA, .ref oA, .ref tA, .ref uA])), (dA, .inr (0, [.long dw, .long dh, .long dt, .long dd]))])) (vx_X (fun _ : Unit => True) (fun E _ _ => xK_door dw dh dt dd w0 h0 th0 de0 = .error E) (fun _ => False)) 1 6 (mu_A [(kA, .inr (4, [.ref xA, .ref dA, .ref oA, .ref tA, .ref uA])), (dA, .inr (0, [.long dw, .long dh, .long dt, .long dd]))]) := by
  refine vx_ofW (cc := mb_K_door) (maxL := 9) (ret := (some .boolean)) (by decide) rfl ?_
  intro p e s m args below meth c s₁ B hml hne hv
  obtain ⟨rfl, hP, hK, hD0, hE⟩ := hv
  have hx := B.exec
  have hb := B.bytes
  have hr := B.returns
  have hts := atoms_spec (ws := (.code my_K_door mb_K_door 9 (some .boolean) :: gw_l)) B.pre
  have hg : ∀ w ∈ gw_l, w.before _ s = true := fun w h => hts w (List.mem_cons_of_mem _ h)
  have hown : s.vm.findClass mR_K = some m.cls := findClass_of_methodNamed B.named
  have hlocks := B.notSynchronized
  have hD := mu_self hD0
  have hS : va_S (mu_A [(kA, .inr (4, [.ref xA, .ref dA, .ref oA, .ref tA, .ref uA])), (dA, .inr (0, [.long dw, .long dh, .long dt, .long dd]))]) s.heap s.heap [] := va_S.rf
  generalize hAe : mu_A [(kA, .inr (4, [.ref xA, .ref dA, .ref oA, .ref tA, .ref uA])), (dA, .inr (0, [.long dw, .long dh, .long dt, .long dd]))] = A at hD hS ⊢
  have hl := lv_entry ([.ref kA, .long w0, .long h0, .long th0, .long de0]) (n := 9) (Nat.le_of_ble_eq_true rfl)
  rw [lg_entry_eq]
  generalize (lg_sl ([.ref kA, .long w0, .long h0, .long th0, .long de0]) ++ List.replicate (9 - (lg_sl ([.ref kA, .long w0, .long h0, .long th0, .long de0])).length) Slot.unset).toArray = ls at hl ⊢
  have hl : lv_has ls 9 [(0, .ref kA), (1, .long w0), (3, .long h0), (5, .long th0), (7, .long de0)] := hl
  refine lv_lload_n hx hb md_K_door_0 rfl (lv_at hl 1 rfl) ?_
  have hPc1 := hP.sub (ws' := []) [] rfl
  refine pu_i (W.runS (As := [.long w0]) (rest := []) ⟨hx, hb, hml, hown, hg⟩ (ct_K_isOfDoor l dC dI cC cI cJ w0) (gw_cwS hg wd_360 mv_K_isOfDoor rfl rfl ⟨Nat.le_of_ble_eq_true rfl, Nat.le_of_ble_eq_true rfl⟩) (pu_preS pu_blT hK hPc1 pu_e1) rfl rfl hl.1 rfl (lv_room (Nat.le_of_ble_eq_true rfl)) md_K_door_1 ⟨Nat.zero_le _, Nat.zero_le _⟩) ?_
  refine lv_if_eq (tgt := 30) hx hb md_K_door_4 (by decide) (fun c2 => ?_) (fun c2 => ?_)
  · exact vx_throwS (names := xn_R) hx hb hl9 hown (by decide +kernel) (by decide +kernel) (hg _ wd_286) (hg _ wd_12) (ak_105 hE.1) (xa_IAE hg hE) xo_IAE (vx_Zq.narrow hE.1.2.1.1 (fun _ h => h.elim)) (vx_Zq.narrow hE.1.2.1.2 (fun _ h => h.elim)) (A := fun _ => False) (va_S.rf) (hl.1.trans hml.symm) md_K_door_30 md_K_door_33 md_K_door_34 md_K_door_36 md_K_door_39 (fun x h => (hne x h).elim) (Nat.le_of_ble_eq_true rfl) (Nat.le_of_ble_eq_true rfl) (Nat.le_of_ble_eq_true rfl) (Nat.le_of_ble_eq_true rfl) hlocks (fun t hal hz hk => ⟨(), trivial, (by rw [xK_door, if_pos c2]), hz, fun q h1 _ => hk q h1⟩) (fun z hz => by cases hz) (Nat.le_refl _) (Nat.le_refl _)
  · refine lv_lload_n hx hb md_K_door_7 rfl (lv_at hl 2 rfl) ?_
    have hPc3 := hP.sub (ws' := []) [] rfl
    refine pu_i (W.runS (As := [.long h0]) (rest := []) ⟨hx, hb, hml, hown, hg⟩ (ct_K_isOfDoor l dC dI cC cI cJ h0) (gw_cwS hg wd_360 mv_K_isOfDoor rfl rfl ⟨Nat.le_of_ble_eq_true rfl, Nat.le_of_ble_eq_true rfl⟩) (pu_preS pu_blT hK hPc3 pu_e1) rfl rfl hl.1 rfl (lv_room (Nat.le_of_ble_eq_true rfl)) md_K_door_8 ⟨Nat.zero_le _, Nat.zero_le _⟩) ?_
    refine lv_if_eq (tgt := 30) hx hb md_K_door_11 (by decide) (fun c4 => ?_) (fun c4 => ?_)
    · exact vx_throwS (names := xn_R) hx hb hl9 hown (by decide +kernel) (by decide +kernel) (hg _ wd_286) (hg _ wd_12) (ak_105 hE.1) (xa_IAE hg hE) xo_IAE (vx_Zq.narrow hE.1.2.1.1 (fun _ h => h.elim)) (vx_Zq.narrow hE.1.2.1.2 (fun _ h => h.elim)) (A := fun _ => False) (va_S.rf) (hl.1.trans hml.symm) md_K_door_30 md_K_door_33 md_K_door_34 md_K_door_36 md_K_door_39 (fun x h => (hne x h).elim) (Nat.le_of_ble_eq_true rfl) (Nat.le_of_ble_eq_true rfl) (Nat.le_of_ble_eq_true rfl) (Nat.le_of_ble_eq_true rfl) hlocks (fun t hal hz hk => ⟨(), trivial, (by rw [xK_door, if_neg c2, if_pos c4]), hz, fun q h1 _ => hk q h1⟩) (fun z hz => by cases hz) (Nat.le_refl _) (Nat.le_refl _)
    · refine lv_lload hx hb md_K_door_14 (lv_at hl 3 rfl) ?_
      have hPc5 := hP.sub (ws' := []) [] rfl
      refine pu_i (W.runS (As := [.long th0]) (rest := []) ⟨hx, hb, hml, hown, hg⟩ (ct_K_isOfDoor l dC dI cC cI cJ th0) (gw_cwS hg wd_360 mv_K_isOfDoor rfl rfl ⟨Nat.le_of_ble_eq_true rfl, Nat.le_of_ble_eq_true rfl⟩) (pu_preS pu_blT hK hPc5 pu_e1) rfl rfl hl.1 rfl (lv_room (Nat.le_of_ble_eq_true rfl)) md_K_door_16 ⟨Nat.zero_le _, Nat.zero_le _⟩) ?_
      refine lv_if_eq (tgt := 30) hx hb md_K_door_19 (by decide) (fun c6 => ?_) (fun c6 => ?_)
      · exact vx_throwS (names := xn_R) hx hb hl9 hown (by decide +kernel) (by decide +kernel) (hg _ wd_286) (hg _ wd_12) (ak_105 hE.1) (xa_IAE hg hE) xo_IAE (vx_Zq.narrow hE.1.2.1.1 (fun _ h => h.elim)) (vx_Zq.narrow hE.1.2.1.2 (fun _ h => h.elim)) (A := fun _ => False) (va_S.rf) (hl.1.trans hml.symm) md_K_door_30 md_K_door_33 md_K_door_34 md_K_door_36 md_K_door_39 (fun x h => (hne x h).elim) (Nat.le_of_ble_eq_true rfl) (Nat.le_of_ble_eq_true rfl) (Nat.le_of_ble_eq_true rfl) (Nat.le_of_ble_eq_true rfl) hlocks (fun t hal hz hk => ⟨(), trivial, (by rw [xK_door, if_neg c2, if_neg c4, if_pos c6]), hz, fun q h1 _ => hk q h1⟩) (fun z hz => by cases hz) (Nat.le_refl _) (Nat.le_refl _)
      · refine lv_lload hx hb md_K_door_22 (lv_at hl 4 rfl) ?_
        have hPc7 := hP.sub (ws' := []) [] rfl
        refine pu_i (W.runS (As := [.long de0]) (rest := []) ⟨hx, hb, hml, hown, hg⟩ (ct_K_isOfDoor l dC dI cC cI cJ de0) (gw_cwS hg wd_360 mv_K_isOfDoor rfl rfl ⟨Nat.le_of_ble_eq_true rfl, Nat.le_of_ble_eq_true rfl⟩) (pu_preS pu_blT hK hPc7 pu_e1) rfl rfl hl.1 rfl (lv_room (Nat.le_of_ble_eq_true rfl)) md_K_door_24 ⟨Nat.zero_le _, Nat.zero_le _⟩) ?_
        refine lv_if_ne (tgt := 40) hx hb md_K_door_27 (by decide) (fun c8 => ?_) (fun c8 => ?_)
        · refine lv_aload_n hx hb md_K_door_40 rfl (lv_at hl 0 rfl) ?_
          refine va_get (D := (dC, dI)) (ci := 4) (v := .ref dA) (C := mR_K) (T := mT_K) (N := 5) hx hb hg gu_K hown hK hP 0 rfl rfl 1 (by decide) (hg _ wd_98) (fun _ h9 => h9) rfl md_K_door_41 ?_
          refine lv_lload_n hx hb md_K_door_44 rfl (lv_at hl 1 rfl) ?_
          refine lv_lload_n hx hb md_K_door_45 rfl (lv_at hl 2 rfl) ?_
          refine lv_lload hx hb md_K_door_46 (lv_at hl 3 rfl) ?_
          refine lv_lload hx hb md_K_door_48 (lv_at hl 4 rfl) ?_
          have hPc9 := hP.sub (ws' := [(dA, .inr (0, [.long dw, .long dh, .long dt, .long dd]))]) [1] rfl
          have hDc10 := hD.sub (ws' := [(dA, .inr (0, [.long dw, .long dh, .long dt, .long dd]))]) [1] (by decide) rfl
          have hFc11 := mu_free (wc := [(dA, .inr (0, [.long dw, .long dh, .long dt, .long dd]))]) hD [1] rfl
          refine va_calli (va_runV (As := [.long w0, .long h0, .long th0, .long de0]) (rest := []) ⟨hx, hb, hml, hown, hg⟩ (ct_D_change l dC dI cC cI cJ dA dw dh dt dd w0 h0 th0 de0) (gw_cwV hg wd_367 mv_D_change rfl rfl ⟨Nat.le_of_ble_eq_true rfl, Nat.le_of_ble_eq_true rfl⟩) (mu_preV (ci := 0) (q0 := 0) pu_blT hK hPc9 hDc10 pu_e1 rfl rfl) rfl rfl hl.1 rfl (lv_room (Nat.le_of_ble_eq_true rfl)) md_K_door_50 ⟨Nat.zero_le _, Nat.zero_le _⟩) hS (fun q _ h => hFc11 q h) hFc11 (fun r9 u9 t9 H locs ht hvm hw hB hz1 hk1 hS => ?_)
          have hw : (r9, u9) = (fD_change dw dh dt dd w0 h0 th0 de0) := hw
          have er : r9 = (fD_change dw dh dt dd w0 h0 th0 de0).1 := by rw [← hw]
          have hw : u9 = (fD_change dw dh dt dd w0 h0 th0 de0).2 := by rw [← hw]
          subst hw
          subst er
          have hB : va_P (dC, dI) mC [(dA, .inr (0, [.long ((fD_change dw dh dt dd w0 h0 th0 de0).2.1), .long ((fD_change dw dh dt dd w0 h0 th0 de0).2.2.1), .long ((fD_change dw dh dt dd w0 h0 th0 de0).2.2.2.1), .long ((fD_change dw dh dt dd w0 h0 th0 de0).2.2.2.2)]))] H := by rw [← ht]; exact hB
          have hP := mu_join (ws' := [(kA, .inr (4, [.ref xA, .ref dA, .ref oA, .ref tA, .ref uA])), (dA, .inr (0, [.long ((fD_change dw dh dt dd w0 h0 th0 de0).2.1), .long ((fD_change dw dh dt dd w0 h0 th0 de0).2.2.1), .long ((fD_change dw dh dt dd w0 h0 th0 de0).2.2.2.1), .long ((fD_change dw dh dt dd w0 h0 th0 de0).2.2.2.2)]))]) hP hD [1] [.inr 0, .inl 0] rfl rfl rfl hk1 hB
          have hD : va_D A [(kA, .inr (4, [.ref xA, .ref dA, .ref oA, .ref tA, .ref uA])), (dA, .inr (0, [.long ((fD_change dw dh dt dd w0 h0 th0 de0).2.1), .long ((fD_change dw dh dt dd w0 h0 th0 de0).2.2.1), .long ((fD_change dw dh dt dd w0 h0 th0 de0).2.2.2.1), .long ((fD_change dw dh dt dd w0 h0 th0 de0).2.2.2.2)]))] := mu_D (ws := [(kA, .inr (4, [.ref xA, .ref dA, .ref oA, .ref tA, .ref uA])), (dA, .inr (0, [.long dw, .long dh, .long dt, .long dd]))]) rfl hD
          exact vx_ret (W.widen (k := 1) (n := 6) (Nat.zero_le _) (Nat.zero_le _) (W.zret (v := (fD_change dw dh dt dd w0 h0 th0 de0).1) hx hb hr (zD_change _ _ _ _ _ _ _ _) (fun t ht hW => ⟨⟨(fD_change dw dh dt dd w0 h0 th0 de0).1, ((fD_change dw dh dt dd w0 h0 th0 de0).2.1, (fD_change dw dh dt dd w0 h0 th0 de0).2.2.1, (fD_change dw dh dt dd w0 h0 th0 de0).2.2.2.1, (fD_change dw dh dt dd w0 h0 th0 de0).2.2.2.2), rfl, (by rw [xK_door, if_neg c2, if_neg c4, if_neg c6, if_neg c8]), by have h9 := hP; rw [← ht] at h9; exact h9⟩, hS.F ht⟩) hS.2.2 md_K_door_53 hlocks))
        · exact vx_throwS (names := xn_R) hx hb hl9 hown (by decide +kernel) (by decide +kernel) (hg _ wd_286) (hg _ wd_12) (ak_105 hE.1) (xa_IAE hg hE) xo_IAE (vx_Zq.narrow hE.1.2.1.1 (fun _ h => h.elim)) (vx_Zq.narrow hE.1.2.1.2 (fun _ h => h.elim)) (A := fun _ => False) (va_S.rf) (hl.1.trans hml.symm) md_K_door_30 md_K_door_33 md_K_door_34 md_K_door_36 md_K_door_39 (fun x h => (hne x h).elim) (Nat.le_of_ble_eq_true rfl) (Nat.le_of_ble_eq_true rfl) (Nat.le_of_ble_eq_true rfl) (Nat.le_of_ble_eq_true rfl) hlocks (fun t hal hz hk => ⟨(), trivial, (by rw [xK_door, if_neg c2, if_neg c4, if_neg c6, if_pos c8]), hz, fun q h1 _ => hk q h1⟩) (fun z hz => by cases hz) (Nat.le_refl _) (Nat.le_refl _)

def xK_weight (dw : Int64) (dh : Int64) (dt : Int64) (dd : Int64) (part : Int32) : Except String Int64 := if part < 0 then (.error "java/lang/IndexOutOfBoundsException") else (if part ≤ 1 then (.ok (fK_partOfFraction (fD_millionWeights dw dh dt dd) 1000000 part)) else (.error "java/lang/IndexOutOfBoundsException"))
set_option maxHeartbeats 1000000 in
set_option maxRecDepth 100000 in
theorem cx_K_weight (l : Launch) (dC : Nat → ClassId) (dI : Nat → Nat → Nat) (cC cI cJ : ClassId) (kA : Nat) (xA : Nat) (oA : Nat) (tA : Nat) (uA : Nat) (dA : Nat) (dw : Int64) (dh : Int64) (dt : Int64) (dd : Int64) (part : Int32) (t1 t2 : Nat) (qs : Nat → Nat) (hl9 : l.stackTraces = false) : vx_Met l my_K_weight (.code my_K_weight mb_K_weight 2 (some .long) :: gw_l) ({ frames := 7, cells := 1, slots := 6, locals := 150 }) (pu_Pc (dC, dI) mC [(cC, .char), (cI, .int), (cJ, .long)] [(kA, .inr (4, [.ref xA, .ref dA, .ref oA, .ref tA, .ref uA])), (dA, .inr (0, [.long dw, .long dh, .long dt, .long dd]))] (am_X t1 t2 qs) [.ref kA, .int part]) (va_Ql (fun (r : Int64) (_ : Unit) => xK_weight dw dh dt dd part = .ok r) (fun _ _ => True) (fun _ => False)) (vx_X (fun _ : Unit => True) (fun E _ _ => xK_weight dw dh dt dd part = .error E) (fun _ => False)) 1 6 (fun _ => False) := by
  refine vx_ofW (cc := mb_K_weight) (maxL := 2) (ret := (some .long)) (by decide) rfl ?_
  intro p e s m args below meth c s₁ B hml hne hv
  obtain ⟨rfl, hP, hK, hE⟩ := hv
  have hx := B.exec
  have hb := B.bytes
  have hr := B.returns
  have hts := atoms_spec (ws := (.code my_K_weight mb_K_weight 2 (some .long) :: gw_l)) B.pre
  have hg : ∀ w ∈ gw_l, w.before _ s = true := fun w h => hts w (List.mem_cons_of_mem _ h)
  have hown : s.vm.findClass mR_K = some m.cls := findClass_of_methodNamed B.named
  have hlocks := B.notSynchronized
  have hl := lv_entry ([.ref kA, .int part]) (n := 2) (Nat.le_of_ble_eq_true rfl)
  rw [lg_entry_eq]
  generalize (lg_sl ([.ref kA, .int part]) ++ List.replicate (2 - (lg_sl ([.ref kA, .int part])).length) Slot.unset).toArray = ls at hl ⊢
  have hl : lv_has ls 2 [(0, .ref kA), (1, .int part)] := hl
  refine lv_iload_n hx hb md_K_weight_0 rfl (lv_at hl 1 rfl) ?_
  by_cases c1 : part < 0
  · have hPc2 := hP.sub (ws' := []) [] rfl
    refine vx_callv (vx_runS (As := [.int part]) (rest := []) ⟨hx, hb, hml, hown, hg⟩ (cx_K_needPart l dC dI cC cI cJ part t1 t2 qs hl9) (gw_cwS hg wd_378 mv_K_needPart rfl rfl ⟨Nat.le_of_ble_eq_true rfl, Nat.le_of_ble_eq_true rfl⟩) (pu_preS am_X_bl hK hPc2 (pu_e0 am_X_bl hE)) rfl rfl hl.1 rfl (lv_room (Nat.le_of_ble_eq_true rfl)) md_K_weight_1 ⟨Nat.le_of_ble_eq_true rfl, Nat.le_of_ble_eq_true rfl⟩) (va_S.rf (A := fun _ => False)) (fun _ _ h => h.elim) (fun _ h => h.elim) (fun _ _ h => h.elim) (fun E ce q9 u9 t9 H1 locs1 ht hal hpx hBX hz hk hS1 hcell hcv hcl => ?_) (fun u9 t9 H1 locs1 ht hal hpost hB hz hk hS1 => ?_)
    · have hBX : xK_needPart part = .error E := hBX
      have hEe : E = "java/lang/IndexOutOfBoundsException" := by rw [xK_needPart, if_pos c1] at hBX; exact (Except.error.inj hBX).symm
      subst hEe
      exact vx_out (fun x h => (hne x h).elim) hlocks hcell hcv hcl (fun t ht2 _ => ⟨(), trivial, (by rw [xK_weight, if_pos c1]), by rw [ht2]; exact hz, fun q h1 _ => by rw [ht2]; exact hk q h1 (fun h => h)⟩) (fun z hz2 => hS1.2.2 z hz2) (Nat.le_refl _) (Nat.le_refl _)
    · have hpost : xK_needPart part = .ok () := hpost
      rw [xK_needPart, if_pos c1] at hpost
      cases hpost
  · by_cases c3 : part ≤ 1
    · have hPc4 := hP.sub (ws' := []) [] rfl
      refine pu_v (W.runS (As := [.int part]) (rest := []) ⟨hx, hb, hml, hown, hg⟩ (ct_K_needPart l dC dI cC cI cJ part t1 t2 qs (by rw [xK_needPart, if_neg c1, if_pos c3])) (gw_cwS hg wd_378 mv_K_needPart rfl rfl ⟨Nat.le_of_ble_eq_true rfl, Nat.le_of_ble_eq_true rfl⟩) (pu_preS am_X_bl hK hPc4 (pu_e0 am_X_bl hE)) rfl rfl hl.1 rfl (lv_room (Nat.le_of_ble_eq_true rfl)) md_K_weight_1 ⟨Nat.zero_le _, Nat.zero_le _⟩) ?_
      refine lv_aload_n hx hb md_K_weight_4 rfl (lv_at hl 0 rfl) ?_
      refine va_get (D := (dC, dI)) (ci := 4) (v := .ref dA) (C := mR_K) (T := mT_K) (N := 5) hx hb hg gu_K hown hK hP 0 rfl rfl 1 (by decide) (hg _ wd_98) (fun _ h9 => h9) rfl md_K_weight_5 ?_
      have hPc5 := hP.sub (ws' := [(dA, .inr (0, [.long dw, .long dh, .long dt, .long dd]))]) [1] rfl
      refine pu_l (W.runV (As := []) (rest := []) ⟨hx, hb, hml, hown, hg⟩ (ct_D_millionWeights l dC dI cC cI cJ dA dw dh dt dd) (gw_cwV hg wd_382 mv_D_millionWeights rfl rfl ⟨Nat.le_of_ble_eq_true rfl, Nat.le_of_ble_eq_true rfl⟩) (pu_preV (ci := 0) (q0 := 0) pu_blT hK hPc5 pu_e1 rfl rfl) rfl rfl hl.1 rfl (lv_room (Nat.le_of_ble_eq_true rfl)) md_K_weight_8 ⟨Nat.zero_le _, Nat.zero_le _⟩) ?_
      refine lv_ldc2 hx hb hown (hg _ wd_386) md_K_weight_11 ?_
      refine lv_iload_n hx hb md_K_weight_14 rfl (lv_at hl 1 rfl) ?_
      have hPc6 := hP.sub (ws' := []) [] rfl
      refine pu_l (W.runS (As := [.long (fD_millionWeights dw dh dt dd), .long 1000000, .int part]) (rest := []) ⟨hx, hb, hml, hown, hg⟩ (ct_K_partOfFraction l dC dI cC cI cJ (fD_millionWeights dw dh dt dd) 1000000 part) (gw_cwS hg wd_387 mv_K_partOfFraction rfl rfl ⟨Nat.le_of_ble_eq_true rfl, Nat.le_of_ble_eq_true rfl⟩) (pu_preS pu_blT hK hPc6 pu_e1) rfl rfl hl.1 rfl (lv_room (Nat.le_of_ble_eq_true rfl)) md_K_weight_15 ⟨Nat.zero_le _, Nat.zero_le _⟩) ?_
      exact vx_ret (W.widen (k := 1) (n := 6) (Nat.zero_le _) (Nat.zero_le _) (W.lret (v := fK_partOfFraction (fD_millionWeights dw dh dt dd) 1000000 part) hx hb hr (fun t ht hW => ⟨⟨fK_partOfFraction (fD_millionWeights dw dh dt dd) 1000000 part, (), rfl, (by rw [xK_weight, if_neg c1, if_pos c3]), trivial⟩, vf_0 ht⟩) (fun q hq => by cases hq) md_K_weight_18 hlocks))
    · have hPc7 := hP.sub (ws' := []) [] rfl
      refine vx_callv (vx_runS (As := [.int part]) (rest := []) ⟨hx, hb, hml, hown, hg⟩ (cx_K_needPart l dC dI cC cI cJ part t1 t2 qs hl9) (gw_cwS hg wd_378 mv_K_needPart rfl rfl ⟨Nat.le_of_ble_eq_true rfl, Nat.le_of_ble_eq_true rfl⟩) (pu_preS am_X_bl hK hPc7 (pu_e0 am_X_bl hE)) rfl rfl hl.1 rfl (lv_room (Nat.le_of_ble_eq_true rfl)) md_K_weight_1 ⟨Nat.le_of_ble_eq_true rfl, Nat.le_of_ble_eq_true rfl⟩) (va_S.rf (A := fun _ => False)) (fun _ _ h => h.elim) (fun _ h => h.elim) (fun _ _ h => h.elim) (fun E ce q9 u9 t9 H1 locs1 ht hal hpx hBX hz hk hS1 hcell hcv hcl => ?_) (fun u9 t9 H1 locs1 ht hal hpost hB hz hk hS1 => ?_)
      · have hBX : xK_needPart part = .error E := hBX
        have hEe : E = "java/lang/IndexOutOfBoundsException" := by rw [xK_needPart, if_neg c1, if_neg c3] at hBX; exact (Except.error.inj hBX).symm
        subst hEe
        exact vx_out (fun x h => (hne x h).elim) hlocks hcell hcv hcl (fun t ht2 _ => ⟨(), trivial, (by rw [xK_weight, if_neg c1, if_neg c3]), by rw [ht2]; exact hz, fun q h1 _ => by rw [ht2]; exact hk q h1 (fun h => h)⟩) (fun z hz2 => hS1.2.2 z hz2) (Nat.le_refl _) (Nat.le_refl _)
      · have hpost : xK_needPart part = .ok () := hpost
        rw [xK_needPart, if_neg c1, if_neg c3] at hpost
        cases hpost

def xK_count (tl : Nat → Int32) (tn : Nat → Int32) (tz : Nat) (dw : Int64) (dh : Int64) (dt : Int64) (dd : Int64) : Except String Int32 := if (nI tz) = 0 then (.error "java/lang/IllegalStateException") else (.ok (fT_hingesOf tl tn tz dw dh dt dd))
set_option maxHeartbeats 1000000 in
set_option maxRecDepth 100000 in
theorem cx_K_count (l : Launch) (dC : Nat → ClassId) (dI : Nat → Nat → Nat) (cC cI cJ : ClassId) (kA : Nat) (xA : Nat) (oA : Nat) (uA : Nat) (tA : Nat) (tL : Nat) (tN : Nat) (tS : Nat) (tl : Nat → Int32) (tn : Nat → Int32) (ts : Nat → Int32) (tz : Nat) (dA : Nat) (dw : Int64) (dh : Int64) (dt : Int64) (dd : Int64)  (t1 t2 : Nat) (qs : Nat → Nat) (hl9 : l.stackTraces = false) (hz : tz ≤ 16) : vx_Met l my_K_count (.code my_K_count mb_K_count 1 (some .int) :: gw_l) ({ frames := 7, cells := 1, slots := 6, locals := 150 }) (pu_Pc (dC, dI) mC [(cC, .char), (cI, .int), (cJ, .long)] [(kA, .inr (4, [.ref xA, .ref dA, .ref oA, .ref tA, .ref uA])), (tA, .inr (2, [.ref tL, .ref tN, .ref tS, .int (nI tz)])), (tL, .inl (cC, 16, .inl tl)), (tN, .inl (cI, 96, .inl tn)), (tS, .inl (cI, 16, .inl ts)), (dA, .inr (0, [.long dw, .long dh, .long dt, .long dd]))] (am_X t1 t2 qs) [.ref kA]) (va_Qi (fun (r : Int32) (_ : Unit) => xK_count tl tn tz dw dh dt dd = .ok r) (fun _ _ => True) (fun _ => False)) (vx_X (fun _ : Unit => True) (fun E _ _ => xK_count tl tn tz dw dh dt dd = .error E) (fun _ => False)) 1 6 (fun _ => False) := by
  refine vx_ofW (cc := mb_K_count) (maxL := 1) (ret := (some .int)) (by decide) rfl ?_
  intro p e s m args below meth c s₁ B hml hne hv
  obtain ⟨rfl, hP, hK, hE⟩ := hv
  have hx := B.exec
  have hb := B.bytes
  have hr := B.returns
  have hts := atoms_spec (ws := (.code my_K_count mb_K_count 1 (some .int) :: gw_l)) B.pre
  have hg : ∀ w ∈ gw_l, w.before _ s = true := fun w h => hts w (List.mem_cons_of_mem _ h)
  have hown : s.vm.findClass mR_K = some m.cls := findClass_of_methodNamed B.named
  have hlocks := B.notSynchronized
  have hl := lv_entry ([.ref kA]) (n := 1) (Nat.le_of_ble_eq_true rfl)
  rw [lg_entry_eq]
  generalize (lg_sl ([.ref kA]) ++ List.replicate (1 - (lg_sl ([.ref kA])).length) Slot.unset).toArray = ls at hl ⊢
  have hl : lv_has ls 1 [(0, .ref kA)] := hl
  refine lv_aload_n hx hb md_K_count_0 rfl (lv_at hl 0 rfl) ?_
  by_cases c1 : (nI tz) = 0
  · have hPc2 := hP.sub (ws' := [(kA, .inr (4, [.ref xA, .ref dA, .ref oA, .ref tA, .ref uA])), (tA, .inr (2, [.ref tL, .ref tN, .ref tS, .int (nI tz)])), (tL, .inl (cC, 16, .inl tl)), (tN, .inl (cI, 96, .inl tn)), (tS, .inl (cI, 16, .inl ts))]) [0, 1, 2, 3, 4] rfl
    refine vx_callv (vx_runV (As := []) (rest := []) ⟨hx, hb, hml, hown, hg⟩ (cx_K_needTable l dC dI cC cI cJ kA xA dA oA uA tA tL tN tS tl tn ts tz t1 t2 qs hl9) (gw_cwV hg wd_179 mv_K_needTable rfl rfl ⟨Nat.le_of_ble_eq_true rfl, Nat.le_of_ble_eq_true rfl⟩) (pu_preV (ci := 4) (q0 := 0) am_X_bl hK hPc2 (pu_e0 am_X_bl hE) rfl rfl) rfl rfl hl.1 rfl (lv_room (Nat.le_of_ble_eq_true rfl)) md_K_count_1 ⟨Nat.le_of_ble_eq_true rfl, Nat.le_of_ble_eq_true rfl⟩) (va_S.rf (A := fun _ => False)) (fun _ _ h => h.elim) (fun _ h => h.elim) (fun _ _ h => h.elim) (fun E ce q9 u9 t9 H1 locs1 ht hal hpx hBX hz hk hS1 hcell hcv hcl => ?_) (fun u9 t9 H1 locs1 ht hal hpost hB hz hk hS1 => ?_)
    · have hBX : xK_needTable tz = .error E := hBX
      have hEe : E = "java/lang/IllegalStateException" := by rw [xK_needTable, if_pos c1] at hBX; exact (Except.error.inj hBX).symm
      subst hEe
      exact vx_out (fun x h => (hne x h).elim) hlocks hcell hcv hcl (fun t ht2 _ => ⟨(), trivial, (by rw [xK_count, if_pos c1]), by rw [ht2]; exact hz, fun q h1 _ => by rw [ht2]; exact hk q h1 (fun h => h)⟩) (fun z hz2 => hS1.2.2 z hz2) (Nat.le_refl _) (Nat.le_refl _)
    · have hpost : xK_needTable tz = .ok () := hpost
      rw [xK_needTable, if_pos c1] at hpost
      cases hpost
  · have hPc3 := hP.sub (ws' := [(kA, .inr (4, [.ref xA, .ref dA, .ref oA, .ref tA, .ref uA])), (tA, .inr (2, [.ref tL, .ref tN, .ref tS, .int (nI tz)])), (tL, .inl (cC, 16, .inl tl)), (tN, .inl (cI, 96, .inl tn)), (tS, .inl (cI, 16, .inl ts))]) [0, 1, 2, 3, 4] rfl
    refine pu_v (W.runV (As := []) (rest := []) ⟨hx, hb, hml, hown, hg⟩ (ct_K_needTable l dC dI cC cI cJ kA xA dA oA uA tA tL tN tS tl tn ts tz t1 t2 qs (by rw [xK_needTable, if_neg c1])) (gw_cwV hg wd_179 mv_K_needTable rfl rfl ⟨Nat.le_of_ble_eq_true rfl, Nat.le_of_ble_eq_true rfl⟩) (pu_preV (ci := 4) (q0 := 0) am_X_bl hK hPc3 (pu_e0 am_X_bl hE) rfl rfl) rfl rfl hl.1 rfl (lv_room (Nat.le_of_ble_eq_true rfl)) md_K_count_1 ⟨Nat.zero_le _, Nat.zero_le _⟩) ?_
    refine lv_aload_n hx hb md_K_count_4 rfl (lv_at hl 0 rfl) ?_
    refine va_get (D := (dC, dI)) (ci := 4) (v := .ref tA) (C := mR_K) (T := mT_K) (N := 5) hx hb hg gu_K hown hK hP 0 rfl rfl 3 (by decide) (hg _ wd_100) (fun _ h9 => h9) rfl md_K_count_5 ?_
    refine lv_aload_n hx hb md_K_count_8 rfl (lv_at hl 0 rfl) ?_
    refine va_get (D := (dC, dI)) (ci := 4) (v := .ref dA) (C := mR_K) (T := mT_K) (N := 5) hx hb hg gu_K hown hK hP 0 rfl rfl 1 (by decide) (hg _ wd_98) (fun _ h9 => h9) rfl md_K_count_9 ?_
    have hPc4 := hP.sub (ws' := [(tA, .inr (2, [.ref tL, .ref tN, .ref tS, .int (nI tz)])), (tL, .inl (cC, 16, .inl tl)), (tN, .inl (cI, 96, .inl tn)), (tS, .inl (cI, 16, .inl ts)), (dA, .inr (0, [.long dw, .long dh, .long dt, .long dd]))]) [1, 2, 3, 4, 5] rfl
    refine pu_i (W.runV (As := [.ref dA]) (rest := []) ⟨hx, hb, hml, hown, hg⟩ (ct_T_hingesOf l dC dI cC cI cJ tA tL tN tS tl tn ts tz dA dw dh dt dd hz) (gw_cwV hg wd_400 mv_T_hingesOf rfl rfl ⟨Nat.le_of_ble_eq_true rfl, Nat.le_of_ble_eq_true rfl⟩) (pu_preV (ci := 2) (q0 := 0) nw_all_bl hK hPc4 (fun U _ hW => nw_warm hW hE.1.1.1) rfl rfl) rfl rfl hl.1 rfl (lv_room (Nat.le_of_ble_eq_true rfl)) md_K_count_12 ⟨Nat.zero_le _, Nat.zero_le _⟩) ?_
    exact vx_ret (W.widen (k := 1) (n := 6) (Nat.zero_le _) (Nat.zero_le _) (W.iret (v := fT_hingesOf tl tn tz dw dh dt dd) hx hb hr (fun t ht hW => ⟨⟨fT_hingesOf tl tn tz dw dh dt dd, (), rfl, (by rw [xK_count, if_neg c1]), trivial⟩, vf_0 ht⟩) (fun q hq => by cases hq) md_K_count_15 hlocks))

def xK_place (tl : Nat → Int32) (tn : Nat → Int32) (tz : Nat) (dw : Int64) (dh : Int64) (dt : Int64) (dd : Int64) (k : Int32) (part : Int32) : Except String Int64 := if (nI tz) = 0 then (.error "java/lang/IllegalStateException") else (if (fT_hingesOf tl tn tz dw dh dt dd) = (-1) then (.error "java/lang/IllegalStateException") else (if k < 0 then (.error "java/lang/IndexOutOfBoundsException") else (if k < (fT_hingesOf tl tn tz dw dh dt dd) then (if part < 0 then (.error "java/lang/IndexOutOfBoundsException") else (if part ≤ 1 then (if (fT_hingesOf tl tn tz dw dh dt dd) = 1 then (.ok (fK_partOfFraction dh 2 part)) else (.ok (fK_partOfFraction (fD_placeNumerator dh k (fT_hingesOf tl tn tz dw dh dt dd)) (4 * (Int32.toInt64 ((fT_hingesOf tl tn tz dw dh dt dd) - 1))) part))) else (.error "java/lang/IndexOutOfBoundsException"))) else (.error "java/lang/IndexOutOfBoundsException"))))
set_option maxHeartbeats 1000000 in
set_option maxRecDepth 100000 in
theorem cx_K_place (l : Launch) (dC : Nat → ClassId) (dI : Nat → Nat → Nat) (cC cI cJ : ClassId) (kA : Nat) (xA : Nat) (oA : Nat) (uA : Nat) (tA : Nat) (tL : Nat) (tN : Nat) (tS : Nat) (tl : Nat → Int32) (tn : Nat → Int32) (ts : Nat → Int32) (tz : Nat) (dA : Nat) (dw : Int64) (dh : Int64) (dt : Int64) (dd : Int64) (k : Int32) (part : Int32) (t1 t2 : Nat) (qs : Nat → Nat) (hl9 : l.stackTraces = false) (hz : tz ≤ 16) : vx_Met l my_K_place (.code my_K_place mb_K_place 4 (some .long) :: gw_l) ({ frames := 7, cells := 1, slots := 6, locals := 150 }) (pu_Pc (dC, dI) mC [(cC, .char), (cI, .int), (cJ, .long)] [(kA, .inr (4, [.ref xA, .ref dA, .ref oA, .ref tA, .ref uA])), (tA, .inr (2, [.ref tL, .ref tN, .ref tS, .int (nI tz)])), (tL, .inl (cC, 16, .inl tl)), (tN, .inl (cI, 96, .inl tn)), (tS, .inl (cI, 16, .inl ts)), (dA, .inr (0, [.long dw, .long dh, .long dt, .long dd]))] (am_X t1 t2 qs) [.ref kA, .int k, .int part]) (va_Ql (fun (r : Int64) (_ : Unit) => xK_place tl tn tz dw dh dt dd k part = .ok r) (fun _ _ => True) (fun _ => False)) (vx_X (fun _ : Unit => True) (fun E _ _ => xK_place tl tn tz dw dh dt dd k part = .error E) (fun _ => False)) 1 6 (fun _ => False) := by
  refine vx_ofW (cc := mb_K_place) (maxL := 4) (ret := (some .long)) (by decide) rfl ?_
  intro p e s m args below meth c s₁ B hml hne hv
  obtain ⟨rfl, hP, hK, hE⟩ := hv
  have hx := B.exec
  have hb := B.bytes
  have hr := B.returns
  have hts := atoms_spec (ws := (.code my_K_place mb_K_place 4 (some .long) :: gw_l)) B.pre
  have hg : ∀ w ∈ gw_l, w.before _ s = true := fun w h => hts w (List.mem_cons_of_mem _ h)
  have hown : s.vm.findClass mR_K = some m.cls := findClass_of_methodNamed B.named
  have hlocks := B.notSynchronized
  have hl := lv_entry ([.ref kA, .int k, .int part]) (n := 4) (Nat.le_of_ble_eq_true rfl)
  rw [lg_entry_eq]
  generalize (lg_sl ([.ref kA, .int k, .int part]) ++ List.replicate (4 - (lg_sl ([.ref kA, .int k, .int part])).length) Slot.unset).toArray = ls at hl ⊢
  have hl : lv_has ls 4 [(0, .ref kA), (1, .int k), (2, .int part)] := hl
  refine lv_aload_n hx hb md_K_place_0 rfl (lv_at hl 0 rfl) ?_
  by_cases c1 : (nI tz) = 0
  · have hPc2 := hP.sub (ws' := [(kA, .inr (4, [.ref xA, .ref dA, .ref oA, .ref tA, .ref uA])), (tA, .inr (2, [.ref tL, .ref tN, .ref tS, .int (nI tz)])), (tL, .inl (cC, 16, .inl tl)), (tN, .inl (cI, 96, .inl tn)), (tS, .inl (cI, 16, .inl ts))]) [0, 1, 2, 3, 4] rfl
    refine vx_callv (vx_runV (As := []) (rest := []) ⟨hx, hb, hml, hown, hg⟩ (cx_K_needTable l dC dI cC cI cJ kA xA dA oA uA tA tL tN tS tl tn ts tz t1 t2 qs hl9) (gw_cwV hg wd_179 mv_K_needTable rfl rfl ⟨Nat.le_of_ble_eq_true rfl, Nat.le_of_ble_eq_true rfl⟩) (pu_preV (ci := 4) (q0 := 0) am_X_bl hK hPc2 (pu_e0 am_X_bl hE) rfl rfl) rfl rfl hl.1 rfl (lv_room (Nat.le_of_ble_eq_true rfl)) md_K_place_1 ⟨Nat.le_of_ble_eq_true rfl, Nat.le_of_ble_eq_true rfl⟩) (va_S.rf (A := fun _ => False)) (fun _ _ h => h.elim) (fun _ h => h.elim) (fun _ _ h => h.elim) (fun E ce q9 u9 t9 H1 locs1 ht hal hpx hBX hz hk hS1 hcell hcv hcl => ?_) (fun u9 t9 H1 locs1 ht hal hpost hB hz hk hS1 => ?_)
    · have hBX : xK_needTable tz = .error E := hBX
      have hEe : E = "java/lang/IllegalStateException" := by rw [xK_needTable, if_pos c1] at hBX; exact (Except.error.inj hBX).symm
      subst hEe
      exact vx_out (fun x h => (hne x h).elim) hlocks hcell hcv hcl (fun t ht2 _ => ⟨(), trivial, (by rw [xK_place, if_pos c1]), by rw [ht2]; exact hz, fun q h1 _ => by rw [ht2]; exact hk q h1 (fun h => h)⟩) (fun z hz2 => hS1.2.2 z hz2) (Nat.le_refl _) (Nat.le_refl _)
    · have hpost : xK_needTable tz = .ok () := hpost
      rw [xK_needTable, if_pos c1] at hpost
      cases hpost
  · have hPc3 := hP.sub (ws' := [(kA, .inr (4, [.ref xA, .ref dA, .ref oA, .ref tA, .ref uA])), (tA, .inr (2, [.ref tL, .ref tN, .ref tS, .int (nI tz)])), (tL, .inl (cC, 16, .inl tl)), (tN, .inl (cI, 96, .inl tn)), (tS, .inl (cI, 16, .inl ts))]) [0, 1, 2, 3, 4] rfl
    refine pu_v (W.runV (As := []) (rest := []) ⟨hx, hb, hml, hown, hg⟩ (ct_K_needTable l dC dI cC cI cJ kA xA dA oA uA tA tL tN tS tl tn ts tz t1 t2 qs (by rw [xK_needTable, if_neg c1])) (gw_cwV hg wd_179 mv_K_needTable rfl rfl ⟨Nat.le_of_ble_eq_true rfl, Nat.le_of_ble_eq_true rfl⟩) (pu_preV (ci := 4) (q0 := 0) am_X_bl hK hPc3 (pu_e0 am_X_bl hE) rfl rfl) rfl rfl hl.1 rfl (lv_room (Nat.le_of_ble_eq_true rfl)) md_K_place_1 ⟨Nat.zero_le _, Nat.zero_le _⟩) ?_
    refine lv_aload_n hx hb md_K_place_4 rfl (lv_at hl 0 rfl) ?_
    refine va_get (D := (dC, dI)) (ci := 4) (v := .ref tA) (C := mR_K) (T := mT_K) (N := 5) hx hb hg gu_K hown hK hP 0 rfl rfl 3 (by decide) (hg _ wd_100) (fun _ h9 => h9) rfl md_K_place_5 ?_
    refine lv_aload_n hx hb md_K_place_8 rfl (lv_at hl 0 rfl) ?_
    refine va_get (D := (dC, dI)) (ci := 4) (v := .ref dA) (C := mR_K) (T := mT_K) (N := 5) hx hb hg gu_K hown hK hP 0 rfl rfl 1 (by decide) (hg _ wd_98) (fun _ h9 => h9) rfl md_K_place_9 ?_
    have hPc4 := hP.sub (ws' := [(tA, .inr (2, [.ref tL, .ref tN, .ref tS, .int (nI tz)])), (tL, .inl (cC, 16, .inl tl)), (tN, .inl (cI, 96, .inl tn)), (tS, .inl (cI, 16, .inl ts)), (dA, .inr (0, [.long dw, .long dh, .long dt, .long dd]))]) [1, 2, 3, 4, 5] rfl
    refine pu_i (W.runV (As := [.ref dA]) (rest := []) ⟨hx, hb, hml, hown, hg⟩ (ct_T_hingesOf l dC dI cC cI cJ tA tL tN tS tl tn ts tz dA dw dh dt dd hz) (gw_cwV hg wd_400 mv_T_hingesOf rfl rfl ⟨Nat.le_of_ble_eq_true rfl, Nat.le_of_ble_eq_true rfl⟩) (pu_preV (ci := 2) (q0 := 0) nw_all_bl hK hPc4 (fun U _ hW => nw_warm hW hE.1.1.1) rfl rfl) rfl rfl hl.1 rfl (lv_room (Nat.le_of_ble_eq_true rfl)) md_K_place_12 ⟨Nat.zero_le _, Nat.zero_le _⟩) ?_
    refine lv_istore_n (lv' := [(3, .int (fT_hingesOf tl tn tz dw dh dt dd)), (0, .ref kA), (1, .int k), (2, .int part)]) hx hb md_K_place_15 rfl hl (by decide) rfl (fun ls hl => ?_)
    refine lv_iload_n hx hb md_K_place_16 rfl (lv_at hl 0 rfl) ?_
    refine lv_iconst (v := (-1)) hx hb md_K_place_17 (by decide) ?_
    refine lv_icmp_ne (tgt := 31) hx hb md_K_place_18 (by decide) (fun c5 => ?_) (fun c5 => ?_)
    · refine lv_iload_n hx hb md_K_place_31 rfl (lv_at hl 2 rfl) ?_
      refine lv_if_lt (tgt := 40) hx hb md_K_place_32 (by decide) (fun c6 => ?_) (fun c6 => ?_)
      · exact vx_throwS (names := xn_R) hx hb hl9 hown (by decide +kernel) (by decide +kernel) (hg _ wd_255) (hg _ wd_11) (ak_133 hE.1) (xa_IOB hg hE) xo_IOB (vx_Zq.narrow hE.1.2.1.1 (fun _ h => h.elim)) (vx_Zq.narrow hE.1.2.1.2 (fun _ h => h.elim)) (A := fun _ => False) (va_S.rf) (hl.1.trans hml.symm) md_K_place_40 md_K_place_43 md_K_place_44 md_K_place_46 md_K_place_49 (fun x h => (hne x h).elim) (Nat.le_of_ble_eq_true rfl) (Nat.le_of_ble_eq_true rfl) (Nat.le_of_ble_eq_true rfl) (Nat.le_of_ble_eq_true rfl) hlocks (fun t hal hz hk => ⟨(), trivial, (by rw [xK_place, if_neg c1, if_neg c5, if_pos c6]), hz, fun q h1 _ => hk q h1⟩) (fun z hz => by cases hz) (Nat.le_refl _) (Nat.le_refl _)
      · refine lv_iload_n hx hb md_K_place_35 rfl (lv_at hl 2 rfl) ?_
        refine lv_iload_n hx hb md_K_place_36 rfl (lv_at hl 0 rfl) ?_
        refine lv_icmp_lt (tgt := 50) hx hb md_K_place_37 (by decide) (fun c7 => ?_) (fun c7 => ?_)
        · refine lv_iload_n hx hb md_K_place_50 rfl (lv_at hl 3 rfl) ?_
          by_cases c8 : part < 0
          · have hPc9 := hP.sub (ws' := []) [] rfl
            refine vx_callv (vx_runS (As := [.int part]) (rest := []) ⟨hx, hb, hml, hown, hg⟩ (cx_K_needPart l dC dI cC cI cJ part t1 t2 qs hl9) (gw_cwS hg wd_378 mv_K_needPart rfl rfl ⟨Nat.le_of_ble_eq_true rfl, Nat.le_of_ble_eq_true rfl⟩) (pu_preS am_X_bl hK hPc9 (pu_e0 am_X_bl hE)) rfl rfl hl.1 rfl (lv_room (Nat.le_of_ble_eq_true rfl)) md_K_place_51 ⟨Nat.le_of_ble_eq_true rfl, Nat.le_of_ble_eq_true rfl⟩) (va_S.rf (A := fun _ => False)) (fun _ _ h => h.elim) (fun _ h => h.elim) (fun _ _ h => h.elim) (fun E ce q9 u9 t9 H1 locs1 ht hal hpx hBX hz hk hS1 hcell hcv hcl => ?_) (fun u9 t9 H1 locs1 ht hal hpost hB hz hk hS1 => ?_)
            · have hBX : xK_needPart part = .error E := hBX
              have hEe : E = "java/lang/IndexOutOfBoundsException" := by rw [xK_needPart, if_pos c8] at hBX; exact (Except.error.inj hBX).symm
              subst hEe
              exact vx_out (fun x h => (hne x h).elim) hlocks hcell hcv hcl (fun t ht2 _ => ⟨(), trivial, (by rw [xK_place, if_neg c1, if_neg c5, if_neg c6, if_pos c7, if_pos c8]), by rw [ht2]; exact hz, fun q h1 _ => by rw [ht2]; exact hk q h1 (fun h => h)⟩) (fun z hz2 => hS1.2.2 z hz2) (Nat.le_refl _) (Nat.le_refl _)
            · have hpost : xK_needPart part = .ok () := hpost
              rw [xK_needPart, if_pos c8] at hpost
              cases hpost
          · by_cases c10 : part ≤ 1
            · have hPc11 := hP.sub (ws' := []) [] rfl
              refine pu_v (W.runS (As := [.int part]) (rest := []) ⟨hx, hb, hml, hown, hg⟩ (ct_K_needPart l dC dI cC cI cJ part t1 t2 qs (by rw [xK_needPart, if_neg c8, if_pos c10])) (gw_cwS hg wd_378 mv_K_needPart rfl rfl ⟨Nat.le_of_ble_eq_true rfl, Nat.le_of_ble_eq_true rfl⟩) (pu_preS am_X_bl hK hPc11 (pu_e0 am_X_bl hE)) rfl rfl hl.1 rfl (lv_room (Nat.le_of_ble_eq_true rfl)) md_K_place_51 ⟨Nat.zero_le _, Nat.zero_le _⟩) ?_
              refine lv_iload_n hx hb md_K_place_54 rfl (lv_at hl 0 rfl) ?_
              refine lv_iconst (v := 1) hx hb md_K_place_55 (by decide) ?_
              refine lv_icmp_ne (tgt := 74) hx hb md_K_place_56 (by decide) (fun c12 => ?_) (fun c12 => ?_)
              · refine lv_aload_n hx hb md_K_place_74 rfl (lv_at hl 1 rfl) ?_
                refine va_get (D := (dC, dI)) (ci := 4) (v := .ref dA) (C := mR_K) (T := mT_K) (N := 5) hx hb hg gu_K hown hK hP 0 rfl rfl 1 (by decide) (hg _ wd_98) (fun _ h9 => h9) rfl md_K_place_75 ?_
                refine lv_iload_n hx hb md_K_place_78 rfl (lv_at hl 2 rfl) ?_
                refine lv_iload_n hx hb md_K_place_79 rfl (lv_at hl 0 rfl) ?_
                have hPc13 := hP.sub (ws' := [(dA, .inr (0, [.long dw, .long dh, .long dt, .long dd]))]) [5] rfl
                refine pu_l (W.runV (As := [.int k, .int (fT_hingesOf tl tn tz dw dh dt dd)]) (rest := []) ⟨hx, hb, hml, hown, hg⟩ (ct_D_placeNumerator l dC dI cC cI cJ dA dw dh dt dd k (fT_hingesOf tl tn tz dw dh dt dd)) (gw_cwV hg wd_417 mv_D_placeNumerator rfl rfl ⟨Nat.le_of_ble_eq_true rfl, Nat.le_of_ble_eq_true rfl⟩) (pu_preV (ci := 0) (q0 := 0) pu_blT hK hPc13 pu_e1 rfl rfl) rfl rfl hl.1 rfl (lv_room (Nat.le_of_ble_eq_true rfl)) md_K_place_80 ⟨Nat.zero_le _, Nat.zero_le _⟩) ?_
                refine lv_ldc2 hx hb hown (hg _ wd_427) md_K_place_83 ?_
                refine lv_iload_n hx hb md_K_place_86 rfl (lv_at hl 0 rfl) ?_
                refine lv_iconst (v := 1) hx hb md_K_place_87 (by decide) ?_
                refine lv_isub hx hb md_K_place_88 ?_
                refine lv_i2l (v := Int32.toInt64 ((fT_hingesOf tl tn tz dw dh dt dd) - 1)) hx hb md_K_place_89 rfl ?_
                refine lv_lmul hx hb md_K_place_90 ?_
                refine lv_iload_n hx hb md_K_place_91 rfl (lv_at hl 3 rfl) ?_
                have hPc14 := hP.sub (ws' := []) [] rfl
                refine pu_l (W.runS (As := [.long (fD_placeNumerator dh k (fT_hingesOf tl tn tz dw dh dt dd)), .long (4 * (Int32.toInt64 ((fT_hingesOf tl tn tz dw dh dt dd) - 1))), .int part]) (rest := []) ⟨hx, hb, hml, hown, hg⟩ (ct_K_partOfFraction l dC dI cC cI cJ (fD_placeNumerator dh k (fT_hingesOf tl tn tz dw dh dt dd)) (4 * (Int32.toInt64 ((fT_hingesOf tl tn tz dw dh dt dd) - 1))) part) (gw_cwS hg wd_387 mv_K_partOfFraction rfl rfl ⟨Nat.le_of_ble_eq_true rfl, Nat.le_of_ble_eq_true rfl⟩) (pu_preS pu_blT hK hPc14 pu_e1) rfl rfl hl.1 rfl (lv_room (Nat.le_of_ble_eq_true rfl)) md_K_place_92 ⟨Nat.zero_le _, Nat.zero_le _⟩) ?_
                exact vx_ret (W.widen (k := 1) (n := 6) (Nat.zero_le _) (Nat.zero_le _) (W.lret (v := fK_partOfFraction (fD_placeNumerator dh k (fT_hingesOf tl tn tz dw dh dt dd)) (4 * (Int32.toInt64 ((fT_hingesOf tl tn tz dw dh dt dd) - 1))) part) hx hb hr (fun t ht hW => ⟨⟨fK_partOfFraction (fD_placeNumerator dh k (fT_hingesOf tl tn tz dw dh dt dd)) (4 * (Int32.toInt64 ((fT_hingesOf tl tn tz dw dh dt dd) - 1))) part, (), rfl, (by rw [xK_place, if_neg c1, if_neg c5, if_neg c6, if_pos c7, if_neg c8, if_pos c10, if_neg c12]), trivial⟩, vf_0 ht⟩) (fun q hq => by cases hq) md_K_place_95 hlocks))
              · refine lv_aload_n hx hb md_K_place_59 rfl (lv_at hl 1 rfl) ?_
                refine va_get (D := (dC, dI)) (ci := 4) (v := .ref dA) (C := mR_K) (T := mT_K) (N := 5) hx hb hg gu_K hown hK hP 0 rfl rfl 1 (by decide) (hg _ wd_98) (fun _ h9 => h9) rfl md_K_place_60 ?_
                refine va_getN (D := (dC, dI)) (ci := 0) (v := .long dh) (C := mR_D) (T := mT_D) (N := 4) hx hb hg gu_D hown hK hP 5 rfl rfl 1 (by decide) (va_Nw.use rfl (nw_47 hE.1.1.1)) (fun _ h9 => h9) rfl md_K_place_63 ?_
                refine lv_ldc2 hx hb hown (hg _ wd_416) md_K_place_66 ?_
                refine lv_iload_n hx hb md_K_place_69 rfl (lv_at hl 3 rfl) ?_
                have hPc15 := hP.sub (ws' := []) [] rfl
                refine pu_l (W.runS (As := [.long dh, .long 2, .int part]) (rest := []) ⟨hx, hb, hml, hown, hg⟩ (ct_K_partOfFraction l dC dI cC cI cJ dh 2 part) (gw_cwS hg wd_387 mv_K_partOfFraction rfl rfl ⟨Nat.le_of_ble_eq_true rfl, Nat.le_of_ble_eq_true rfl⟩) (pu_preS pu_blT hK hPc15 pu_e1) rfl rfl hl.1 rfl (lv_room (Nat.le_of_ble_eq_true rfl)) md_K_place_70 ⟨Nat.zero_le _, Nat.zero_le _⟩) ?_
                exact vx_ret (W.widen (k := 1) (n := 6) (Nat.zero_le _) (Nat.zero_le _) (W.lret (v := fK_partOfFraction dh 2 part) hx hb hr (fun t ht hW => ⟨⟨fK_partOfFraction dh 2 part, (), rfl, (by rw [xK_place, if_neg c1, if_neg c5, if_neg c6, if_pos c7, if_neg c8, if_pos c10, if_pos c12]), trivial⟩, vf_0 ht⟩) (fun q hq => by cases hq) md_K_place_73 hlocks))
            · have hPc16 := hP.sub (ws' := []) [] rfl
              refine vx_callv (vx_runS (As := [.int part]) (rest := []) ⟨hx, hb, hml, hown, hg⟩ (cx_K_needPart l dC dI cC cI cJ part t1 t2 qs hl9) (gw_cwS hg wd_378 mv_K_needPart rfl rfl ⟨Nat.le_of_ble_eq_true rfl, Nat.le_of_ble_eq_true rfl⟩) (pu_preS am_X_bl hK hPc16 (pu_e0 am_X_bl hE)) rfl rfl hl.1 rfl (lv_room (Nat.le_of_ble_eq_true rfl)) md_K_place_51 ⟨Nat.le_of_ble_eq_true rfl, Nat.le_of_ble_eq_true rfl⟩) (va_S.rf (A := fun _ => False)) (fun _ _ h => h.elim) (fun _ h => h.elim) (fun _ _ h => h.elim) (fun E ce q9 u9 t9 H1 locs1 ht hal hpx hBX hz hk hS1 hcell hcv hcl => ?_) (fun u9 t9 H1 locs1 ht hal hpost hB hz hk hS1 => ?_)
              · have hBX : xK_needPart part = .error E := hBX
                have hEe : E = "java/lang/IndexOutOfBoundsException" := by rw [xK_needPart, if_neg c8, if_neg c10] at hBX; exact (Except.error.inj hBX).symm
                subst hEe
                exact vx_out (fun x h => (hne x h).elim) hlocks hcell hcv hcl (fun t ht2 _ => ⟨(), trivial, (by rw [xK_place, if_neg c1, if_neg c5, if_neg c6, if_pos c7, if_neg c8, if_neg c10]), by rw [ht2]; exact hz, fun q h1 _ => by rw [ht2]; exact hk q h1 (fun h => h)⟩) (fun z hz2 => hS1.2.2 z hz2) (Nat.le_refl _) (Nat.le_refl _)
              · have hpost : xK_needPart part = .ok () := hpost
                rw [xK_needPart, if_neg c8, if_neg c10] at hpost
                cases hpost
        · exact vx_throwS (names := xn_R) hx hb hl9 hown (by decide +kernel) (by decide +kernel) (hg _ wd_255) (hg _ wd_11) (ak_133 hE.1) (xa_IOB hg hE) xo_IOB (vx_Zq.narrow hE.1.2.1.1 (fun _ h => h.elim)) (vx_Zq.narrow hE.1.2.1.2 (fun _ h => h.elim)) (A := fun _ => False) (va_S.rf) (hl.1.trans hml.symm) md_K_place_40 md_K_place_43 md_K_place_44 md_K_place_46 md_K_place_49 (fun x h => (hne x h).elim) (Nat.le_of_ble_eq_true rfl) (Nat.le_of_ble_eq_true rfl) (Nat.le_of_ble_eq_true rfl) (Nat.le_of_ble_eq_true rfl) hlocks (fun t hal hz hk => ⟨(), trivial, (by rw [xK_place, if_neg c1, if_neg c5, if_neg c6, if_neg c7]), hz, fun q h1 _ => hk q h1⟩) (fun z hz => by cases hz) (Nat.le_refl _) (Nat.le_refl _)
    · exact vx_throwS (names := xn_R) hx hb hl9 hown (by decide +kernel) (by decide +kernel) (hg _ wd_183) (hg _ wd_10) (ak_130 hE.1) (xa_ISE hg hE) xo_ISE (vx_Zq.narrow hE.1.2.1.1 (fun _ h => h.elim)) (vx_Zq.narrow hE.1.2.1.2 (fun _ h => h.elim)) (A := fun _ => False) (va_S.rf) (hl.1.trans hml.symm) md_K_place_21 md_K_place_24 md_K_place_25 md_K_place_27 md_K_place_30 (fun x h => (hne x h).elim) (Nat.le_of_ble_eq_true rfl) (Nat.le_of_ble_eq_true rfl) (Nat.le_of_ble_eq_true rfl) (Nat.le_of_ble_eq_true rfl) hlocks (fun t hal hz hk => ⟨(), trivial, (by rw [xK_place, if_neg c1, if_pos c5]), hz, fun q h1 _ => hk q h1⟩) (fun z hz => by cases hz) (Nat.le_refl _) (Nat.le_refl _)

def xK_hole (ox : Nat → Int32) (oy : Nat → Int32) (oq : Nat → Int32) (k : Int32) (x0 : Int64) (y0 : Int64) (r0 : Int64) : Except String (Int32 × (Nat → Int32) × (Nat → Int32) × (Nat → Int32)) := if k < 0 then (.error "java/lang/IndexOutOfBoundsException") else (if k < 16 then (if (fK_isWithin x0 (-100000) 100000) = 0 then (.error "java/lang/IllegalArgumentException") else (if (fK_isWithin y0 (-100000) 100000) = 0 then (.error "java/lang/IllegalArgumentException") else (if (fK_isWithin r0 0 1000) = 0 then (.error "java/lang/IllegalArgumentException") else (.ok ((fH_change ox oy oq k x0 y0 r0).1, (fH_change ox oy oq k x0 y0 r0).2.1, (fH_change ox oy oq k x0 y0 r0).2.2.1, (fH_change ox oy oq k x0 y0 r0).2.2.2))))) else (.error "java/lang/IndexOutOfBoundsException"))
set_option maxHeartbeats 1000000 in
set_option maxRecDepth 100000 in
theorem cx_K_hole (l : Launch) (dC : Nat → ClassId) (dI : Nat → Nat → Nat) (cC cI cJ : ClassId) (kA : Nat) (xA : Nat) (dA : Nat) (tA : Nat) (uA : Nat) (oA : Nat) (oX : Nat) (oY : Nat) (oR : Nat) (ox : Nat → Int32) (oy : Nat → Int32) (oq : Nat → Int32) (k : Int32) (x0 : Int64) (y0 : Int64) (r0 : Int64) (t1 t2 : Nat) (qs : Nat → Nat) (hl9 : l.stackTraces = false) : vx_Met l my_K_hole (.code my_K_hole mb_K_hole 8 (some .boolean) :: gw_l) ({ frames := 7, cells := 1, slots := 6, locals := 150 }) (mu_Pc (dC, dI) mC [(cC, .char), (cI, .int), (cJ, .long)] [(kA, .inr (4, [.ref xA, .ref dA, .ref oA, .ref tA, .ref uA])), (oA, .inr (1, [.ref oX, .ref oY, .ref oR])), (oX, .inl (cI, 16, .inl ox)), (oY, .inl (cI, 16, .inl oy)), (oR, .inl (cI, 16, .inl oq))] (am_X t1 t2 qs) [.ref kA, .int k, .long x0, .long y0, .long r0]) (va_Qi (fun (r : Int32) (u : (Nat → Int32) × (Nat → Int32) × (Nat → Int32)) => xK_hole ox oy oq k x0 y0 r0 = .ok (r, u)) (fun u t => va_P (dC, dI) mC [(kA, .inr (4, [.ref xA, .ref dA, .ref oA, .ref tA, .ref uA])), (oA, .inr (1, [.ref oX, .ref oY, .ref oR])), (oX, .inl (cI, 16, .inl u.1)), (oY, .inl (cI, 16, .inl u.2.1)), (oR, .inl (cI, 16, .inl u.2.2))] t.heap) (mu_A [(kA, .inr (4, [.ref xA, .ref dA, .ref oA, .ref tA, .ref uA])), (oA, .inr (1, [.ref oX, .ref oY, .ref oR])), (oX, .inl (cI, 16, .inl ox)), (oY, .inl (cI, 16, .inl oy)), (oR, .inl (cI, 16, .inl oq))])) (vx_X (fun _ : Unit => True) (fun E _ _ => xK_hole ox oy oq k x0 y0 r0 = .error E) (fun _ => False)) 1 6 (mu_A [(kA, .inr (4, [.ref xA, .ref dA, .ref oA, .ref tA, .ref uA])), (oA, .inr (1, [.ref oX, .ref oY, .ref oR])), (oX, .inl (cI, 16, .inl ox)), (oY, .inl (cI, 16, .inl oy)), (oR, .inl (cI, 16, .inl oq))]) := by
  refine vx_ofW (cc := mb_K_hole) (maxL := 8) (ret := (some .boolean)) (by decide) rfl ?_
  intro p e s m args below meth c s₁ B hml hne hv
  obtain ⟨rfl, hP, hK, hD0, hE⟩ := hv
  have hx := B.exec
  have hb := B.bytes
  have hr := B.returns
  have hts := atoms_spec (ws := (.code my_K_hole mb_K_hole 8 (some .boolean) :: gw_l)) B.pre
  have hg : ∀ w ∈ gw_l, w.before _ s = true := fun w h => hts w (List.mem_cons_of_mem _ h)
  have hown : s.vm.findClass mR_K = some m.cls := findClass_of_methodNamed B.named
  have hlocks := B.notSynchronized
  have hD := mu_self hD0
  have hS : va_S (mu_A [(kA, .inr (4, [.ref xA, .ref dA, .ref oA, .ref tA, .ref uA])), (oA, .inr (1, [.ref oX, .ref oY, .ref oR])), (oX, .inl (cI, 16, .inl ox)), (oY, .inl (cI, 16, .inl oy)), (oR, .inl (cI, 16, .inl oq))]) s.heap s.heap [] := va_S.rf
  generalize hAe : mu_A [(kA, .inr (4, [.ref xA, .ref dA, .ref oA, .ref tA, .ref uA])), (oA, .inr (1, [.ref oX, .ref oY, .ref oR])), (oX, .inl (cI, 16, .inl ox)), (oY, .inl (cI, 16, .inl oy)), (oR, .inl (cI, 16, .inl oq))] = A at hD hS ⊢
  have hl := lv_entry ([.ref kA, .int k, .long x0, .long y0, .long r0]) (n := 8) (Nat.le_of_ble_eq_true rfl)
  rw [lg_entry_eq]
  generalize (lg_sl ([.ref kA, .int k, .long x0, .long y0, .long r0]) ++ List.replicate (8 - (lg_sl ([.ref kA, .int k, .long x0, .long y0, .long r0])).length) Slot.unset).toArray = ls at hl ⊢
  have hl : lv_has ls 8 [(0, .ref kA), (1, .int k), (2, .long x0), (4, .long y0), (6, .long r0)] := hl
  refine lv_iload_n hx hb md_K_hole_0 rfl (lv_at hl 1 rfl) ?_
  by_cases c1 : k < 0
  · have hPc2 := hP.sub (ws' := []) [] rfl
    refine vx_callv (vx_runS (As := [.int k]) (rest := []) ⟨hx, hb, hml, hown, hg⟩ (cx_K_needHole l dC dI cC cI cJ k t1 t2 qs hl9) (gw_cwS hg wd_435 mv_K_needHole rfl rfl ⟨Nat.le_of_ble_eq_true rfl, Nat.le_of_ble_eq_true rfl⟩) (pu_preS am_X_bl hK hPc2 (pu_e0 am_X_bl hE)) rfl rfl hl.1 rfl (lv_room (Nat.le_of_ble_eq_true rfl)) md_K_hole_1 ⟨Nat.le_of_ble_eq_true rfl, Nat.le_of_ble_eq_true rfl⟩) hS (fun _ _ h => h.elim) (fun _ h => h.elim) (fun _ _ h => h.elim) (fun E ce q9 u9 t9 H1 locs1 ht hal hpx hBX hz hk hS1 hcell hcv hcl => ?_) (fun u9 t9 H1 locs1 ht hal hpost hB hz hk hS1 => ?_)
    · have hBX : xK_needHole k = .error E := hBX
      have hEe : E = "java/lang/IndexOutOfBoundsException" := by rw [xK_needHole, if_pos c1] at hBX; exact (Except.error.inj hBX).symm
      subst hEe
      exact vx_out (fun x h => (hne x h).elim) hlocks hcell hcv hcl (fun t ht2 _ => ⟨(), trivial, (by rw [xK_hole, if_pos c1]), by rw [ht2]; exact hz, fun q h1 _ => by rw [ht2]; exact hk q h1 (fun h => h)⟩) (fun z hz2 => hS1.2.2 z hz2) (Nat.le_refl _) (Nat.le_refl _)
    · have hpost : xK_needHole k = .ok () := hpost
      rw [xK_needHole, if_pos c1] at hpost
      cases hpost
  · by_cases c3 : k < 16
    · have hPc4 := hP.sub (ws' := []) [] rfl
      refine pu_v (W.runS (As := [.int k]) (rest := []) ⟨hx, hb, hml, hown, hg⟩ (ct_K_needHole l dC dI cC cI cJ k t1 t2 qs (by rw [xK_needHole, if_neg c1, if_pos c3])) (gw_cwS hg wd_435 mv_K_needHole rfl rfl ⟨Nat.le_of_ble_eq_true rfl, Nat.le_of_ble_eq_true rfl⟩) (pu_preS am_X_bl hK hPc4 (pu_e0 am_X_bl hE)) rfl rfl hl.1 rfl (lv_room (Nat.le_of_ble_eq_true rfl)) md_K_hole_1 ⟨Nat.zero_le _, Nat.zero_le _⟩) ?_
      have hk := nx_h c1 c3
      refine lv_lload_n hx hb md_K_hole_4 rfl (lv_at hl 2 rfl) ?_
      refine lv_ldc hx hb hown (hg _ wd_439) md_K_hole_5 ?_
      refine lv_ldc hx hb hown (hg _ wd_440) md_K_hole_7 ?_
      have hPc5 := hP.sub (ws' := []) [] rfl
      refine pu_i (W.runS (As := [.long x0, .int (-100000), .int 100000]) (rest := []) ⟨hx, hb, hml, hown, hg⟩ (ct_K_isWithin l dC dI cC cI cJ x0 (-100000) 100000) (gw_cwS hg wd_363 mv_K_isWithin rfl rfl ⟨Nat.le_of_ble_eq_true rfl, Nat.le_of_ble_eq_true rfl⟩) (pu_preS pu_blT hK hPc5 pu_e1) rfl rfl hl.1 rfl (lv_room (Nat.le_of_ble_eq_true rfl)) md_K_hole_9 ⟨Nat.zero_le _, Nat.zero_le _⟩) ?_
      refine lv_if_eq (tgt := 39) hx hb md_K_hole_12 (by decide) (fun c6 => ?_) (fun c6 => ?_)
      · exact vx_throwS (names := xn_R) hx hb hl9 hown (by decide +kernel) (by decide +kernel) (hg _ wd_286) (hg _ wd_12) (ak_156 hE.1) (xa_IAE hg hE) xo_IAE (vx_Zq.narrow hE.1.2.1.1 (fun _ h => h.elim)) (vx_Zq.narrow hE.1.2.1.2 (fun _ h => h.elim)) (A := fun _ => False) (va_S.rf) (hl.1.trans hml.symm) md_K_hole_39 md_K_hole_42 md_K_hole_43 md_K_hole_45 md_K_hole_48 (fun x h => (hne x h).elim) (Nat.le_of_ble_eq_true rfl) (Nat.le_of_ble_eq_true rfl) (Nat.le_of_ble_eq_true rfl) (Nat.le_of_ble_eq_true rfl) hlocks (fun t hal hz hk => ⟨(), trivial, (by rw [xK_hole, if_neg c1, if_pos c3, if_pos c6]), hz, fun q h1 _ => hk q h1⟩) (fun z hz => by cases hz) (Nat.le_refl _) (Nat.le_refl _)
      · refine lv_lload hx hb md_K_hole_15 (lv_at hl 3 rfl) ?_
        refine lv_ldc hx hb hown (hg _ wd_439) md_K_hole_17 ?_
        refine lv_ldc hx hb hown (hg _ wd_440) md_K_hole_19 ?_
        have hPc7 := hP.sub (ws' := []) [] rfl
        refine pu_i (W.runS (As := [.long y0, .int (-100000), .int 100000]) (rest := []) ⟨hx, hb, hml, hown, hg⟩ (ct_K_isWithin l dC dI cC cI cJ y0 (-100000) 100000) (gw_cwS hg wd_363 mv_K_isWithin rfl rfl ⟨Nat.le_of_ble_eq_true rfl, Nat.le_of_ble_eq_true rfl⟩) (pu_preS pu_blT hK hPc7 pu_e1) rfl rfl hl.1 rfl (lv_room (Nat.le_of_ble_eq_true rfl)) md_K_hole_21 ⟨Nat.zero_le _, Nat.zero_le _⟩) ?_
        refine lv_if_eq (tgt := 39) hx hb md_K_hole_24 (by decide) (fun c8 => ?_) (fun c8 => ?_)
        · exact vx_throwS (names := xn_R) hx hb hl9 hown (by decide +kernel) (by decide +kernel) (hg _ wd_286) (hg _ wd_12) (ak_156 hE.1) (xa_IAE hg hE) xo_IAE (vx_Zq.narrow hE.1.2.1.1 (fun _ h => h.elim)) (vx_Zq.narrow hE.1.2.1.2 (fun _ h => h.elim)) (A := fun _ => False) (va_S.rf) (hl.1.trans hml.symm) md_K_hole_39 md_K_hole_42 md_K_hole_43 md_K_hole_45 md_K_hole_48 (fun x h => (hne x h).elim) (Nat.le_of_ble_eq_true rfl) (Nat.le_of_ble_eq_true rfl) (Nat.le_of_ble_eq_true rfl) (Nat.le_of_ble_eq_true rfl) hlocks (fun t hal hz hk => ⟨(), trivial, (by rw [xK_hole, if_neg c1, if_pos c3, if_neg c6, if_pos c8]), hz, fun q h1 _ => hk q h1⟩) (fun z hz => by cases hz) (Nat.le_refl _) (Nat.le_refl _)
        · refine lv_lload hx hb md_K_hole_27 (lv_at hl 4 rfl) ?_
          refine lv_iconst (v := 0) hx hb md_K_hole_29 (by decide) ?_
          refine lv_sipush (v := 1000) hx hb md_K_hole_30 (by decide) ?_
          have hPc9 := hP.sub (ws' := []) [] rfl
          refine pu_i (W.runS (As := [.long r0, .int 0, .int 1000]) (rest := []) ⟨hx, hb, hml, hown, hg⟩ (ct_K_isWithin l dC dI cC cI cJ r0 0 1000) (gw_cwS hg wd_363 mv_K_isWithin rfl rfl ⟨Nat.le_of_ble_eq_true rfl, Nat.le_of_ble_eq_true rfl⟩) (pu_preS pu_blT hK hPc9 pu_e1) rfl rfl hl.1 rfl (lv_room (Nat.le_of_ble_eq_true rfl)) md_K_hole_33 ⟨Nat.zero_le _, Nat.zero_le _⟩) ?_
          refine lv_if_ne (tgt := 49) hx hb md_K_hole_36 (by decide) (fun c10 => ?_) (fun c10 => ?_)
          · refine lv_aload_n hx hb md_K_hole_49 rfl (lv_at hl 0 rfl) ?_
            refine va_get (D := (dC, dI)) (ci := 4) (v := .ref oA) (C := mR_K) (T := mT_K) (N := 5) hx hb hg gu_K hown hK hP 0 rfl rfl 2 (by decide) (hg _ wd_99) (fun _ h9 => h9) rfl md_K_hole_50 ?_
            refine lv_iload_n hx hb md_K_hole_53 rfl (lv_at hl 1 rfl) ?_
            refine lv_lload_n hx hb md_K_hole_54 rfl (lv_at hl 2 rfl) ?_
            refine lv_lload hx hb md_K_hole_55 (lv_at hl 3 rfl) ?_
            refine lv_lload hx hb md_K_hole_57 (lv_at hl 4 rfl) ?_
            have hPc11 := hP.sub (ws' := [(oA, .inr (1, [.ref oX, .ref oY, .ref oR])), (oX, .inl (cI, 16, .inl ox)), (oY, .inl (cI, 16, .inl oy)), (oR, .inl (cI, 16, .inl oq))]) [1, 2, 3, 4] rfl
            have hDc12 := hD.sub (ws' := [(oA, .inr (1, [.ref oX, .ref oY, .ref oR])), (oX, .inl (cI, 16, .inl ox)), (oY, .inl (cI, 16, .inl oy)), (oR, .inl (cI, 16, .inl oq))]) [1, 2, 3, 4] (by decide) rfl
            have hFc13 := mu_free (wc := [(oA, .inr (1, [.ref oX, .ref oY, .ref oR])), (oX, .inl (cI, 16, .inl ox)), (oY, .inl (cI, 16, .inl oy)), (oR, .inl (cI, 16, .inl oq))]) hD [1, 2, 3, 4] rfl
            refine va_calli (va_runV (As := [.int k, .long x0, .long y0, .long r0]) (rest := []) ⟨hx, hb, hml, hown, hg⟩ (ct_H_change l dC dI cC cI cJ oA oX oY oR ox oy oq k x0 y0 r0 hk) (gw_cwV hg wd_442 mv_H_change rfl rfl ⟨Nat.le_of_ble_eq_true rfl, Nat.le_of_ble_eq_true rfl⟩) (mu_preV (ci := 1) (q0 := 0) pu_blT hK hPc11 hDc12 pu_e1 rfl rfl) rfl rfl hl.1 rfl (lv_room (Nat.le_of_ble_eq_true rfl)) md_K_hole_59 ⟨Nat.zero_le _, Nat.zero_le _⟩) hS (fun q _ h => hFc13 q h) hFc13 (fun r9 u9 t9 H locs ht hvm hw hB hz1 hk1 hS => ?_)
            have hw : (r9, u9) = (fH_change ox oy oq k x0 y0 r0) := hw
            have er : r9 = (fH_change ox oy oq k x0 y0 r0).1 := by rw [← hw]
            have hw : u9 = (fH_change ox oy oq k x0 y0 r0).2 := by rw [← hw]
            subst hw
            subst er
            have hB : va_P (dC, dI) mC [(oA, .inr (1, [.ref oX, .ref oY, .ref oR])), (oX, .inl (cI, 16, .inl ((fH_change ox oy oq k x0 y0 r0).2.1))), (oY, .inl (cI, 16, .inl ((fH_change ox oy oq k x0 y0 r0).2.2.1))), (oR, .inl (cI, 16, .inl ((fH_change ox oy oq k x0 y0 r0).2.2.2)))] H := by rw [← ht]; exact hB
            have hP := mu_join (ws' := [(kA, .inr (4, [.ref xA, .ref dA, .ref oA, .ref tA, .ref uA])), (oA, .inr (1, [.ref oX, .ref oY, .ref oR])), (oX, .inl (cI, 16, .inl ((fH_change ox oy oq k x0 y0 r0).2.1))), (oY, .inl (cI, 16, .inl ((fH_change ox oy oq k x0 y0 r0).2.2.1))), (oR, .inl (cI, 16, .inl ((fH_change ox oy oq k x0 y0 r0).2.2.2)))]) hP hD [1, 2, 3, 4] [.inr 0, .inl 0, .inl 1, .inl 2, .inl 3] rfl rfl rfl hk1 hB
            have hD : va_D A [(kA, .inr (4, [.ref xA, .ref dA, .ref oA, .ref tA, .ref uA])), (oA, .inr (1, [.ref oX, .ref oY, .ref oR])), (oX, .inl (cI, 16, .inl ((fH_change ox oy oq k x0 y0 r0).2.1))), (oY, .inl (cI, 16, .inl ((fH_change ox oy oq k x0 y0 r0).2.2.1))), (oR, .inl (cI, 16, .inl ((fH_change ox oy oq k x0 y0 r0).2.2.2)))] := mu_D (ws := [(kA, .inr (4, [.ref xA, .ref dA, .ref oA, .ref tA, .ref uA])), (oA, .inr (1, [.ref oX, .ref oY, .ref oR])), (oX, .inl (cI, 16, .inl ox)), (oY, .inl (cI, 16, .inl oy)), (oR, .inl (cI, 16, .inl oq))]) rfl hD
            exact vx_ret (W.widen (k := 1) (n := 6) (Nat.zero_le _) (Nat.zero_le _) (W.zret (v := (fH_change ox oy oq k x0 y0 r0).1) hx hb hr (zH_change _ _ _ _ _ _ _) (fun t ht hW => ⟨⟨(fH_change ox oy oq k x0 y0 r0).1, ((fH_change ox oy oq k x0 y0 r0).2.1, (fH_change ox oy oq k x0 y0 r0).2.2.1, (fH_change ox oy oq k x0 y0 r0).2.2.2), rfl, (by rw [xK_hole, if_neg c1, if_pos c3, if_neg c6, if_neg c8, if_neg c10]), by have h9 := hP; rw [← ht] at h9; exact h9⟩, hS.F ht⟩) hS.2.2 md_K_hole_62 hlocks))
          · exact vx_throwS (names := xn_R) hx hb hl9 hown (by decide +kernel) (by decide +kernel) (hg _ wd_286) (hg _ wd_12) (ak_156 hE.1) (xa_IAE hg hE) xo_IAE (vx_Zq.narrow hE.1.2.1.1 (fun _ h => h.elim)) (vx_Zq.narrow hE.1.2.1.2 (fun _ h => h.elim)) (A := fun _ => False) (va_S.rf) (hl.1.trans hml.symm) md_K_hole_39 md_K_hole_42 md_K_hole_43 md_K_hole_45 md_K_hole_48 (fun x h => (hne x h).elim) (Nat.le_of_ble_eq_true rfl) (Nat.le_of_ble_eq_true rfl) (Nat.le_of_ble_eq_true rfl) (Nat.le_of_ble_eq_true rfl) hlocks (fun t hal hz hk => ⟨(), trivial, (by rw [xK_hole, if_neg c1, if_pos c3, if_neg c6, if_neg c8, if_pos c10]), hz, fun q h1 _ => hk q h1⟩) (fun z hz => by cases hz) (Nat.le_refl _) (Nat.le_refl _)
    · have hPc14 := hP.sub (ws' := []) [] rfl
      refine vx_callv (vx_runS (As := [.int k]) (rest := []) ⟨hx, hb, hml, hown, hg⟩ (cx_K_needHole l dC dI cC cI cJ k t1 t2 qs hl9) (gw_cwS hg wd_435 mv_K_needHole rfl rfl ⟨Nat.le_of_ble_eq_true rfl, Nat.le_of_ble_eq_true rfl⟩) (pu_preS am_X_bl hK hPc14 (pu_e0 am_X_bl hE)) rfl rfl hl.1 rfl (lv_room (Nat.le_of_ble_eq_true rfl)) md_K_hole_1 ⟨Nat.le_of_ble_eq_true rfl, Nat.le_of_ble_eq_true rfl⟩) hS (fun _ _ h => h.elim) (fun _ h => h.elim) (fun _ _ h => h.elim) (fun E ce q9 u9 t9 H1 locs1 ht hal hpx hBX hz hk hS1 hcell hcv hcl => ?_) (fun u9 t9 H1 locs1 ht hal hpost hB hz hk hS1 => ?_)
      · have hBX : xK_needHole k = .error E := hBX
        have hEe : E = "java/lang/IndexOutOfBoundsException" := by rw [xK_needHole, if_neg c1, if_neg c3] at hBX; exact (Except.error.inj hBX).symm
        subst hEe
        exact vx_out (fun x h => (hne x h).elim) hlocks hcell hcv hcl (fun t ht2 _ => ⟨(), trivial, (by rw [xK_hole, if_neg c1, if_neg c3]), by rw [ht2]; exact hz, fun q h1 _ => by rw [ht2]; exact hk q h1 (fun h => h)⟩) (fun z hz2 => hS1.2.2 z hz2) (Nat.le_refl _) (Nat.le_refl _)
      · have hpost : xK_needHole k = .ok () := hpost
        rw [xK_needHole, if_neg c1, if_neg c3] at hpost
        cases hpost

def xK_meet (ox : Nat → Int32) (oy : Nat → Int32) (oq : Nat → Int32) (a : Int32) (b : Int32) : Except String Int32 := if a < 0 then (.error "java/lang/IndexOutOfBoundsException") else (if a < 16 then (if b < 0 then (.error "java/lang/IndexOutOfBoundsException") else (if b < 16 then (.ok (fH_overlap ox oy oq a b)) else (.error "java/lang/IndexOutOfBoundsException"))) else (.error "java/lang/IndexOutOfBoundsException"))
set_option maxHeartbeats 1000000 in
set_option maxRecDepth 100000 in
theorem cx_K_meet (l : Launch) (dC : Nat → ClassId) (dI : Nat → Nat → Nat) (cC cI cJ : ClassId) (kA : Nat) (xA : Nat) (dA : Nat) (tA : Nat) (uA : Nat) (oA : Nat) (oX : Nat) (oY : Nat) (oR : Nat) (ox : Nat → Int32) (oy : Nat → Int32) (oq : Nat → Int32) (a : Int32) (b : Int32) (t1 t2 : Nat) (qs : Nat → Nat) (hl9 : l.stackTraces = false) : vx_Met l my_K_meet (.code my_K_meet mb_K_meet 3 (some .boolean) :: gw_l) ({ frames := 7, cells := 1, slots := 6, locals := 150 }) (pu_Pc (dC, dI) mC [(cC, .char), (cI, .int), (cJ, .long)] [(kA, .inr (4, [.ref xA, .ref dA, .ref oA, .ref tA, .ref uA])), (oA, .inr (1, [.ref oX, .ref oY, .ref oR])), (oX, .inl (cI, 16, .inl ox)), (oY, .inl (cI, 16, .inl oy)), (oR, .inl (cI, 16, .inl oq))] (am_X t1 t2 qs) [.ref kA, .int a, .int b]) (va_Qi (fun (r : Int32) (_ : Unit) => xK_meet ox oy oq a b = .ok r) (fun _ _ => True) (fun _ => False)) (vx_X (fun _ : Unit => True) (fun E _ _ => xK_meet ox oy oq a b = .error E) (fun _ => False)) 1 6 (fun _ => False) := by
  refine vx_ofW (cc := mb_K_meet) (maxL := 3) (ret := (some .boolean)) (by decide) rfl ?_
  intro p e s m args below meth c s₁ B hml hne hv
  obtain ⟨rfl, hP, hK, hE⟩ := hv
  have hx := B.exec
  have hb := B.bytes
  have hr := B.returns
  have hts := atoms_spec (ws := (.code my_K_meet mb_K_meet 3 (some .boolean) :: gw_l)) B.pre
  have hg : ∀ w ∈ gw_l, w.before _ s = true := fun w h => hts w (List.mem_cons_of_mem _ h)
  have hown : s.vm.findClass mR_K = some m.cls := findClass_of_methodNamed B.named
  have hlocks := B.notSynchronized
  have hl := lv_entry ([.ref kA, .int a, .int b]) (n := 3) (Nat.le_of_ble_eq_true rfl)
  rw [lg_entry_eq]
  generalize (lg_sl ([.ref kA, .int a, .int b]) ++ List.replicate (3 - (lg_sl ([.ref kA, .int a, .int b])).length) Slot.unset).toArray = ls at hl ⊢
  have hl : lv_has ls 3 [(0, .ref kA), (1, .int a), (2, .int b)] := hl
  refine lv_iload_n hx hb md_K_meet_0 rfl (lv_at hl 1 rfl) ?_
  by_cases c1 : a < 0
  · have hPc2 := hP.sub (ws' := []) [] rfl
    refine vx_callv (vx_runS (As := [.int a]) (rest := []) ⟨hx, hb, hml, hown, hg⟩ (cx_K_needHole l dC dI cC cI cJ a t1 t2 qs hl9) (gw_cwS hg wd_435 mv_K_needHole rfl rfl ⟨Nat.le_of_ble_eq_true rfl, Nat.le_of_ble_eq_true rfl⟩) (pu_preS am_X_bl hK hPc2 (pu_e0 am_X_bl hE)) rfl rfl hl.1 rfl (lv_room (Nat.le_of_ble_eq_true rfl)) md_K_meet_1 ⟨Nat.le_of_ble_eq_true rfl, Nat.le_of_ble_eq_true rfl⟩) (va_S.rf (A := fun _ => False)) (fun _ _ h => h.elim) (fun _ h => h.elim) (fun _ _ h => h.elim) (fun E ce q9 u9 t9 H1 locs1 ht hal hpx hBX hz hk hS1 hcell hcv hcl => ?_) (fun u9 t9 H1 locs1 ht hal hpost hB hz hk hS1 => ?_)
    · have hBX : xK_needHole a = .error E := hBX
      have hEe : E = "java/lang/IndexOutOfBoundsException" := by rw [xK_needHole, if_pos c1] at hBX; exact (Except.error.inj hBX).symm
      subst hEe
      exact vx_out (fun x h => (hne x h).elim) hlocks hcell hcv hcl (fun t ht2 _ => ⟨(), trivial, (by rw [xK_meet, if_pos c1]), by rw [ht2]; exact hz, fun q h1 _ => by rw [ht2]; exact hk q h1 (fun h => h)⟩) (fun z hz2 => hS1.2.2 z hz2) (Nat.le_refl _) (Nat.le_refl _)
    · have hpost : xK_needHole a = .ok () := hpost
      rw [xK_needHole, if_pos c1] at hpost
      cases hpost
  · by_cases c3 : a < 16
    · have hPc4 := hP.sub (ws' := []) [] rfl
      refine pu_v (W.runS (As := [.int a]) (rest := []) ⟨hx, hb, hml, hown, hg⟩ (ct_K_needHole l dC dI cC cI cJ a t1 t2 qs (by rw [xK_needHole, if_neg c1, if_pos c3])) (gw_cwS hg wd_435 mv_K_needHole rfl rfl ⟨Nat.le_of_ble_eq_true rfl, Nat.le_of_ble_eq_true rfl⟩) (pu_preS am_X_bl hK hPc4 (pu_e0 am_X_bl hE)) rfl rfl hl.1 rfl (lv_room (Nat.le_of_ble_eq_true rfl)) md_K_meet_1 ⟨Nat.zero_le _, Nat.zero_le _⟩) ?_
      refine lv_iload_n hx hb md_K_meet_4 rfl (lv_at hl 2 rfl) ?_
      by_cases c5 : b < 0
      · have hPc6 := hP.sub (ws' := []) [] rfl
        refine vx_callv (vx_runS (As := [.int b]) (rest := []) ⟨hx, hb, hml, hown, hg⟩ (cx_K_needHole l dC dI cC cI cJ b t1 t2 qs hl9) (gw_cwS hg wd_435 mv_K_needHole rfl rfl ⟨Nat.le_of_ble_eq_true rfl, Nat.le_of_ble_eq_true rfl⟩) (pu_preS am_X_bl hK hPc6 (pu_e0 am_X_bl hE)) rfl rfl hl.1 rfl (lv_room (Nat.le_of_ble_eq_true rfl)) md_K_meet_5 ⟨Nat.le_of_ble_eq_true rfl, Nat.le_of_ble_eq_true rfl⟩) (va_S.rf (A := fun _ => False)) (fun _ _ h => h.elim) (fun _ h => h.elim) (fun _ _ h => h.elim) (fun E ce q9 u9 t9 H1 locs1 ht hal hpx hBX hz hk hS1 hcell hcv hcl => ?_) (fun u9 t9 H1 locs1 ht hal hpost hB hz hk hS1 => ?_)
        · have hBX : xK_needHole b = .error E := hBX
          have hEe : E = "java/lang/IndexOutOfBoundsException" := by rw [xK_needHole, if_pos c5] at hBX; exact (Except.error.inj hBX).symm
          subst hEe
          exact vx_out (fun x h => (hne x h).elim) hlocks hcell hcv hcl (fun t ht2 _ => ⟨(), trivial, (by rw [xK_meet, if_neg c1, if_pos c3, if_pos c5]), by rw [ht2]; exact hz, fun q h1 _ => by rw [ht2]; exact hk q h1 (fun h => h)⟩) (fun z hz2 => hS1.2.2 z hz2) (Nat.le_refl _) (Nat.le_refl _)
        · have hpost : xK_needHole b = .ok () := hpost
          rw [xK_needHole, if_pos c5] at hpost
          cases hpost
      · by_cases c7 : b < 16
        · have hPc8 := hP.sub (ws' := []) [] rfl
          refine pu_v (W.runS (As := [.int b]) (rest := []) ⟨hx, hb, hml, hown, hg⟩ (ct_K_needHole l dC dI cC cI cJ b t1 t2 qs (by rw [xK_needHole, if_neg c5, if_pos c7])) (gw_cwS hg wd_435 mv_K_needHole rfl rfl ⟨Nat.le_of_ble_eq_true rfl, Nat.le_of_ble_eq_true rfl⟩) (pu_preS am_X_bl hK hPc8 (pu_e0 am_X_bl hE)) rfl rfl hl.1 rfl (lv_room (Nat.le_of_ble_eq_true rfl)) md_K_meet_5 ⟨Nat.zero_le _, Nat.zero_le _⟩) ?_
          have ha := nx_h c1 c3
          have hb9 := nx_h c5 c7
          refine lv_aload_n hx hb md_K_meet_8 rfl (lv_at hl 0 rfl) ?_
          refine va_get (D := (dC, dI)) (ci := 4) (v := .ref oA) (C := mR_K) (T := mT_K) (N := 5) hx hb hg gu_K hown hK hP 0 rfl rfl 2 (by decide) (hg _ wd_99) (fun _ h9 => h9) rfl md_K_meet_9 ?_
          refine lv_iload_n hx hb md_K_meet_12 rfl (lv_at hl 1 rfl) ?_
          refine lv_iload_n hx hb md_K_meet_13 rfl (lv_at hl 2 rfl) ?_
          have hPc9 := hP.sub (ws' := [(oA, .inr (1, [.ref oX, .ref oY, .ref oR])), (oX, .inl (cI, 16, .inl ox)), (oY, .inl (cI, 16, .inl oy)), (oR, .inl (cI, 16, .inl oq))]) [1, 2, 3, 4] rfl
          refine pu_i (W.runV (As := [.int a, .int b]) (rest := []) ⟨hx, hb, hml, hown, hg⟩ (ct_H_overlap l dC dI cC cI cJ oA oX oY oR ox oy oq a b ha hb9) (gw_cwV hg wd_453 mv_H_overlap rfl rfl ⟨Nat.le_of_ble_eq_true rfl, Nat.le_of_ble_eq_true rfl⟩) (pu_preV (ci := 1) (q0 := 0) pu_blT hK hPc9 pu_e1 rfl rfl) rfl rfl hl.1 rfl (lv_room (Nat.le_of_ble_eq_true rfl)) md_K_meet_14 ⟨Nat.zero_le _, Nat.zero_le _⟩) ?_
          exact vx_ret (W.widen (k := 1) (n := 6) (Nat.zero_le _) (Nat.zero_le _) (W.zret (v := fH_overlap ox oy oq a b) hx hb hr (zH_overlap _ _ _ _ _) (fun t ht hW => ⟨⟨fH_overlap ox oy oq a b, (), rfl, (by rw [xK_meet, if_neg c1, if_pos c3, if_neg c5, if_pos c7]), trivial⟩, vf_0 ht⟩) (fun q hq => by cases hq) md_K_meet_17 hlocks))
        · have hPc10 := hP.sub (ws' := []) [] rfl
          refine vx_callv (vx_runS (As := [.int b]) (rest := []) ⟨hx, hb, hml, hown, hg⟩ (cx_K_needHole l dC dI cC cI cJ b t1 t2 qs hl9) (gw_cwS hg wd_435 mv_K_needHole rfl rfl ⟨Nat.le_of_ble_eq_true rfl, Nat.le_of_ble_eq_true rfl⟩) (pu_preS am_X_bl hK hPc10 (pu_e0 am_X_bl hE)) rfl rfl hl.1 rfl (lv_room (Nat.le_of_ble_eq_true rfl)) md_K_meet_5 ⟨Nat.le_of_ble_eq_true rfl, Nat.le_of_ble_eq_true rfl⟩) (va_S.rf (A := fun _ => False)) (fun _ _ h => h.elim) (fun _ h => h.elim) (fun _ _ h => h.elim) (fun E ce q9 u9 t9 H1 locs1 ht hal hpx hBX hz hk hS1 hcell hcv hcl => ?_) (fun u9 t9 H1 locs1 ht hal hpost hB hz hk hS1 => ?_)
          · have hBX : xK_needHole b = .error E := hBX
            have hEe : E = "java/lang/IndexOutOfBoundsException" := by rw [xK_needHole, if_neg c5, if_neg c7] at hBX; exact (Except.error.inj hBX).symm
            subst hEe
            exact vx_out (fun x h => (hne x h).elim) hlocks hcell hcv hcl (fun t ht2 _ => ⟨(), trivial, (by rw [xK_meet, if_neg c1, if_pos c3, if_neg c5, if_neg c7]), by rw [ht2]; exact hz, fun q h1 _ => by rw [ht2]; exact hk q h1 (fun h => h)⟩) (fun z hz2 => hS1.2.2 z hz2) (Nat.le_refl _) (Nat.le_refl _)
          · have hpost : xK_needHole b = .ok () := hpost
            rw [xK_needHole, if_neg c5, if_neg c7] at hpost
            cases hpost
    · have hPc11 := hP.sub (ws' := []) [] rfl
      refine vx_callv (vx_runS (As := [.int a]) (rest := []) ⟨hx, hb, hml, hown, hg⟩ (cx_K_needHole l dC dI cC cI cJ a t1 t2 qs hl9) (gw_cwS hg wd_435 mv_K_needHole rfl rfl ⟨Nat.le_of_ble_eq_true rfl, Nat.le_of_ble_eq_true rfl⟩) (pu_preS am_X_bl hK hPc11 (pu_e0 am_X_bl hE)) rfl rfl hl.1 rfl (lv_room (Nat.le_of_ble_eq_true rfl)) md_K_meet_1 ⟨Nat.le_of_ble_eq_true rfl, Nat.le_of_ble_eq_true rfl⟩) (va_S.rf (A := fun _ => False)) (fun _ _ h => h.elim) (fun _ h => h.elim) (fun _ _ h => h.elim) (fun E ce q9 u9 t9 H1 locs1 ht hal hpx hBX hz hk hS1 hcell hcv hcl => ?_) (fun u9 t9 H1 locs1 ht hal hpost hB hz hk hS1 => ?_)
      · have hBX : xK_needHole a = .error E := hBX
        have hEe : E = "java/lang/IndexOutOfBoundsException" := by rw [xK_needHole, if_neg c1, if_neg c3] at hBX; exact (Except.error.inj hBX).symm
        subst hEe
        exact vx_out (fun x h => (hne x h).elim) hlocks hcell hcv hcl (fun t ht2 _ => ⟨(), trivial, (by rw [xK_meet, if_neg c1, if_neg c3]), by rw [ht2]; exact hz, fun q h1 _ => by rw [ht2]; exact hk q h1 (fun h => h)⟩) (fun z hz2 => hS1.2.2 z hz2) (Nat.le_refl _) (Nat.le_refl _)
      · have hpost : xK_needHole a = .ok () := hpost
        rw [xK_needHole, if_neg c1, if_neg c3] at hpost
        cases hpost

def xK_pair (ox : Nat → Int32) (oy : Nat → Int32) (oq : Nat → Int32) (k : Int32) : Except String Int32 := if 0 ≤ k then (.ok (fH_overlappingPair ox oy oq k)) else (.error "java/lang/IndexOutOfBoundsException")
set_option maxHeartbeats 1000000 in
set_option maxRecDepth 100000 in
theorem cx_K_pair (l : Launch) (dC : Nat → ClassId) (dI : Nat → Nat → Nat) (cC cI cJ : ClassId) (kA : Nat) (xA : Nat) (dA : Nat) (tA : Nat) (uA : Nat) (oA : Nat) (oX : Nat) (oY : Nat) (oR : Nat) (ox : Nat → Int32) (oy : Nat → Int32) (oq : Nat → Int32) (k : Int32) (t1 t2 : Nat) (qs : Nat → Nat) (hl9 : l.stackTraces = false) : vx_Met l my_K_pair (.code my_K_pair mb_K_pair 2 (some .int) :: gw_l) ({ frames := 6, cells := 1, slots := 6, locals := 130 }) (pu_Pc (dC, dI) mC [(cC, .char), (cI, .int), (cJ, .long)] [(kA, .inr (4, [.ref xA, .ref dA, .ref oA, .ref tA, .ref uA])), (oA, .inr (1, [.ref oX, .ref oY, .ref oR])), (oX, .inl (cI, 16, .inl ox)), (oY, .inl (cI, 16, .inl oy)), (oR, .inl (cI, 16, .inl oq))] (am_X t1 t2 qs) [.ref kA, .int k]) (va_Qi (fun (r : Int32) (_ : Unit) => xK_pair ox oy oq k = .ok r) (fun _ _ => True) (fun _ => False)) (vx_X (fun _ : Unit => True) (fun E _ _ => xK_pair ox oy oq k = .error E) (fun _ => False)) 1 6 (fun _ => False) := by
  refine vx_ofW (cc := mb_K_pair) (maxL := 2) (ret := (some .int)) (by decide) rfl ?_
  intro p e s m args below meth c s₁ B hml hne hv
  obtain ⟨rfl, hP, hK, hE⟩ := hv
  have hx := B.exec
  have hb := B.bytes
  have hr := B.returns
  have hts := atoms_spec (ws := (.code my_K_pair mb_K_pair 2 (some .int) :: gw_l)) B.pre
  have hg : ∀ w ∈ gw_l, w.before _ s = true := fun w h => hts w (List.mem_cons_of_mem _ h)
  have hown : s.vm.findClass mR_K = some m.cls := findClass_of_methodNamed B.named
  have hlocks := B.notSynchronized
  have hl := lv_entry ([.ref kA, .int k]) (n := 2) (Nat.le_of_ble_eq_true rfl)
  rw [lg_entry_eq]
  generalize (lg_sl ([.ref kA, .int k]) ++ List.replicate (2 - (lg_sl ([.ref kA, .int k])).length) Slot.unset).toArray = ls at hl ⊢
  have hl : lv_has ls 2 [(0, .ref kA), (1, .int k)] := hl
  refine lv_iload_n hx hb md_K_pair_0 rfl (lv_at hl 1 rfl) ?_
  refine lv_if_ge (tgt := 14) hx hb md_K_pair_1 (by decide) (fun c1 => ?_) (fun c1 => ?_)
  · refine lv_aload_n hx hb md_K_pair_14 rfl (lv_at hl 0 rfl) ?_
    refine va_get (D := (dC, dI)) (ci := 4) (v := .ref oA) (C := mR_K) (T := mT_K) (N := 5) hx hb hg gu_K hown hK hP 0 rfl rfl 2 (by decide) (hg _ wd_99) (fun _ h9 => h9) rfl md_K_pair_15 ?_
    refine lv_iload_n hx hb md_K_pair_18 rfl (lv_at hl 1 rfl) ?_
    have hPc2 := hP.sub (ws' := [(oA, .inr (1, [.ref oX, .ref oY, .ref oR])), (oX, .inl (cI, 16, .inl ox)), (oY, .inl (cI, 16, .inl oy)), (oR, .inl (cI, 16, .inl oq))]) [1, 2, 3, 4] rfl
    refine pu_i (W.runV (As := [.int k]) (rest := []) ⟨hx, hb, hml, hown, hg⟩ (ct_H_overlappingPair l dC dI cC cI cJ oA oX oY oR ox oy oq k) (gw_cwV hg wd_464 mv_H_overlappingPair rfl rfl ⟨Nat.le_of_ble_eq_true rfl, Nat.le_of_ble_eq_true rfl⟩) (pu_preV (ci := 1) (q0 := 0) pu_blT hK hPc2 pu_e1 rfl rfl) rfl rfl hl.1 rfl (lv_room (Nat.le_of_ble_eq_true rfl)) md_K_pair_19 ⟨Nat.zero_le _, Nat.zero_le _⟩) ?_
    exact vx_ret (W.widen (k := 1) (n := 6) (Nat.zero_le _) (Nat.zero_le _) (W.iret (v := fH_overlappingPair ox oy oq k) hx hb hr (fun t ht hW => ⟨⟨fH_overlappingPair ox oy oq k, (), rfl, (by rw [xK_pair, if_pos c1]), trivial⟩, vf_0 ht⟩) (fun q hq => by cases hq) md_K_pair_22 hlocks))
  · exact vx_throwS (names := xn_R) hx hb hl9 hown (by decide +kernel) (by decide +kernel) (hg _ wd_255) (hg _ wd_11) (ak_90 hE.1) (xa_IOB hg hE) xo_IOB (vx_Zq.narrow hE.1.2.1.1 (fun _ h => h.elim)) (vx_Zq.narrow hE.1.2.1.2 (fun _ h => h.elim)) (A := fun _ => False) (va_S.rf) (hl.1.trans hml.symm) md_K_pair_4 md_K_pair_7 md_K_pair_8 md_K_pair_10 md_K_pair_13 (fun x h => (hne x h).elim) (Nat.le_of_ble_eq_true rfl) (Nat.le_of_ble_eq_true rfl) (Nat.le_of_ble_eq_true rfl) (Nat.le_of_ble_eq_true rfl) hlocks (fun t hal hz hk => ⟨(), trivial, (by rw [xK_pair, if_neg c1]), hz, fun q h1 _ => hk q h1⟩) (fun z hz => by cases hz) (Nat.le_refl _) (Nat.le_refl _)

def gK_wall (dw : Int64) (dt : Int64) (dist : Int64) : Nat → Nat → Except String Int32
  | 0, _ => .ok 0
  | n + 1, i => if 9 ≤ (nI i) then (.ok 8) else (if ((-dist) * 65) ≤ (fD_leastX dw dt (nI i)) then (gK_wall dw dt dist n (i + 1)) else (if (nI i) = 0 then (.ok (-1)) else (.ok ((nI i) - 1))))
def xK_wall (dw : Int64) (dt : Int64) (dist : Int64) : Except String Int32 := if (fK_isWithin dist (-10000) 10000) = 0 then (.error "java/lang/IllegalArgumentException") else (gK_wall dw dt dist 10 0)
set_option maxHeartbeats 1000000 in
set_option maxRecDepth 100000 in
theorem cx_K_wall (l : Launch) (dC : Nat → ClassId) (dI : Nat → Nat → Nat) (cC cI cJ : ClassId) (kA : Nat) (xA : Nat) (oA : Nat) (tA : Nat) (uA : Nat) (dA : Nat) (dw : Int64) (dh : Int64) (dt : Int64) (dd : Int64) (dist : Int64) (t1 t2 : Nat) (qs : Nat → Nat) (hl9 : l.stackTraces = false) : vx_Met l my_K_wall (.code my_K_wall mb_K_wall 4 (some .int) :: gw_l) ({ frames := 6, cells := 1, slots := 6, locals := 130 }) (pu_Pc (dC, dI) mC [(cC, .char), (cI, .int), (cJ, .long)] [(kA, .inr (4, [.ref xA, .ref dA, .ref oA, .ref tA, .ref uA])), (dA, .inr (0, [.long dw, .long dh, .long dt, .long dd]))] (am_X t1 t2 qs) [.ref kA, .long dist]) (va_Qi (fun (r : Int32) (_ : Unit) => xK_wall dw dt dist = .ok r) (fun _ _ => True) (fun _ => False)) (vx_X (fun _ : Unit => True) (fun E _ _ => xK_wall dw dt dist = .error E) (fun _ => False)) 1 6 (fun _ => False) := by
  refine vx_ofW (cc := mb_K_wall) (maxL := 4) (ret := (some .int)) (by decide) rfl ?_
  intro p e s m args below meth c s₁ B hml hne hv
  obtain ⟨rfl, hP, hK, hE⟩ := hv
  have hx := B.exec
  have hb := B.bytes
  have hr := B.returns
  have hts := atoms_spec (ws := (.code my_K_wall mb_K_wall 4 (some .int) :: gw_l)) B.pre
  have hg : ∀ w ∈ gw_l, w.before _ s = true := fun w h => hts w (List.mem_cons_of_mem _ h)
  have hown : s.vm.findClass mR_K = some m.cls := findClass_of_methodNamed B.named
  have hlocks := B.notSynchronized
  have hl := lv_entry ([.ref kA, .long dist]) (n := 4) (Nat.le_of_ble_eq_true rfl)
  rw [lg_entry_eq]
  generalize (lg_sl ([.ref kA, .long dist]) ++ List.replicate (4 - (lg_sl ([.ref kA, .long dist])).length) Slot.unset).toArray = ls at hl ⊢
  have hl : lv_has ls 4 [(0, .ref kA), (1, .long dist)] := hl
  have loop : ∀ (n : Nat) (i : Nat) (ls : Array Slot), (i ≤ 9) → 9 - i < n → xK_wall dw dt dist = gK_wall dw dt dist n i → lv_has ls 4 [(0, .ref kA), (1, .long dist), (3, .int (nI i))] → W p l e (headSpec (.code my_K_wall mb_K_wall 4 (some .int) :: gw_l) ({ frames := 6, cells := 1, slots := 6, locals := 130 })).room s m ([.ref kA, .long dist] : List Value).toArray below meth c s.heap [] 0 0 (vx_MQ below (va_Qi (fun (r : Int32) (_ : Unit) => xK_wall dw dt dist = .ok r) (fun _ _ => True) (fun _ => False)) (vx_X (fun _ : Unit => True) (fun E _ _ => xK_wall dw dt dist = .error E) (fun _ => False)) ([.ref kA, .long dist] : List Value).toArray s 1 6 (fun _ => False)) (F0 m 25 ls []) := by
    intro n
    induction n with
    | zero =>
      intro i ls h1 hm
      exact absurd hm (Nat.not_lt_zero _)
    | succ n ih =>
      intro i ls h1 hm hv hl
      refine lv_iload_n hx hb md_K_wall_25 rfl (lv_at hl 2 rfl) ?_
      refine lv_bipush (v := 9) hx hb md_K_wall_26 (by decide) ?_
      refine lv_icmp_ge (tgt := 67) hx hb md_K_wall_28 (by decide) (fun c3 => ?_) (fun c3 => ?_)
      · refine lv_bipush (v := 8) hx hb md_K_wall_67 (by decide) ?_
        exact vx_ret (W.widen (k := 1) (n := 6) (Nat.zero_le _) (Nat.zero_le _) (W.iret (v := 8) hx hb hr (fun t ht hW => ⟨⟨8, (), rfl, (by rw [hv, gK_wall, if_pos c3]), trivial⟩, vf_0 ht⟩) (fun q hq => by cases hq) md_K_wall_69 hlocks))
      · have hlt : i < 9 := nx_lt (a := i) (b := 9) (by omega) (by omega) c3
        refine lv_aload_n hx hb md_K_wall_31 rfl (lv_at hl 0 rfl) ?_
        refine va_get (D := (dC, dI)) (ci := 4) (v := .ref dA) (C := mR_K) (T := mT_K) (N := 5) hx hb hg gu_K hown hK hP 0 rfl rfl 1 (by decide) (hg _ wd_98) (fun _ h9 => h9) rfl md_K_wall_32 ?_
        refine lv_iload_n hx hb md_K_wall_35 rfl (lv_at hl 2 rfl) ?_
        have hPc4 := hP.sub (ws' := [(dA, .inr (0, [.long dw, .long dh, .long dt, .long dd]))]) [1] rfl
        refine pu_l (W.runV (As := [.int (nI i)]) (rest := []) ⟨hx, hb, hml, hown, hg⟩ (ct_D_leastX l dC dI cC cI cJ dA dw dh dt dd (nI i) t1 t2 (vp_in_nI hlt (by omega))) (gw_cwV hg wd_477 mv_D_leastX rfl rfl ⟨Nat.le_of_ble_eq_true rfl, Nat.le_of_ble_eq_true rfl⟩) (pu_preV (ci := 0) (q0 := 0) am_S_bl hK hPc4 (pu_e0 am_S_bl hE.1.1) rfl rfl) rfl rfl hl.1 rfl (lv_room (Nat.le_of_ble_eq_true rfl)) md_K_wall_36 ⟨Nat.zero_le _, Nat.zero_le _⟩) ?_
        refine lv_lload_n hx hb md_K_wall_39 rfl (lv_at hl 1 rfl) ?_
        refine lv_lneg hx hb md_K_wall_40 ?_
        refine lv_ldc2 hx hb hown (hg _ wd_497) md_K_wall_41 ?_
        refine lv_lmul hx hb md_K_wall_44 ?_
        refine lx_ge (tgt := 61) hx hb md_K_wall_45 md_K_wall_46 (by decide) (fun c5 => ?_) (fun c5 => ?_)
        · refine lv_iinc (v := nI (i + 1)) (lv' := [(3, .int (nI (i + 1))), (0, .ref kA), (1, .long dist)]) hx hb md_K_wall_61 hl (k := 2) rfl (by rw [nI_succ]; rfl) (by decide) rfl (fun ls hl => ?_)
          refine lv_goto (tgt := 25) hx hb md_K_wall_64 (by decide) ?_
          exact ih (i + 1) ls (by omega) (by omega) (by rw [hv, gK_wall, if_neg c3, if_pos c5]) (lv_sub hl [1, 2, 0] rfl)
        · refine lv_iload_n hx hb md_K_wall_49 rfl (lv_at hl 2 rfl) ?_
          refine lv_if_ne (tgt := 57) hx hb md_K_wall_50 (by decide) (fun c6 => ?_) (fun c6 => ?_)
          · refine lv_iload_n hx hb md_K_wall_57 rfl (lv_at hl 2 rfl) ?_
            refine lv_iconst (v := 1) hx hb md_K_wall_58 (by decide) ?_
            refine lv_isub hx hb md_K_wall_59 ?_
            exact vx_ret (W.widen (k := 1) (n := 6) (Nat.zero_le _) (Nat.zero_le _) (W.iret (v := (nI i) - 1) hx hb hr (fun t ht hW => ⟨⟨(nI i) - 1, (), rfl, (by rw [hv, gK_wall, if_neg c3, if_neg c5, if_neg c6]), trivial⟩, vf_0 ht⟩) (fun q hq => by cases hq) md_K_wall_60 hlocks))
          · refine lv_iconst (v := (-1)) hx hb md_K_wall_53 (by decide) ?_
            refine lv_goto (tgt := 60) hx hb md_K_wall_54 (by decide) ?_
            exact vx_ret (W.widen (k := 1) (n := 6) (Nat.zero_le _) (Nat.zero_le _) (W.iret (v := (-1)) hx hb hr (fun t ht hW => ⟨⟨(-1), (), rfl, (by rw [hv, gK_wall, if_neg c3, if_neg c5, if_pos c6]), trivial⟩, vf_0 ht⟩) (fun q hq => by cases hq) md_K_wall_60 hlocks))
  refine lv_lload_n hx hb md_K_wall_0 rfl (lv_at hl 1 rfl) ?_
  refine lv_sipush (v := (-10000)) hx hb md_K_wall_1 (by decide) ?_
  refine lv_sipush (v := 10000) hx hb md_K_wall_4 (by decide) ?_
  have hPc1 := hP.sub (ws' := []) [] rfl
  refine pu_i (W.runS (As := [.long dist, .int (-10000), .int 10000]) (rest := []) ⟨hx, hb, hml, hown, hg⟩ (ct_K_isWithin l dC dI cC cI cJ dist (-10000) 10000) (gw_cwS hg wd_363 mv_K_isWithin rfl rfl ⟨Nat.le_of_ble_eq_true rfl, Nat.le_of_ble_eq_true rfl⟩) (pu_preS pu_blT hK hPc1 pu_e1) rfl rfl hl.1 rfl (lv_room (Nat.le_of_ble_eq_true rfl)) md_K_wall_7 ⟨Nat.zero_le _, Nat.zero_le _⟩) ?_
  refine lv_if_ne (tgt := 23) hx hb md_K_wall_10 (by decide) (fun c2 => ?_) (fun c2 => ?_)
  · refine lv_iconst (v := 0) hx hb md_K_wall_23 (by decide) ?_
    refine lv_istore_n (lv' := [(3, .int 0), (0, .ref kA), (1, .long dist)]) hx hb md_K_wall_24 rfl hl (by decide) rfl (fun ls hl => ?_)
    exact loop 10 0 ls (by omega) (by omega) (by rw [xK_wall, if_neg c2]) (lv_sub hl [1, 2, 0] rfl)
  · exact vx_throwS (names := xn_R) hx hb hl9 hown (by decide +kernel) (by decide +kernel) (hg _ wd_286) (hg _ wd_12) (ak_168 hE.1) (xa_IAE hg hE) xo_IAE (vx_Zq.narrow hE.1.2.1.1 (fun _ h => h.elim)) (vx_Zq.narrow hE.1.2.1.2 (fun _ h => h.elim)) (A := fun _ => False) (va_S.rf) (hl.1.trans hml.symm) md_K_wall_13 md_K_wall_16 md_K_wall_17 md_K_wall_19 md_K_wall_22 (fun x h => (hne x h).elim) (Nat.le_of_ble_eq_true rfl) (Nat.le_of_ble_eq_true rfl) (Nat.le_of_ble_eq_true rfl) (Nat.le_of_ble_eq_true rfl) hlocks (fun t hal hz hk => ⟨(), trivial, (by rw [xK_wall, if_pos c2]), hz, fun q h1 _ => hk q h1⟩) (fun z hz => by cases hz) (Nat.le_refl _) (Nat.le_refl _)

def xK_corner (dw : Int64) (dt : Int64) (corner : Int32) (turn : Int32) (axis : Int32) : Except String Int64 := if corner < 0 then (.error "java/lang/IndexOutOfBoundsException") else (if 4 ≤ corner then (.error "java/lang/IndexOutOfBoundsException") else (if turn < 0 then (.error "java/lang/IndexOutOfBoundsException") else (if 9 ≤ turn then (.error "java/lang/IndexOutOfBoundsException") else (if axis < 0 then (.error "java/lang/IndexOutOfBoundsException") else (if axis ≤ 1 then (if axis = 0 then (.ok (fD_turnedX dw dt corner turn)) else (.ok (fD_turnedY dw dt corner turn))) else (.error "java/lang/IndexOutOfBoundsException"))))))
set_option maxHeartbeats 1000000 in
set_option maxRecDepth 100000 in
theorem cx_K_corner (l : Launch) (dC : Nat → ClassId) (dI : Nat → Nat → Nat) (cC cI cJ : ClassId) (kA : Nat) (xA : Nat) (oA : Nat) (tA : Nat) (uA : Nat) (dA : Nat) (dw : Int64) (dh : Int64) (dt : Int64) (dd : Int64) (corner : Int32) (turn : Int32) (axis : Int32) (t1 t2 : Nat) (qs : Nat → Nat) (hl9 : l.stackTraces = false) : vx_Met l my_K_corner (.code my_K_corner mb_K_corner 4 (some .long) :: gw_l) ({ frames := 6, cells := 1, slots := 6, locals := 130 }) (pu_Pc (dC, dI) mC [(cC, .char), (cI, .int), (cJ, .long)] [(kA, .inr (4, [.ref xA, .ref dA, .ref oA, .ref tA, .ref uA])), (dA, .inr (0, [.long dw, .long dh, .long dt, .long dd]))] (am_X t1 t2 qs) [.ref kA, .int corner, .int turn, .int axis]) (va_Ql (fun (r : Int64) (_ : Unit) => xK_corner dw dt corner turn axis = .ok r) (fun _ _ => True) (fun _ => False)) (vx_X (fun _ : Unit => True) (fun E _ _ => xK_corner dw dt corner turn axis = .error E) (fun _ => False)) 1 6 (fun _ => False) := by
  refine vx_ofW (cc := mb_K_corner) (maxL := 4) (ret := (some .long)) (by decide) rfl ?_
  intro p e s m args below meth c s₁ B hml hne hv
  obtain ⟨rfl, hP, hK, hE⟩ := hv
  have hx := B.exec
  have hb := B.bytes
  have hr := B.returns
  have hts := atoms_spec (ws := (.code my_K_corner mb_K_corner 4 (some .long) :: gw_l)) B.pre
  have hg : ∀ w ∈ gw_l, w.before _ s = true := fun w h => hts w (List.mem_cons_of_mem _ h)
  have hown : s.vm.findClass mR_K = some m.cls := findClass_of_methodNamed B.named
  have hlocks := B.notSynchronized
  have hl := lv_entry ([.ref kA, .int corner, .int turn, .int axis]) (n := 4) (Nat.le_of_ble_eq_true rfl)
  rw [lg_entry_eq]
  generalize (lg_sl ([.ref kA, .int corner, .int turn, .int axis]) ++ List.replicate (4 - (lg_sl ([.ref kA, .int corner, .int turn, .int axis])).length) Slot.unset).toArray = ls at hl ⊢
  have hl : lv_has ls 4 [(0, .ref kA), (1, .int corner), (2, .int turn), (3, .int axis)] := hl
  refine lv_iload_n hx hb md_K_corner_0 rfl (lv_at hl 1 rfl) ?_
  refine lv_if_lt (tgt := 28) hx hb md_K_corner_1 (by decide) (fun c1 => ?_) (fun c1 => ?_)
  · exact vx_throwS (names := xn_R) hx hb hl9 hown (by decide +kernel) (by decide +kernel) (hg _ wd_255) (hg _ wd_11) (ak_176 hE.1) (xa_IOB hg hE) xo_IOB (vx_Zq.narrow hE.1.2.1.1 (fun _ h => h.elim)) (vx_Zq.narrow hE.1.2.1.2 (fun _ h => h.elim)) (A := fun _ => False) (va_S.rf) (hl.1.trans hml.symm) md_K_corner_28 md_K_corner_31 md_K_corner_32 md_K_corner_34 md_K_corner_37 (fun x h => (hne x h).elim) (Nat.le_of_ble_eq_true rfl) (Nat.le_of_ble_eq_true rfl) (Nat.le_of_ble_eq_true rfl) (Nat.le_of_ble_eq_true rfl) hlocks (fun t hal hz hk => ⟨(), trivial, (by rw [xK_corner, if_pos c1]), hz, fun q h1 _ => hk q h1⟩) (fun z hz => by cases hz) (Nat.le_refl _) (Nat.le_refl _)
  · refine lv_iload_n hx hb md_K_corner_4 rfl (lv_at hl 1 rfl) ?_
    refine lv_iconst (v := 4) hx hb md_K_corner_5 (by decide) ?_
    refine lv_icmp_ge (tgt := 28) hx hb md_K_corner_6 (by decide) (fun c2 => ?_) (fun c2 => ?_)
    · exact vx_throwS (names := xn_R) hx hb hl9 hown (by decide +kernel) (by decide +kernel) (hg _ wd_255) (hg _ wd_11) (ak_176 hE.1) (xa_IOB hg hE) xo_IOB (vx_Zq.narrow hE.1.2.1.1 (fun _ h => h.elim)) (vx_Zq.narrow hE.1.2.1.2 (fun _ h => h.elim)) (A := fun _ => False) (va_S.rf) (hl.1.trans hml.symm) md_K_corner_28 md_K_corner_31 md_K_corner_32 md_K_corner_34 md_K_corner_37 (fun x h => (hne x h).elim) (Nat.le_of_ble_eq_true rfl) (Nat.le_of_ble_eq_true rfl) (Nat.le_of_ble_eq_true rfl) (Nat.le_of_ble_eq_true rfl) hlocks (fun t hal hz hk => ⟨(), trivial, (by rw [xK_corner, if_neg c1, if_pos c2]), hz, fun q h1 _ => hk q h1⟩) (fun z hz => by cases hz) (Nat.le_refl _) (Nat.le_refl _)
    · refine lv_iload_n hx hb md_K_corner_9 rfl (lv_at hl 2 rfl) ?_
      refine lv_if_lt (tgt := 28) hx hb md_K_corner_10 (by decide) (fun c3 => ?_) (fun c3 => ?_)
      · exact vx_throwS (names := xn_R) hx hb hl9 hown (by decide +kernel) (by decide +kernel) (hg _ wd_255) (hg _ wd_11) (ak_176 hE.1) (xa_IOB hg hE) xo_IOB (vx_Zq.narrow hE.1.2.1.1 (fun _ h => h.elim)) (vx_Zq.narrow hE.1.2.1.2 (fun _ h => h.elim)) (A := fun _ => False) (va_S.rf) (hl.1.trans hml.symm) md_K_corner_28 md_K_corner_31 md_K_corner_32 md_K_corner_34 md_K_corner_37 (fun x h => (hne x h).elim) (Nat.le_of_ble_eq_true rfl) (Nat.le_of_ble_eq_true rfl) (Nat.le_of_ble_eq_true rfl) (Nat.le_of_ble_eq_true rfl) hlocks (fun t hal hz hk => ⟨(), trivial, (by rw [xK_corner, if_neg c1, if_neg c2, if_pos c3]), hz, fun q h1 _ => hk q h1⟩) (fun z hz => by cases hz) (Nat.le_refl _) (Nat.le_refl _)
      · refine lv_iload_n hx hb md_K_corner_13 rfl (lv_at hl 2 rfl) ?_
        refine lv_bipush (v := 9) hx hb md_K_corner_14 (by decide) ?_
        refine lv_icmp_ge (tgt := 28) hx hb md_K_corner_16 (by decide) (fun c4 => ?_) (fun c4 => ?_)
        · exact vx_throwS (names := xn_R) hx hb hl9 hown (by decide +kernel) (by decide +kernel) (hg _ wd_255) (hg _ wd_11) (ak_176 hE.1) (xa_IOB hg hE) xo_IOB (vx_Zq.narrow hE.1.2.1.1 (fun _ h => h.elim)) (vx_Zq.narrow hE.1.2.1.2 (fun _ h => h.elim)) (A := fun _ => False) (va_S.rf) (hl.1.trans hml.symm) md_K_corner_28 md_K_corner_31 md_K_corner_32 md_K_corner_34 md_K_corner_37 (fun x h => (hne x h).elim) (Nat.le_of_ble_eq_true rfl) (Nat.le_of_ble_eq_true rfl) (Nat.le_of_ble_eq_true rfl) (Nat.le_of_ble_eq_true rfl) hlocks (fun t hal hz hk => ⟨(), trivial, (by rw [xK_corner, if_neg c1, if_neg c2, if_neg c3, if_pos c4]), hz, fun q h1 _ => hk q h1⟩) (fun z hz => by cases hz) (Nat.le_refl _) (Nat.le_refl _)
        · refine lv_iload_n hx hb md_K_corner_19 rfl (lv_at hl 3 rfl) ?_
          refine lv_if_lt (tgt := 28) hx hb md_K_corner_20 (by decide) (fun c5 => ?_) (fun c5 => ?_)
          · exact vx_throwS (names := xn_R) hx hb hl9 hown (by decide +kernel) (by decide +kernel) (hg _ wd_255) (hg _ wd_11) (ak_176 hE.1) (xa_IOB hg hE) xo_IOB (vx_Zq.narrow hE.1.2.1.1 (fun _ h => h.elim)) (vx_Zq.narrow hE.1.2.1.2 (fun _ h => h.elim)) (A := fun _ => False) (va_S.rf) (hl.1.trans hml.symm) md_K_corner_28 md_K_corner_31 md_K_corner_32 md_K_corner_34 md_K_corner_37 (fun x h => (hne x h).elim) (Nat.le_of_ble_eq_true rfl) (Nat.le_of_ble_eq_true rfl) (Nat.le_of_ble_eq_true rfl) (Nat.le_of_ble_eq_true rfl) hlocks (fun t hal hz hk => ⟨(), trivial, (by rw [xK_corner, if_neg c1, if_neg c2, if_neg c3, if_neg c4, if_pos c5]), hz, fun q h1 _ => hk q h1⟩) (fun z hz => by cases hz) (Nat.le_refl _) (Nat.le_refl _)
          · refine lv_iload_n hx hb md_K_corner_23 rfl (lv_at hl 3 rfl) ?_
            refine lv_iconst (v := 1) hx hb md_K_corner_24 (by decide) ?_
            refine lv_icmp_le (tgt := 38) hx hb md_K_corner_25 (by decide) (fun c6 => ?_) (fun c6 => ?_)
            · have ht := nx_t c3 c4
              refine lv_iload_n hx hb md_K_corner_38 rfl (lv_at hl 3 rfl) ?_
              refine lv_if_ne (tgt := 54) hx hb md_K_corner_39 (by decide) (fun c7 => ?_) (fun c7 => ?_)
              · refine lv_aload_n hx hb md_K_corner_54 rfl (lv_at hl 0 rfl) ?_
                refine va_get (D := (dC, dI)) (ci := 4) (v := .ref dA) (C := mR_K) (T := mT_K) (N := 5) hx hb hg gu_K hown hK hP 0 rfl rfl 1 (by decide) (hg _ wd_98) (fun _ h9 => h9) rfl md_K_corner_55 ?_
                refine lv_iload_n hx hb md_K_corner_58 rfl (lv_at hl 1 rfl) ?_
                refine lv_iload_n hx hb md_K_corner_59 rfl (lv_at hl 2 rfl) ?_
                have hPc8 := hP.sub (ws' := [(dA, .inr (0, [.long dw, .long dh, .long dt, .long dd]))]) [1] rfl
                refine pu_l (W.runV (As := [.int corner, .int turn]) (rest := []) ⟨hx, hb, hml, hown, hg⟩ (ct_D_turnedY l dC dI cC cI cJ dA dw dh dt dd corner turn t1 t2 ht) (gw_cwV hg wd_507 mv_D_turnedY rfl rfl ⟨Nat.le_of_ble_eq_true rfl, Nat.le_of_ble_eq_true rfl⟩) (pu_preV (ci := 0) (q0 := 0) am_S_bl hK hPc8 (pu_e0 am_S_bl hE.1.1) rfl rfl) rfl rfl hl.1 rfl (lv_room (Nat.le_of_ble_eq_true rfl)) md_K_corner_60 ⟨Nat.zero_le _, Nat.zero_le _⟩) ?_
                exact vx_ret (W.widen (k := 1) (n := 6) (Nat.zero_le _) (Nat.zero_le _) (W.lret (v := fD_turnedY dw dt corner turn) hx hb hr (fun t ht hW => ⟨⟨fD_turnedY dw dt corner turn, (), rfl, (by rw [xK_corner, if_neg c1, if_neg c2, if_neg c3, if_neg c4, if_neg c5, if_pos c6, if_neg c7]), trivial⟩, vf_0 ht⟩) (fun q hq => by cases hq) md_K_corner_63 hlocks))
              · refine lv_aload_n hx hb md_K_corner_42 rfl (lv_at hl 0 rfl) ?_
                refine va_get (D := (dC, dI)) (ci := 4) (v := .ref dA) (C := mR_K) (T := mT_K) (N := 5) hx hb hg gu_K hown hK hP 0 rfl rfl 1 (by decide) (hg _ wd_98) (fun _ h9 => h9) rfl md_K_corner_43 ?_
                refine lv_iload_n hx hb md_K_corner_46 rfl (lv_at hl 1 rfl) ?_
                refine lv_iload_n hx hb md_K_corner_47 rfl (lv_at hl 2 rfl) ?_
                have hPc9 := hP.sub (ws' := [(dA, .inr (0, [.long dw, .long dh, .long dt, .long dd]))]) [1] rfl
                refine pu_l (W.runV (As := [.int corner, .int turn]) (rest := []) ⟨hx, hb, hml, hown, hg⟩ (ct_D_turnedX l dC dI cC cI cJ dA dw dh dt dd corner turn t1 t2 ht) (gw_cwV hg wd_506 mv_D_turnedX rfl rfl ⟨Nat.le_of_ble_eq_true rfl, Nat.le_of_ble_eq_true rfl⟩) (pu_preV (ci := 0) (q0 := 0) am_S_bl hK hPc9 (pu_e0 am_S_bl hE.1.1) rfl rfl) rfl rfl hl.1 rfl (lv_room (Nat.le_of_ble_eq_true rfl)) md_K_corner_48 ⟨Nat.zero_le _, Nat.zero_le _⟩) ?_
                refine lv_goto (tgt := 63) hx hb md_K_corner_51 (by decide) ?_
                exact vx_ret (W.widen (k := 1) (n := 6) (Nat.zero_le _) (Nat.zero_le _) (W.lret (v := fD_turnedX dw dt corner turn) hx hb hr (fun t ht hW => ⟨⟨fD_turnedX dw dt corner turn, (), rfl, (by rw [xK_corner, if_neg c1, if_neg c2, if_neg c3, if_neg c4, if_neg c5, if_pos c6, if_pos c7]), trivial⟩, vf_0 ht⟩) (fun q hq => by cases hq) md_K_corner_63 hlocks))
            · exact vx_throwS (names := xn_R) hx hb hl9 hown (by decide +kernel) (by decide +kernel) (hg _ wd_255) (hg _ wd_11) (ak_176 hE.1) (xa_IOB hg hE) xo_IOB (vx_Zq.narrow hE.1.2.1.1 (fun _ h => h.elim)) (vx_Zq.narrow hE.1.2.1.2 (fun _ h => h.elim)) (A := fun _ => False) (va_S.rf) (hl.1.trans hml.symm) md_K_corner_28 md_K_corner_31 md_K_corner_32 md_K_corner_34 md_K_corner_37 (fun x h => (hne x h).elim) (Nat.le_of_ble_eq_true rfl) (Nat.le_of_ble_eq_true rfl) (Nat.le_of_ble_eq_true rfl) (Nat.le_of_ble_eq_true rfl) hlocks (fun t hal hz hk => ⟨(), trivial, (by rw [xK_corner, if_neg c1, if_neg c2, if_neg c3, if_neg c4, if_neg c5, if_neg c6]), hz, fun q h1 _ => hk q h1⟩) (fun z hz => by cases hz) (Nat.le_refl _) (Nat.le_refl _)

def xK_rows32 (height : Int64) (k : Int32) : Except String Int32 := if (fK_isWithin height 1 100000) = 0 then (.error "java/lang/IllegalArgumentException") else (if (-1) ≤ k then (if 0 ≤ ((Int64.toInt32 height) - 74) then (if k = (-1) then (.ok ((((Int64.toInt32 height) - 74) / 32) + 1)) else (if ((((Int64.toInt32 height) - 74) / 32) + 1) ≤ k then (.ok (-1)) else (.ok (37 + (32 * k))))) else (if k = (-1) then (.ok 0) else (if 0 ≤ k then (.ok (-1)) else (.ok (37 + (32 * k)))))) else (.error "java/lang/IllegalArgumentException"))
set_option maxHeartbeats 1000000 in
set_option maxRecDepth 100000 in
theorem cx_K_rows32 (l : Launch) (dC : Nat → ClassId) (dI : Nat → Nat → Nat) (cC cI cJ : ClassId) (kA : Nat) (xA : Nat) (dA : Nat) (oA : Nat) (tA : Nat) (uA : Nat) (height : Int64) (k : Int32) (t1 t2 : Nat) (qs : Nat → Nat) (hl9 : l.stackTraces = false) : vx_Met l my_K_rows32 (.code my_K_rows32 mb_K_rows32 6 (some .int) :: gw_l) ({ frames := 6, cells := 1, slots := 6, locals := 130 }) (pu_Pc (dC, dI) mC [(cC, .char), (cI, .int), (cJ, .long)] [(kA, .inr (4, [.ref xA, .ref dA, .ref oA, .ref tA, .ref uA]))] (am_X t1 t2 qs) [.ref kA, .long height, .int k]) (va_Qi (fun (r : Int32) (_ : Unit) => xK_rows32 height k = .ok r) (fun _ _ => True) (fun _ => False)) (vx_X (fun _ : Unit => True) (fun E _ _ => xK_rows32 height k = .error E) (fun _ => False)) 1 6 (fun _ => False) := by
  refine vx_ofW (cc := mb_K_rows32) (maxL := 6) (ret := (some .int)) (by decide) rfl ?_
  intro p e s m args below meth c s₁ B hml hne hv
  obtain ⟨rfl, hP, hK, hE⟩ := hv
  have hx := B.exec
  have hb := B.bytes
  have hr := B.returns
  have hts := atoms_spec (ws := (.code my_K_rows32 mb_K_rows32 6 (some .int) :: gw_l)) B.pre
  have hg : ∀ w ∈ gw_l, w.before _ s = true := fun w h => hts w (List.mem_cons_of_mem _ h)
  have hown : s.vm.findClass mR_K = some m.cls := findClass_of_methodNamed B.named
  have hlocks := B.notSynchronized
  have hl := lv_entry ([.ref kA, .long height, .int k]) (n := 6) (Nat.le_of_ble_eq_true rfl)
  rw [lg_entry_eq]
  generalize (lg_sl ([.ref kA, .long height, .int k]) ++ List.replicate (6 - (lg_sl ([.ref kA, .long height, .int k])).length) Slot.unset).toArray = ls at hl ⊢
  have hl : lv_has ls 6 [(0, .ref kA), (1, .long height), (3, .int k)] := hl
  refine lv_lload_n hx hb md_K_rows32_0 rfl (lv_at hl 1 rfl) ?_
  refine lv_iconst (v := 1) hx hb md_K_rows32_1 (by decide) ?_
  refine lv_ldc hx hb hown (hg _ wd_440) md_K_rows32_2 ?_
  have hPc1 := hP.sub (ws' := []) [] rfl
  refine pu_i (W.runS (As := [.long height, .int 1, .int 100000]) (rest := []) ⟨hx, hb, hml, hown, hg⟩ (ct_K_isWithin l dC dI cC cI cJ height 1 100000) (gw_cwS hg wd_363 mv_K_isWithin rfl rfl ⟨Nat.le_of_ble_eq_true rfl, Nat.le_of_ble_eq_true rfl⟩) (pu_preS pu_blT hK hPc1 pu_e1) rfl rfl hl.1 rfl (lv_room (Nat.le_of_ble_eq_true rfl)) md_K_rows32_4 ⟨Nat.zero_le _, Nat.zero_le _⟩) ?_
  refine lv_if_eq (tgt := 15) hx hb md_K_rows32_7 (by decide) (fun c2 => ?_) (fun c2 => ?_)
  · exact vx_throwS (names := xn_R) hx hb hl9 hown (by decide +kernel) (by decide +kernel) (hg _ wd_286) (hg _ wd_12) (ak_184 hE.1) (xa_IAE hg hE) xo_IAE (vx_Zq.narrow hE.1.2.1.1 (fun _ h => h.elim)) (vx_Zq.narrow hE.1.2.1.2 (fun _ h => h.elim)) (A := fun _ => False) (va_S.rf) (hl.1.trans hml.symm) md_K_rows32_15 md_K_rows32_18 md_K_rows32_19 md_K_rows32_21 md_K_rows32_24 (fun x h => (hne x h).elim) (Nat.le_of_ble_eq_true rfl) (Nat.le_of_ble_eq_true rfl) (Nat.le_of_ble_eq_true rfl) (Nat.le_of_ble_eq_true rfl) hlocks (fun t hal hz hk => ⟨(), trivial, (by rw [xK_rows32, if_pos c2]), hz, fun q h1 _ => hk q h1⟩) (fun z hz => by cases hz) (Nat.le_refl _) (Nat.le_refl _)
  · refine lv_iload_n hx hb md_K_rows32_10 rfl (lv_at hl 2 rfl) ?_
    refine lv_iconst (v := (-1)) hx hb md_K_rows32_11 (by decide) ?_
    refine lv_icmp_ge (tgt := 25) hx hb md_K_rows32_12 (by decide) (fun c3 => ?_) (fun c3 => ?_)
    · refine lv_lload_n hx hb md_K_rows32_25 rfl (lv_at hl 1 rfl) ?_
      refine lv_l2i (v := Int64.toInt32 height) hx hb md_K_rows32_26 rfl ?_
      refine lv_bipush (v := 74) hx hb md_K_rows32_27 (by decide) ?_
      refine lv_isub hx hb md_K_rows32_29 ?_
      refine lv_istore (lv' := [(4, .int ((Int64.toInt32 height) - 74)), (0, .ref kA), (1, .long height), (3, .int k)]) hx hb md_K_rows32_30 hl (by decide) rfl (fun ls hl => ?_)
      refine lv_iload hx hb md_K_rows32_32 (lv_at hl 0 rfl) ?_
      refine lv_if_ge (tgt := 41) hx hb md_K_rows32_34 (by decide) (fun c4 => ?_) (fun c4 => ?_)
      · refine lv_iload hx hb md_K_rows32_41 (lv_at hl 0 rfl) ?_
        refine lv_bipush (v := 32) hx hb md_K_rows32_43 (by decide) ?_
        refine lv_idiv hx hb md_K_rows32_45 (by decide) ?_
        refine lv_iconst (v := 1) hx hb md_K_rows32_46 (by decide) ?_
        refine lv_iadd hx hb md_K_rows32_47 ?_
        refine lv_istore (lv' := [(5, .int ((((Int64.toInt32 height) - 74) / 32) + 1)), (4, .int ((Int64.toInt32 height) - 74)), (0, .ref kA), (1, .long height), (3, .int k)]) hx hb md_K_rows32_48 hl (by decide) rfl (fun ls hl => ?_)
        refine lv_iload_n hx hb md_K_rows32_50 rfl (lv_at hl 4 rfl) ?_
        refine lv_iconst (v := (-1)) hx hb md_K_rows32_51 (by decide) ?_
        refine lv_icmp_ne (tgt := 58) hx hb md_K_rows32_52 (by decide) (fun c5 => ?_) (fun c5 => ?_)
        · refine lv_iload_n hx hb md_K_rows32_58 rfl (lv_at hl 4 rfl) ?_
          refine lv_iload hx hb md_K_rows32_59 (lv_at hl 0 rfl) ?_
          refine lv_icmp_ge (tgt := 74) hx hb md_K_rows32_61 (by decide) (fun c6 => ?_) (fun c6 => ?_)
          · refine lv_iconst (v := (-1)) hx hb md_K_rows32_74 (by decide) ?_
            exact vx_ret (W.widen (k := 1) (n := 6) (Nat.zero_le _) (Nat.zero_le _) (W.iret (v := (-1)) hx hb hr (fun t ht hW => ⟨⟨(-1), (), rfl, (by rw [xK_rows32, if_neg c2, if_pos c3, if_pos c4, if_neg c5, if_pos c6]), trivial⟩, vf_0 ht⟩) (fun q hq => by cases hq) md_K_rows32_75 hlocks))
          · refine lv_bipush (v := 37) hx hb md_K_rows32_64 (by decide) ?_
            refine lv_bipush (v := 32) hx hb md_K_rows32_66 (by decide) ?_
            refine lv_iload_n hx hb md_K_rows32_68 rfl (lv_at hl 4 rfl) ?_
            refine lv_imul hx hb md_K_rows32_69 ?_
            refine lv_iadd hx hb md_K_rows32_70 ?_
            refine lv_goto (tgt := 75) hx hb md_K_rows32_71 (by decide) ?_
            exact vx_ret (W.widen (k := 1) (n := 6) (Nat.zero_le _) (Nat.zero_le _) (W.iret (v := 37 + (32 * k)) hx hb hr (fun t ht hW => ⟨⟨37 + (32 * k), (), rfl, (by rw [xK_rows32, if_neg c2, if_pos c3, if_pos c4, if_neg c5, if_neg c6]), trivial⟩, vf_0 ht⟩) (fun q hq => by cases hq) md_K_rows32_75 hlocks))
        · refine lv_iload hx hb md_K_rows32_55 (lv_at hl 0 rfl) ?_
          exact vx_ret (W.widen (k := 1) (n := 6) (Nat.zero_le _) (Nat.zero_le _) (W.iret (v := (((Int64.toInt32 height) - 74) / 32) + 1) hx hb hr (fun t ht hW => ⟨⟨(((Int64.toInt32 height) - 74) / 32) + 1, (), rfl, (by rw [xK_rows32, if_neg c2, if_pos c3, if_pos c4, if_pos c5]), trivial⟩, vf_0 ht⟩) (fun q hq => by cases hq) md_K_rows32_57 hlocks))
      · refine lv_iconst (v := 0) hx hb md_K_rows32_37 (by decide) ?_
        refine lv_goto (tgt := 48) hx hb md_K_rows32_38 (by decide) ?_
        refine lv_istore (lv' := [(5, .int 0), (4, .int ((Int64.toInt32 height) - 74)), (0, .ref kA), (1, .long height), (3, .int k)]) hx hb md_K_rows32_48 hl (by decide) rfl (fun ls hl => ?_)
        refine lv_iload_n hx hb md_K_rows32_50 rfl (lv_at hl 4 rfl) ?_
        refine lv_iconst (v := (-1)) hx hb md_K_rows32_51 (by decide) ?_
        refine lv_icmp_ne (tgt := 58) hx hb md_K_rows32_52 (by decide) (fun c7 => ?_) (fun c7 => ?_)
        · refine lv_iload_n hx hb md_K_rows32_58 rfl (lv_at hl 4 rfl) ?_
          refine lv_iload hx hb md_K_rows32_59 (lv_at hl 0 rfl) ?_
          refine lv_icmp_ge (tgt := 74) hx hb md_K_rows32_61 (by decide) (fun c8 => ?_) (fun c8 => ?_)
          · refine lv_iconst (v := (-1)) hx hb md_K_rows32_74 (by decide) ?_
            exact vx_ret (W.widen (k := 1) (n := 6) (Nat.zero_le _) (Nat.zero_le _) (W.iret (v := (-1)) hx hb hr (fun t ht hW => ⟨⟨(-1), (), rfl, (by rw [xK_rows32, if_neg c2, if_pos c3, if_neg c4, if_neg c7, if_pos c8]), trivial⟩, vf_0 ht⟩) (fun q hq => by cases hq) md_K_rows32_75 hlocks))
          · refine lv_bipush (v := 37) hx hb md_K_rows32_64 (by decide) ?_
            refine lv_bipush (v := 32) hx hb md_K_rows32_66 (by decide) ?_
            refine lv_iload_n hx hb md_K_rows32_68 rfl (lv_at hl 4 rfl) ?_
            refine lv_imul hx hb md_K_rows32_69 ?_
            refine lv_iadd hx hb md_K_rows32_70 ?_
            refine lv_goto (tgt := 75) hx hb md_K_rows32_71 (by decide) ?_
            exact vx_ret (W.widen (k := 1) (n := 6) (Nat.zero_le _) (Nat.zero_le _) (W.iret (v := 37 + (32 * k)) hx hb hr (fun t ht hW => ⟨⟨37 + (32 * k), (), rfl, (by rw [xK_rows32, if_neg c2, if_pos c3, if_neg c4, if_neg c7, if_neg c8]), trivial⟩, vf_0 ht⟩) (fun q hq => by cases hq) md_K_rows32_75 hlocks))
        · refine lv_iload hx hb md_K_rows32_55 (lv_at hl 0 rfl) ?_
          exact vx_ret (W.widen (k := 1) (n := 6) (Nat.zero_le _) (Nat.zero_le _) (W.iret (v := 0) hx hb hr (fun t ht hW => ⟨⟨0, (), rfl, (by rw [xK_rows32, if_neg c2, if_pos c3, if_neg c4, if_pos c7]), trivial⟩, vf_0 ht⟩) (fun q hq => by cases hq) md_K_rows32_57 hlocks))
    · exact vx_throwS (names := xn_R) hx hb hl9 hown (by decide +kernel) (by decide +kernel) (hg _ wd_286) (hg _ wd_12) (ak_184 hE.1) (xa_IAE hg hE) xo_IAE (vx_Zq.narrow hE.1.2.1.1 (fun _ h => h.elim)) (vx_Zq.narrow hE.1.2.1.2 (fun _ h => h.elim)) (A := fun _ => False) (va_S.rf) (hl.1.trans hml.symm) md_K_rows32_15 md_K_rows32_18 md_K_rows32_19 md_K_rows32_21 md_K_rows32_24 (fun x h => (hne x h).elim) (Nat.le_of_ble_eq_true rfl) (Nat.le_of_ble_eq_true rfl) (Nat.le_of_ble_eq_true rfl) (Nat.le_of_ble_eq_true rfl) hlocks (fun t hal hz hk => ⟨(), trivial, (by rw [xK_rows32, if_neg c2, if_neg c3]), hz, fun q h1 _ => hk q h1⟩) (fun z hz => by cases hz) (Nat.le_refl _) (Nat.le_refl _)
