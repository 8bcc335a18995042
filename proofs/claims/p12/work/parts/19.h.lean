/-- what the law's helpers want beside: which exceptions are no others -/
def am_L (t1 t2 : Nat) (qs : Nat → Nat) (U : State) : Prop := am_X t1 t2 qs U ∧ va_Nc "java/lang/IndexOutOfBoundsException" "java/lang/IllegalStateException" U ∧ va_Nc "java/lang/IllegalArgumentException" "java/lang/IllegalStateException" U ∧ va_Nc "java/lang/IllegalArgumentException" "java/lang/IndexOutOfBoundsException" U
theorem am_L_bl {t1 t2 : Nat} {qs : Nat → Nat} : pu_bl (am_L t1 t2 qs) := fun U V hH hW h => ⟨am_X_bl U V hH hW h.1, va_Nc.moved hW.alike h.2.1, va_Nc.moved hW.alike h.2.2.1, va_Nc.moved hW.alike h.2.2.2⟩

theorem xe_K_row {tl : Nat → Int32} {tn : Nat → Int32} {tz : Nat} {row : Int32} {k : Int32} {E : String} (h : xK_row tl tn tz row k = .error E) : E = "java/lang/IllegalStateException" ∨ E = "java/lang/IndexOutOfBoundsException" := by
  unfold xK_row at h
  repeat' split at h
  all_goals first | (cases h; done) | (cases h; simp)
def ec_L_row (E : String) : Int32 := if E = "java/lang/IllegalStateException" then 1 else if E = "java/lang/IndexOutOfBoundsException" then 2 else 0
theorem ec_L_row_ISE : ec_L_row "java/lang/IllegalStateException" = 1 := by decide +kernel
theorem ec_L_row_IOB : ec_L_row "java/lang/IndexOutOfBoundsException" = 2 := by decide +kernel
def fL_row (tl : Nat → Int32) (tn : Nat → Int32) (tz : Nat) (ol : Nat → Int64) (row : Int32) (k : Int32) : Int32 × (Nat → Int64) := match xK_row tl tn tz row k with
  | .ok v => (0, vp_updL ol (Int32.toNatClampNeg 0) (Int32.toInt64 v))
  | .error E => (ec_L_row E, ol)
set_option maxHeartbeats 1000000 in
set_option maxRecDepth 100000 in
theorem ch_L_row (l : Launch) (dC : Nat → ClassId) (dI : Nat → Nat → Nat) (cC cI cJ : ClassId) (kA : Nat) (xA : Nat) (dA : Nat) (oA : Nat) (uA : Nat) (tA : Nat) (tL : Nat) (tN : Nat) (tS : Nat) (tl : Nat → Int32) (tn : Nat → Int32) (ts : Nat → Int32) (tz : Nat) (bA : Nat) (ol : Nat → Int64) (row : Int32) (k : Int32) (t1 t2 : Nat) (qs : Nat → Nat) (hl9 : l.stackTraces = false) (hz : tz ≤ 16) (hch : ∀ j, narrow .char (.int (tl j)) = .int (tl j)) : Met l my_L_row (.codeWith my_L_row mb_L_row 5 (some .int) [(0, 10, 13, 13), (0, 10, 17, 15)] :: gw_l) ({ frames := 8, cells := 1, slots := 6, locals := 173 }) (mu_Pc (dC, dI) mC [(cC, .char), (cI, .int), (cJ, .long)] [(kA, .inr (4, [.ref xA, .ref dA, .ref oA, .ref tA, .ref uA])), (tA, .inr (2, [.ref tL, .ref tN, .ref tS, .int (nI tz)])), (tL, .inl (cC, 16, .inl tl)), (tN, .inl (cI, 96, .inl tn)), (tS, .inl (cI, 16, .inl ts)), (bA, .inl (cJ, 1, .inr (.inl ol)))] (am_L t1 t2 qs) [.ref kA, .int row, .int k, .ref bA]) (va_Qi (fun (r : Int32) (u : (Nat → Int64)) => (r, u) = fL_row tl tn tz ol row k) (fun u t => va_P (dC, dI) mC [(kA, .inr (4, [.ref xA, .ref dA, .ref oA, .ref tA, .ref uA])), (tA, .inr (2, [.ref tL, .ref tN, .ref tS, .int (nI tz)])), (tL, .inl (cC, 16, .inl tl)), (tN, .inl (cI, 96, .inl tn)), (tS, .inl (cI, 16, .inl ts)), (bA, .inl (cJ, 1, .inr (.inl u)))] t.heap) (mu_A [(kA, .inr (4, [.ref xA, .ref dA, .ref oA, .ref tA, .ref uA])), (tA, .inr (2, [.ref tL, .ref tN, .ref tS, .int (nI tz)])), (tL, .inl (cC, 16, .inl tl)), (tN, .inl (cI, 96, .inl tn)), (tS, .inl (cI, 16, .inl ts)), (bA, .inl (cJ, 1, .inr (.inl ol)))])) 1 6 (mu_A [(kA, .inr (4, [.ref xA, .ref dA, .ref oA, .ref tA, .ref uA])), (tA, .inr (2, [.ref tL, .ref tN, .ref tS, .int (nI tz)])), (tL, .inl (cC, 16, .inl tl)), (tN, .inl (cI, 96, .inl tn)), (tS, .inl (cI, 16, .inl ts)), (bA, .inl (cJ, 1, .inr (.inl ol)))]) := by
  refine va_MetW (cc := mb_L_row) (maxL := 5) (ret := some .int) (hh := [(0, 10, 13, 13), (0, 10, 17, 15)]) (by decide) rfl ?_
  intro p e s m args below meth c s₁ B hml hv
  obtain ⟨rfl, hP, hK, hD0, hE⟩ := hv
  have hx := B.exec
  have hb := B.bytes
  have hr := B.returns
  have hts := atoms_spec (ws := (.codeWith my_L_row mb_L_row 5 (some .int) [(0, 10, 13, 13), (0, 10, 17, 15)] :: gw_l)) B.pre
  have htab := vx_table (x := my_L_row) B (hts _ List.mem_cons_self)
  have hg : ∀ w ∈ gw_l, w.before _ s = true := fun w h => hts w (List.mem_cons_of_mem _ h)
  have hown : s.vm.findClass "HingeTablesLaw" = some m.cls := findClass_of_methodNamed B.named
  have hlocks := B.notSynchronized
  have hD := mu_self hD0
  have hS : va_S (mu_A [(kA, .inr (4, [.ref xA, .ref dA, .ref oA, .ref tA, .ref uA])), (tA, .inr (2, [.ref tL, .ref tN, .ref tS, .int (nI tz)])), (tL, .inl (cC, 16, .inl tl)), (tN, .inl (cI, 96, .inl tn)), (tS, .inl (cI, 16, .inl ts)), (bA, .inl (cJ, 1, .inr (.inl ol)))]) s.heap s.heap [] := va_S.rf
  generalize hAe : mu_A [(kA, .inr (4, [.ref xA, .ref dA, .ref oA, .ref tA, .ref uA])), (tA, .inr (2, [.ref tL, .ref tN, .ref tS, .int (nI tz)])), (tL, .inl (cC, 16, .inl tl)), (tN, .inl (cI, 96, .inl tn)), (tS, .inl (cI, 16, .inl ts)), (bA, .inl (cJ, 1, .inr (.inl ol)))] = A at hD hS ⊢
  have hl := lv_entry ([.ref kA, .int row, .int k, .ref bA]) (n := 5) (Nat.le_of_ble_eq_true rfl)
  rw [lg_entry_eq]
  generalize (lg_sl ([.ref kA, .int row, .int k, .ref bA]) ++ List.replicate (5 - (lg_sl ([.ref kA, .int row, .int k, .ref bA])).length) Slot.unset).toArray = ls at hl ⊢
  have hl : lv_has ls 5 [(0, .ref kA), (1, .int row), (2, .int k), (3, .ref bA)] := hl
  refine lv_aload_n hx hb md_L_row_0 rfl (lv_at hl 3 rfl) ?_
  refine lv_iconst (v := 0) hx hb md_L_row_1 (by decide) ?_
  refine lv_aload_n hx hb md_L_row_2 rfl (lv_at hl 0 rfl) ?_
  refine lv_iload_n hx hb md_L_row_3 rfl (lv_at hl 1 rfl) ?_
  refine lv_iload_n hx hb md_L_row_4 rfl (lv_at hl 2 rfl) ?_
  have hPc := hP.sub (ws' := [(kA, .inr (4, [.ref xA, .ref dA, .ref oA, .ref tA, .ref uA])), (tA, .inr (2, [.ref tL, .ref tN, .ref tS, .int (nI tz)])), (tL, .inl (cC, 16, .inl tl)), (tN, .inl (cI, 96, .inl tn)), (tS, .inl (cI, 16, .inl ts))]) [0, 1, 2, 3, 4] rfl
  refine vx_calli (vx_runV (As := [.int row, .int k]) (rest := [.int 0, .ref bA]) ⟨hx, hb, hml, hown, hg⟩ (cx_K_row l dC dI cC cI cJ kA xA dA oA uA tA tL tN tS tl tn ts tz row k t1 t2 qs hl9 hz hch) (gw_cwV hg wd_175 mv_K_row rfl rfl ⟨Nat.le_of_ble_eq_true rfl, Nat.le_of_ble_eq_true rfl⟩) (pu_preV (ci := 4) (q0 := 0) am_X_bl hK hPc (pu_e0 am_X_bl hE.1) rfl rfl) rfl rfl hl.1 rfl (lv_room (Nat.le_of_ble_eq_true rfl)) md_L_row_5 ⟨Nat.le_of_ble_eq_true rfl, Nat.le_of_ble_eq_true rfl⟩) hS (fun _ _ h => h.elim) (fun _ h => h.elim) (fun _ _ h => h.elim) (fun E ce q9 u9 t9 H locs ht hal hpx hpost hz hk hS hcell hcv hcl => ?_) (fun r9 u9 t9 H locs ht hal hpost hB hz hk hS => ?_)
  · have hpost : xK_row tl tn tz row k = .error E := hpost
    have hP := tx_P hP (fun q h => hk q h (fun z => z))
    rcases xe_K_row hpost with rfl | rfl
    · refine vx_catch (name := "java/lang/IllegalStateException") hown [] ⟨0, 10, 13, 13⟩ [⟨0, 10, 17, 15⟩] (htab.trans rfl) (fun z hz => by cases hz) (by decide) (by decide) (hg _ wd_173) (va_Nw.use rfl (ac_ISE hE.1)) hcell hcv hcl ?_
      refine lv_astore (lv' := [(4, .ref q9), (0, .ref kA), (1, .int row), (2, .int k), (3, .ref bA)]) hx hb md_L_row_13 hl (by decide) rfl (fun ls hl => ?_)
      refine lv_iconst (v := 1) hx hb md_L_row_15 (by decide) ?_
      exact W.iret (v := 1) hx hb hr (fun t ht hW => ⟨⟨1, (ol), rfl, (by simp only [fL_row, hpost, ec_L_row_ISE]), by have h9 := hP; rw [← ht] at h9; exact h9⟩, hS.F ht⟩) hS.2.2 md_L_row_16 hlocks
    · refine vx_catch (name := "java/lang/IndexOutOfBoundsException") hown [⟨0, 10, 13, 13⟩] ⟨0, 10, 17, 15⟩ [] (htab.trans rfl) (fun z hz => by simp only [List.mem_cons, List.not_mem_nil, or_false] at hz; subst hz; exact Or.inr ⟨by decide, "java/lang/IllegalStateException", hg _ wd_173, hE.2.1⟩) (by decide) (by decide) (hg _ wd_174) (va_Nw.use rfl (ac_IOB hE.1)) hcell hcv hcl ?_
      refine lv_astore (lv' := [(4, .ref q9), (0, .ref kA), (1, .int row), (2, .int k), (3, .ref bA)]) hx hb md_L_row_17 hl (by decide) rfl (fun ls hl => ?_)
      refine lv_iconst (v := 2) hx hb md_L_row_19 (by decide) ?_
      exact W.iret (v := 2) hx hb hr (fun t ht hW => ⟨⟨2, (ol), rfl, (by simp only [fL_row, hpost, ec_L_row_IOB]), by have h9 := hP; rw [← ht] at h9; exact h9⟩, hS.F ht⟩) hS.2.2 md_L_row_20 hlocks
  · have hpost : xK_row tl tn tz row k = .ok r9 := hpost
    have hP := tx_P hP (fun q h => hk q h (fun z => z))
    refine lv_i2l (v := Int32.toInt64 r9) hx hb md_L_row_8 rfl ?_
    refine va_last hx hb hK hP hD hS 5 2 rfl rfl (by unfold vp_in; decide) md_L_row_9 (fun H locs hP hD hS => ?_)
    have hP : va_P (dC, dI) mC [(kA, .inr (4, [.ref xA, .ref dA, .ref oA, .ref tA, .ref uA])), (tA, .inr (2, [.ref tL, .ref tN, .ref tS, .int (nI tz)])), (tL, .inl (cC, 16, .inl tl)), (tN, .inl (cI, 96, .inl tn)), (tS, .inl (cI, 16, .inl ts)), (bA, .inl (cJ, 1, .inr (.inl (vp_updL ol (Int32.toNatClampNeg 0) (Int32.toInt64 r9)))))] H := hP
    have hD : va_D A [(kA, .inr (4, [.ref xA, .ref dA, .ref oA, .ref tA, .ref uA])), (tA, .inr (2, [.ref tL, .ref tN, .ref tS, .int (nI tz)])), (tL, .inl (cC, 16, .inl tl)), (tN, .inl (cI, 96, .inl tn)), (tS, .inl (cI, 16, .inl ts)), (bA, .inl (cJ, 1, .inr (.inl (vp_updL ol (Int32.toNatClampNeg 0) (Int32.toInt64 r9)))))] := hD
    refine lv_goto (tgt := 21) hx hb md_L_row_10 (by decide) ?_
    refine lv_iconst (v := 0) hx hb md_L_row_21 (by decide) ?_
    exact W.iret (v := 0) hx hb hr (fun t ht hW => ⟨⟨0, (vp_updL ol (Int32.toNatClampNeg 0) (Int32.toInt64 r9)), rfl, (by simp only [fL_row, hpost]), by have h9 := hP; rw [← ht] at h9; exact h9⟩, hS.F ht⟩) hS.2.2 md_L_row_22 hlocks

theorem xe_K_stock {ts : Nat → Int32} {tz : Nat} {row : Int32} {n0 : Int32} {E : String} (h : xK_stock ts tz row n0 = .error E) : E = "java/lang/IllegalStateException" ∨ E = "java/lang/IndexOutOfBoundsException" ∨ E = "java/lang/IllegalArgumentException" := by
  unfold xK_stock at h
  repeat' split at h
  all_goals first | (cases h; done) | (cases h; simp)
def ec_L_stock (E : String) : Int32 := if E = "java/lang/IllegalStateException" then 1 else if E = "java/lang/IndexOutOfBoundsException" then 2 else if E = "java/lang/IllegalArgumentException" then 3 else 0
theorem ec_L_stock_ISE : ec_L_stock "java/lang/IllegalStateException" = 1 := by decide +kernel
theorem ec_L_stock_IOB : ec_L_stock "java/lang/IndexOutOfBoundsException" = 2 := by decide +kernel
theorem ec_L_stock_IAE : ec_L_stock "java/lang/IllegalArgumentException" = 3 := by decide +kernel
def fL_stock (ts : Nat → Int32) (tz : Nat) (ol : Nat → Int64) (row : Int32) (n0 : Int32) : Int32 × (Nat → Int64) × (Nat → Int32) := match xK_stock ts tz row n0 with
  | .ok (v, y0) => (0, vp_updL ol (Int32.toNatClampNeg 0) ((if v = 0 then 0 else 1)), y0)
  | .error E => (ec_L_stock E, ol, ts)
set_option maxHeartbeats 1000000 in
set_option maxRecDepth 100000 in
theorem ch_L_stock (l : Launch) (dC : Nat → ClassId) (dI : Nat → Nat → Nat) (cC cI cJ : ClassId) (kA : Nat) (xA : Nat) (dA : Nat) (oA : Nat) (uA : Nat) (tA : Nat) (tL : Nat) (tN : Nat) (tS : Nat) (tl : Nat → Int32) (tn : Nat → Int32) (ts : Nat → Int32) (tz : Nat) (bA : Nat) (ol : Nat → Int64) (row : Int32) (n0 : Int32) (t1 t2 : Nat) (qs : Nat → Nat) (hl9 : l.stackTraces = false) (hz : tz ≤ 16) : Met l my_L_stock (.codeWith my_L_stock mb_L_stock 5 (some .int) [(0, 17, 20, 13), (0, 17, 24, 15), (0, 17, 28, 21)] :: gw_l) ({ frames := 8, cells := 1, slots := 6, locals := 173 }) (mu_Pc (dC, dI) mC [(cC, .char), (cI, .int), (cJ, .long)] [(kA, .inr (4, [.ref xA, .ref dA, .ref oA, .ref tA, .ref uA])), (tA, .inr (2, [.ref tL, .ref tN, .ref tS, .int (nI tz)])), (tL, .inl (cC, 16, .inl tl)), (tN, .inl (cI, 96, .inl tn)), (tS, .inl (cI, 16, .inl ts)), (bA, .inl (cJ, 1, .inr (.inl ol)))] (am_L t1 t2 qs) [.ref kA, .int row, .int n0, .ref bA]) (va_Qi (fun (r : Int32) (u : (Nat → Int64) × (Nat → Int32)) => (r, u) = fL_stock ts tz ol row n0) (fun u t => va_P (dC, dI) mC [(kA, .inr (4, [.ref xA, .ref dA, .ref oA, .ref tA, .ref uA])), (tA, .inr (2, [.ref tL, .ref tN, .ref tS, .int (nI tz)])), (tL, .inl (cC, 16, .inl tl)), (tN, .inl (cI, 96, .inl tn)), (tS, .inl (cI, 16, .inl u.2)), (bA, .inl (cJ, 1, .inr (.inl u.1)))] t.heap) (mu_A [(kA, .inr (4, [.ref xA, .ref dA, .ref oA, .ref tA, .ref uA])), (tA, .inr (2, [.ref tL, .ref tN, .ref tS, .int (nI tz)])), (tL, .inl (cC, 16, .inl tl)), (tN, .inl (cI, 96, .inl tn)), (tS, .inl (cI, 16, .inl ts)), (bA, .inl (cJ, 1, .inr (.inl ol)))])) 1 6 (mu_A [(kA, .inr (4, [.ref xA, .ref dA, .ref oA, .ref tA, .ref uA])), (tA, .inr (2, [.ref tL, .ref tN, .ref tS, .int (nI tz)])), (tL, .inl (cC, 16, .inl tl)), (tN, .inl (cI, 96, .inl tn)), (tS, .inl (cI, 16, .inl ts)), (bA, .inl (cJ, 1, .inr (.inl ol)))]) := by
  refine va_MetW (cc := mb_L_stock) (maxL := 5) (ret := some .int) (hh := [(0, 17, 20, 13), (0, 17, 24, 15), (0, 17, 28, 21)]) (by decide) rfl ?_
  intro p e s m args below meth c s₁ B hml hv
  obtain ⟨rfl, hP, hK, hD0, hE⟩ := hv
  have hx := B.exec
  have hb := B.bytes
  have hr := B.returns
  have hts := atoms_spec (ws := (.codeWith my_L_stock mb_L_stock 5 (some .int) [(0, 17, 20, 13), (0, 17, 24, 15), (0, 17, 28, 21)] :: gw_l)) B.pre
  have htab := vx_table (x := my_L_stock) B (hts _ List.mem_cons_self)
  have hg : ∀ w ∈ gw_l, w.before _ s = true := fun w h => hts w (List.mem_cons_of_mem _ h)
  have hown : s.vm.findClass "HingeTablesLaw" = some m.cls := findClass_of_methodNamed B.named
  have hlocks := B.notSynchronized
  have hD := mu_self hD0
  have hS : va_S (mu_A [(kA, .inr (4, [.ref xA, .ref dA, .ref oA, .ref tA, .ref uA])), (tA, .inr (2, [.ref tL, .ref tN, .ref tS, .int (nI tz)])), (tL, .inl (cC, 16, .inl tl)), (tN, .inl (cI, 96, .inl tn)), (tS, .inl (cI, 16, .inl ts)), (bA, .inl (cJ, 1, .inr (.inl ol)))]) s.heap s.heap [] := va_S.rf
  generalize hAe : mu_A [(kA, .inr (4, [.ref xA, .ref dA, .ref oA, .ref tA, .ref uA])), (tA, .inr (2, [.ref tL, .ref tN, .ref tS, .int (nI tz)])), (tL, .inl (cC, 16, .inl tl)), (tN, .inl (cI, 96, .inl tn)), (tS, .inl (cI, 16, .inl ts)), (bA, .inl (cJ, 1, .inr (.inl ol)))] = A at hD hS ⊢
  have hl := lv_entry ([.ref kA, .int row, .int n0, .ref bA]) (n := 5) (Nat.le_of_ble_eq_true rfl)
  rw [lg_entry_eq]
  generalize (lg_sl ([.ref kA, .int row, .int n0, .ref bA]) ++ List.replicate (5 - (lg_sl ([.ref kA, .int row, .int n0, .ref bA])).length) Slot.unset).toArray = ls at hl ⊢
  have hl : lv_has ls 5 [(0, .ref kA), (1, .int row), (2, .int n0), (3, .ref bA)] := hl
  refine lv_aload_n hx hb md_L_stock_0 rfl (lv_at hl 3 rfl) ?_
  refine lv_iconst (v := 0) hx hb md_L_stock_1 (by decide) ?_
  refine lv_aload_n hx hb md_L_stock_2 rfl (lv_at hl 0 rfl) ?_
  refine lv_iload_n hx hb md_L_stock_3 rfl (lv_at hl 1 rfl) ?_
  refine lv_iload_n hx hb md_L_stock_4 rfl (lv_at hl 2 rfl) ?_
  have hPc := hP.sub (ws' := [(kA, .inr (4, [.ref xA, .ref dA, .ref oA, .ref tA, .ref uA])), (tA, .inr (2, [.ref tL, .ref tN, .ref tS, .int (nI tz)])), (tL, .inl (cC, 16, .inl tl)), (tN, .inl (cI, 96, .inl tn)), (tS, .inl (cI, 16, .inl ts))]) [0, 1, 2, 3, 4] rfl
  have hDc := hD.sub (ws' := [(kA, .inr (4, [.ref xA, .ref dA, .ref oA, .ref tA, .ref uA])), (tA, .inr (2, [.ref tL, .ref tN, .ref tS, .int (nI tz)])), (tL, .inl (cC, 16, .inl tl)), (tN, .inl (cI, 96, .inl tn)), (tS, .inl (cI, 16, .inl ts))]) [0, 1, 2, 3, 4] (by decide) rfl
  have hFc := mu_free (wc := [(kA, .inr (4, [.ref xA, .ref dA, .ref oA, .ref tA, .ref uA])), (tA, .inr (2, [.ref tL, .ref tN, .ref tS, .int (nI tz)])), (tL, .inl (cC, 16, .inl tl)), (tN, .inl (cI, 96, .inl tn)), (tS, .inl (cI, 16, .inl ts))]) hD [0, 1, 2, 3, 4] rfl
  refine vx_calli (vx_runV (As := [.int row, .int n0]) (rest := [.int 0, .ref bA]) ⟨hx, hb, hml, hown, hg⟩ (cx_K_stock l dC dI cC cI cJ kA xA dA oA uA tA tL tN tS tl tn ts tz row n0 t1 t2 qs hl9 hz) (gw_cwV hg wd_282 mv_K_stock rfl rfl ⟨Nat.le_of_ble_eq_true rfl, Nat.le_of_ble_eq_true rfl⟩) (mu_preV (ci := 4) (q0 := 0) am_X_bl hK hPc hDc (pu_e0 am_X_bl hE.1) rfl rfl) rfl rfl hl.1 rfl (lv_room (Nat.le_of_ble_eq_true rfl)) md_L_stock_5 ⟨Nat.le_of_ble_eq_true rfl, Nat.le_of_ble_eq_true rfl⟩) hS (fun q _ h => hFc q h) hFc (fun _ _ h => h.elim) (fun E ce q9 u9 t9 H locs ht hal hpx hpost hz hk hS hcell hcv hcl => ?_) (fun r9 u9 t9 H locs ht hal hpost hB hz hk hS => ?_)
  · have hpost : xK_stock ts tz row n0 = .error E := hpost
    have hP := tx_P hP (fun q h => hk q h (fun z => z))
    rcases xe_K_stock hpost with rfl | rfl | rfl
    · refine vx_catch (name := "java/lang/IllegalStateException") hown [] ⟨0, 17, 20, 13⟩ [⟨0, 17, 24, 15⟩, ⟨0, 17, 28, 21⟩] (htab.trans rfl) (fun z hz => by cases hz) (by decide) (by decide) (hg _ wd_173) (va_Nw.use rfl (ac_ISE hE.1)) hcell hcv hcl ?_
      refine lv_astore (lv' := [(4, .ref q9), (0, .ref kA), (1, .int row), (2, .int n0), (3, .ref bA)]) hx hb md_L_stock_20 hl (by decide) rfl (fun ls hl => ?_)
      refine lv_iconst (v := 1) hx hb md_L_stock_22 (by decide) ?_
      exact W.iret (v := 1) hx hb hr (fun t ht hW => ⟨⟨1, (ol, ts), rfl, (by simp only [fL_stock, hpost, ec_L_stock_ISE]), by have h9 := hP; rw [← ht] at h9; exact h9⟩, hS.F ht⟩) hS.2.2 md_L_stock_23 hlocks
    · refine vx_catch (name := "java/lang/IndexOutOfBoundsException") hown [⟨0, 17, 20, 13⟩] ⟨0, 17, 24, 15⟩ [⟨0, 17, 28, 21⟩] (htab.trans rfl) (fun z hz => by simp only [List.mem_cons, List.not_mem_nil, or_false] at hz; subst hz; exact Or.inr ⟨by decide, "java/lang/IllegalStateException", hg _ wd_173, hE.2.1⟩) (by decide) (by decide) (hg _ wd_174) (va_Nw.use rfl (ac_IOB hE.1)) hcell hcv hcl ?_
      refine lv_astore (lv' := [(4, .ref q9), (0, .ref kA), (1, .int row), (2, .int n0), (3, .ref bA)]) hx hb md_L_stock_24 hl (by decide) rfl (fun ls hl => ?_)
      refine lv_iconst (v := 2) hx hb md_L_stock_26 (by decide) ?_
      exact W.iret (v := 2) hx hb hr (fun t ht hW => ⟨⟨2, (ol, ts), rfl, (by simp only [fL_stock, hpost, ec_L_stock_IOB]), by have h9 := hP; rw [← ht] at h9; exact h9⟩, hS.F ht⟩) hS.2.2 md_L_stock_27 hlocks
    · refine vx_catch (name := "java/lang/IllegalArgumentException") hown [⟨0, 17, 20, 13⟩, ⟨0, 17, 24, 15⟩] ⟨0, 17, 28, 21⟩ [] (htab.trans rfl) (fun z hz => by
          simp only [List.mem_cons, List.not_mem_nil, or_false] at hz
          rcases hz with rfl | rfl
          · exact Or.inr ⟨by decide, "java/lang/IllegalStateException", hg _ wd_173, hE.2.2.1⟩
          · exact Or.inr ⟨by decide, "java/lang/IndexOutOfBoundsException", hg _ wd_174, hE.2.2.2⟩) (by decide) (by decide) (hg _ wd_281) (va_Nw.use rfl (ac_IAE hE.1)) hcell hcv hcl ?_
      refine lv_astore (lv' := [(4, .ref q9), (0, .ref kA), (1, .int row), (2, .int n0), (3, .ref bA)]) hx hb md_L_stock_28 hl (by decide) rfl (fun ls hl => ?_)
      refine lv_iconst (v := 3) hx hb md_L_stock_30 (by decide) ?_
      exact W.iret (v := 3) hx hb hr (fun t ht hW => ⟨⟨3, (ol, ts), rfl, (by simp only [fL_stock, hpost, ec_L_stock_IAE]), by have h9 := hP; rw [← ht] at h9; exact h9⟩, hS.F ht⟩) hS.2.2 md_L_stock_31 hlocks
  · skip
    have hpost : xK_stock ts tz row n0 = .ok (r9, u9) := hpost
    have hB : va_P (dC, dI) mC [(kA, .inr (4, [.ref xA, .ref dA, .ref oA, .ref tA, .ref uA])), (tA, .inr (2, [.ref tL, .ref tN, .ref tS, .int (nI tz)])), (tL, .inl (cC, 16, .inl tl)), (tN, .inl (cI, 96, .inl tn)), (tS, .inl (cI, 16, .inl u9))] H := by rw [← ht]; exact hB
    have hP := mu_join (ws' := [(kA, .inr (4, [.ref xA, .ref dA, .ref oA, .ref tA, .ref uA])), (tA, .inr (2, [.ref tL, .ref tN, .ref tS, .int (nI tz)])), (tL, .inl (cC, 16, .inl tl)), (tN, .inl (cI, 96, .inl tn)), (tS, .inl (cI, 16, .inl u9)), (bA, .inl (cJ, 1, .inr (.inl ol)))]) hP hD [0, 1, 2, 3, 4] [.inl 0, .inl 1, .inl 2, .inl 3, .inl 4, .inr 5] rfl rfl rfl hk hB
    have hD : va_D A [(kA, .inr (4, [.ref xA, .ref dA, .ref oA, .ref tA, .ref uA])), (tA, .inr (2, [.ref tL, .ref tN, .ref tS, .int (nI tz)])), (tL, .inl (cC, 16, .inl tl)), (tN, .inl (cI, 96, .inl tn)), (tS, .inl (cI, 16, .inl u9)), (bA, .inl (cJ, 1, .inr (.inl ol)))] := mu_D (ws := [(kA, .inr (4, [.ref xA, .ref dA, .ref oA, .ref tA, .ref uA])), (tA, .inr (2, [.ref tL, .ref tN, .ref tS, .int (nI tz)])), (tL, .inl (cC, 16, .inl tl)), (tN, .inl (cI, 96, .inl tn)), (tS, .inl (cI, 16, .inl ts)), (bA, .inl (cJ, 1, .inr (.inl ol)))]) rfl hD
    refine lv_if_eq (tgt := 15) hx hb md_L_stock_8 (by decide) (fun c1 => ?_) (fun c1 => ?_)
    · refine lv_lconst (v := 0) hx hb md_L_stock_15 (by decide) ?_
      refine va_last hx hb hK hP hD hS 5 2 rfl rfl (by unfold vp_in; decide) md_L_stock_16 (fun H locs hP hD hS => ?_)
      have hP : va_P (dC, dI) mC [(kA, .inr (4, [.ref xA, .ref dA, .ref oA, .ref tA, .ref uA])), (tA, .inr (2, [.ref tL, .ref tN, .ref tS, .int (nI tz)])), (tL, .inl (cC, 16, .inl tl)), (tN, .inl (cI, 96, .inl tn)), (tS, .inl (cI, 16, .inl u9)), (bA, .inl (cJ, 1, .inr (.inl (vp_updL ol (Int32.toNatClampNeg 0) 0))))] H := hP
      have hD : va_D A [(kA, .inr (4, [.ref xA, .ref dA, .ref oA, .ref tA, .ref uA])), (tA, .inr (2, [.ref tL, .ref tN, .ref tS, .int (nI tz)])), (tL, .inl (cC, 16, .inl tl)), (tN, .inl (cI, 96, .inl tn)), (tS, .inl (cI, 16, .inl u9)), (bA, .inl (cJ, 1, .inr (.inl (vp_updL ol (Int32.toNatClampNeg 0) 0))))] := hD
      refine lv_goto (tgt := 32) hx hb md_L_stock_17 (by decide) ?_
      refine lv_iconst (v := 0) hx hb md_L_stock_32 (by decide) ?_
      exact W.iret (v := 0) hx hb hr (fun t ht hW => ⟨⟨0, (vp_updL ol (Int32.toNatClampNeg 0) 0, u9), rfl, (by simp only [fL_stock, hpost, if_pos c1]), by have h9 := hP; rw [← ht] at h9; exact h9⟩, hS.F ht⟩) hS.2.2 md_L_stock_33 hlocks
    · refine lv_lconst (v := 1) hx hb md_L_stock_11 (by decide) ?_
      refine lv_goto (tgt := 16) hx hb md_L_stock_12 (by decide) ?_
      refine va_last hx hb hK hP hD hS 5 2 rfl rfl (by unfold vp_in; decide) md_L_stock_16 (fun H locs hP hD hS => ?_)
      have hP : va_P (dC, dI) mC [(kA, .inr (4, [.ref xA, .ref dA, .ref oA, .ref tA, .ref uA])), (tA, .inr (2, [.ref tL, .ref tN, .ref tS, .int (nI tz)])), (tL, .inl (cC, 16, .inl tl)), (tN, .inl (cI, 96, .inl tn)), (tS, .inl (cI, 16, .inl u9)), (bA, .inl (cJ, 1, .inr (.inl (vp_updL ol (Int32.toNatClampNeg 0) 1))))] H := hP
      have hD : va_D A [(kA, .inr (4, [.ref xA, .ref dA, .ref oA, .ref tA, .ref uA])), (tA, .inr (2, [.ref tL, .ref tN, .ref tS, .int (nI tz)])), (tL, .inl (cC, 16, .inl tl)), (tN, .inl (cI, 96, .inl tn)), (tS, .inl (cI, 16, .inl u9)), (bA, .inl (cJ, 1, .inr (.inl (vp_updL ol (Int32.toNatClampNeg 0) 1))))] := hD
      refine lv_goto (tgt := 32) hx hb md_L_stock_17 (by decide) ?_
      refine lv_iconst (v := 0) hx hb md_L_stock_32 (by decide) ?_
      exact W.iret (v := 0) hx hb hr (fun t ht hW => ⟨⟨0, (vp_updL ol (Int32.toNatClampNeg 0) 1, u9), rfl, (by simp only [fL_stock, hpost, if_neg c1]), by have h9 := hP; rw [← ht] at h9; exact h9⟩, hS.F ht⟩) hS.2.2 md_L_stock_33 hlocks

theorem xe_K_hinge {tl : Nat → Int32} {tn : Nat → Int32} {ts : Nat → Int32} {tz : Nat} {overlay : Int64} {thick : Int64} {angle : Int32} {E : String} (h : xK_hinge tl tn ts tz overlay thick angle = .error E) : E = "java/lang/IllegalStateException" := by
  unfold xK_hinge at h
  repeat' split at h
  all_goals first | (cases h; done) | (cases h; simp)
def ec_L_hinge (E : String) : Int32 := if E = "java/lang/IllegalStateException" then 1 else 0
theorem ec_L_hinge_ISE : ec_L_hinge "java/lang/IllegalStateException" = 1 := by decide +kernel
def fL_hinge (tl : Nat → Int32) (tn : Nat → Int32) (ts : Nat → Int32) (tz : Nat) (ol : Nat → Int64) (overlay : Int64) (thick : Int64) (angle : Int32) : Int32 × (Nat → Int64) := match xK_hinge tl tn ts tz overlay thick angle with
  | .ok v => (0, vp_updL ol (Int32.toNatClampNeg 0) (Int32.toInt64 v))
  | .error E => (ec_L_hinge E, ol)
set_option maxHeartbeats 1000000 in
set_option maxRecDepth 100000 in
theorem ch_L_hinge (l : Launch) (dC : Nat → ClassId) (dI : Nat → Nat → Nat) (cC cI cJ : ClassId) (kA : Nat) (xA : Nat) (dA : Nat) (oA : Nat) (uA : Nat) (tA : Nat) (tL : Nat) (tN : Nat) (tS : Nat) (tl : Nat → Int32) (tn : Nat → Int32) (ts : Nat → Int32) (tz : Nat) (bA : Nat) (ol : Nat → Int64) (overlay : Int64) (thick : Int64) (angle : Int32) (t1 t2 : Nat) (qs : Nat → Nat) (hl9 : l.stackTraces = false) (hz : tz ≤ 16) : Met l my_L_hinge (.codeWith my_L_hinge mb_L_hinge 8 (some .int) [(0, 13, 16, 13)] :: gw_l) ({ frames := 8, cells := 1, slots := 6, locals := 175 }) (mu_Pc (dC, dI) mC [(cC, .char), (cI, .int), (cJ, .long)] [(kA, .inr (4, [.ref xA, .ref dA, .ref oA, .ref tA, .ref uA])), (tA, .inr (2, [.ref tL, .ref tN, .ref tS, .int (nI tz)])), (tL, .inl (cC, 16, .inl tl)), (tN, .inl (cI, 96, .inl tn)), (tS, .inl (cI, 16, .inl ts)), (bA, .inl (cJ, 1, .inr (.inl ol)))] (am_L t1 t2 qs) [.ref kA, .long overlay, .long thick, .int angle, .ref bA]) (va_Qi (fun (r : Int32) (u : (Nat → Int64)) => (r, u) = fL_hinge tl tn ts tz ol overlay thick angle) (fun u t => va_P (dC, dI) mC [(kA, .inr (4, [.ref xA, .ref dA, .ref oA, .ref tA, .ref uA])), (tA, .inr (2, [.ref tL, .ref tN, .ref tS, .int (nI tz)])), (tL, .inl (cC, 16, .inl tl)), (tN, .inl (cI, 96, .inl tn)), (tS, .inl (cI, 16, .inl ts)), (bA, .inl (cJ, 1, .inr (.inl u)))] t.heap) (mu_A [(kA, .inr (4, [.ref xA, .ref dA, .ref oA, .ref tA, .ref uA])), (tA, .inr (2, [.ref tL, .ref tN, .ref tS, .int (nI tz)])), (tL, .inl (cC, 16, .inl tl)), (tN, .inl (cI, 96, .inl tn)), (tS, .inl (cI, 16, .inl ts)), (bA, .inl (cJ, 1, .inr (.inl ol)))])) 1 6 (mu_A [(kA, .inr (4, [.ref xA, .ref dA, .ref oA, .ref tA, .ref uA])), (tA, .inr (2, [.ref tL, .ref tN, .ref tS, .int (nI tz)])), (tL, .inl (cC, 16, .inl tl)), (tN, .inl (cI, 96, .inl tn)), (tS, .inl (cI, 16, .inl ts)), (bA, .inl (cJ, 1, .inr (.inl ol)))]) := by
  refine va_MetW (cc := mb_L_hinge) (maxL := 8) (ret := some .int) (hh := [(0, 13, 16, 13)]) (by decide) rfl ?_
  intro p e s m args below meth c s₁ B hml hv
  obtain ⟨rfl, hP, hK, hD0, hE⟩ := hv
  have hx := B.exec
  have hb := B.bytes
  have hr := B.returns
  have hts := atoms_spec (ws := (.codeWith my_L_hinge mb_L_hinge 8 (some .int) [(0, 13, 16, 13)] :: gw_l)) B.pre
  have htab := vx_table (x := my_L_hinge) B (hts _ List.mem_cons_self)
  have hg : ∀ w ∈ gw_l, w.before _ s = true := fun w h => hts w (List.mem_cons_of_mem _ h)
  have hown : s.vm.findClass "HingeTablesLaw" = some m.cls := findClass_of_methodNamed B.named
  have hlocks := B.notSynchronized
  have hD := mu_self hD0
  have hS : va_S (mu_A [(kA, .inr (4, [.ref xA, .ref dA, .ref oA, .ref tA, .ref uA])), (tA, .inr (2, [.ref tL, .ref tN, .ref tS, .int (nI tz)])), (tL, .inl (cC, 16, .inl tl)), (tN, .inl (cI, 96, .inl tn)), (tS, .inl (cI, 16, .inl ts)), (bA, .inl (cJ, 1, .inr (.inl ol)))]) s.heap s.heap [] := va_S.rf
  generalize hAe : mu_A [(kA, .inr (4, [.ref xA, .ref dA, .ref oA, .ref tA, .ref uA])), (tA, .inr (2, [.ref tL, .ref tN, .ref tS, .int (nI tz)])), (tL, .inl (cC, 16, .inl tl)), (tN, .inl (cI, 96, .inl tn)), (tS, .inl (cI, 16, .inl ts)), (bA, .inl (cJ, 1, .inr (.inl ol)))] = A at hD hS ⊢
  have hl := lv_entry ([.ref kA, .long overlay, .long thick, .int angle, .ref bA]) (n := 8) (Nat.le_of_ble_eq_true rfl)
  rw [lg_entry_eq]
  generalize (lg_sl ([.ref kA, .long overlay, .long thick, .int angle, .ref bA]) ++ List.replicate (8 - (lg_sl ([.ref kA, .long overlay, .long thick, .int angle, .ref bA])).length) Slot.unset).toArray = ls at hl ⊢
  have hl : lv_has ls 8 [(0, .ref kA), (1, .long overlay), (3, .long thick), (5, .int angle), (6, .ref bA)] := hl
  refine lv_aload hx hb md_L_hinge_0 (lv_at hl 4 rfl) ?_
  refine lv_iconst (v := 0) hx hb md_L_hinge_2 (by decide) ?_
  refine lv_aload_n hx hb md_L_hinge_3 rfl (lv_at hl 0 rfl) ?_
  refine lv_lload_n hx hb md_L_hinge_4 rfl (lv_at hl 1 rfl) ?_
  refine lv_lload_n hx hb md_L_hinge_5 rfl (lv_at hl 2 rfl) ?_
  refine lv_iload hx hb md_L_hinge_6 (lv_at hl 3 rfl) ?_
  have hPc := hP.sub (ws' := [(kA, .inr (4, [.ref xA, .ref dA, .ref oA, .ref tA, .ref uA])), (tA, .inr (2, [.ref tL, .ref tN, .ref tS, .int (nI tz)])), (tL, .inl (cC, 16, .inl tl)), (tN, .inl (cI, 96, .inl tn)), (tS, .inl (cI, 16, .inl ts))]) [0, 1, 2, 3, 4] rfl
  refine vx_calli (vx_runV (As := [.long overlay, .long thick, .int angle]) (rest := [.int 0, .ref bA]) ⟨hx, hb, hml, hown, hg⟩ (cx_K_hinge l dC dI cC cI cJ kA xA dA oA uA tA tL tN tS tl tn ts tz overlay thick angle t1 t2 qs hl9 hz) (gw_cwV hg wd_309 mv_K_hinge rfl rfl ⟨Nat.le_of_ble_eq_true rfl, Nat.le_of_ble_eq_true rfl⟩) (pu_preV (ci := 4) (q0 := 0) am_X_bl hK hPc (pu_e0 am_X_bl hE.1) rfl rfl) rfl rfl hl.1 rfl (lv_room (Nat.le_of_ble_eq_true rfl)) md_L_hinge_8 ⟨Nat.le_of_ble_eq_true rfl, Nat.le_of_ble_eq_true rfl⟩) hS (fun _ _ h => h.elim) (fun _ h => h.elim) (fun _ _ h => h.elim) (fun E ce q9 u9 t9 H locs ht hal hpx hpost hz hk hS hcell hcv hcl => ?_) (fun r9 u9 t9 H locs ht hal hpost hB hz hk hS => ?_)
  · have hpost : xK_hinge tl tn ts tz overlay thick angle = .error E := hpost
    have hP := tx_P hP (fun q h => hk q h (fun z => z))
    obtain rfl := xe_K_hinge hpost
    refine vx_catch (name := "java/lang/IllegalStateException") hown [] ⟨0, 13, 16, 13⟩ [] (htab.trans rfl) (fun z hz => by cases hz) (by decide) (by decide) (hg _ wd_173) (va_Nw.use rfl (ac_ISE hE.1)) hcell hcv hcl ?_
    refine lv_astore (lv' := [(7, .ref q9), (0, .ref kA), (1, .long overlay), (3, .long thick), (5, .int angle), (6, .ref bA)]) hx hb md_L_hinge_16 hl (by decide) rfl (fun ls hl => ?_)
    refine lv_iconst (v := 1) hx hb md_L_hinge_18 (by decide) ?_
    exact W.iret (v := 1) hx hb hr (fun t ht hW => ⟨⟨1, (ol), rfl, (by simp only [fL_hinge, hpost, ec_L_hinge_ISE]), by have h9 := hP; rw [← ht] at h9; exact h9⟩, hS.F ht⟩) hS.2.2 md_L_hinge_19 hlocks
  · have hpost : xK_hinge tl tn ts tz overlay thick angle = .ok r9 := hpost
    have hP := tx_P hP (fun q h => hk q h (fun z => z))
    refine lv_i2l (v := Int32.toInt64 r9) hx hb md_L_hinge_11 rfl ?_
    refine va_last hx hb hK hP hD hS 5 2 rfl rfl (by unfold vp_in; decide) md_L_hinge_12 (fun H locs hP hD hS => ?_)
    have hP : va_P (dC, dI) mC [(kA, .inr (4, [.ref xA, .ref dA, .ref oA, .ref tA, .ref uA])), (tA, .inr (2, [.ref tL, .ref tN, .ref tS, .int (nI tz)])), (tL, .inl (cC, 16, .inl tl)), (tN, .inl (cI, 96, .inl tn)), (tS, .inl (cI, 16, .inl ts)), (bA, .inl (cJ, 1, .inr (.inl (vp_updL ol (Int32.toNatClampNeg 0) (Int32.toInt64 r9)))))] H := hP
    have hD : va_D A [(kA, .inr (4, [.ref xA, .ref dA, .ref oA, .ref tA, .ref uA])), (tA, .inr (2, [.ref tL, .ref tN, .ref tS, .int (nI tz)])), (tL, .inl (cC, 16, .inl tl)), (tN, .inl (cI, 96, .inl tn)), (tS, .inl (cI, 16, .inl ts)), (bA, .inl (cJ, 1, .inr (.inl (vp_updL ol (Int32.toNatClampNeg 0) (Int32.toInt64 r9)))))] := hD
    refine lv_goto (tgt := 20) hx hb md_L_hinge_13 (by decide) ?_
    refine lv_iconst (v := 0) hx hb md_L_hinge_20 (by decide) ?_
    exact W.iret (v := 0) hx hb hr (fun t ht hW => ⟨⟨0, (vp_updL ol (Int32.toNatClampNeg 0) (Int32.toInt64 r9)), rfl, (by simp only [fL_hinge, hpost]), by have h9 := hP; rw [← ht] at h9; exact h9⟩, hS.F ht⟩) hS.2.2 md_L_hinge_21 hlocks

theorem xe_K_other {tl : Nat → Int32} {tn : Nat → Int32} {ts : Nat → Int32} {tz : Nat} {row : Int32} {k : Int32} {E : String} (h : xK_other tl tn ts tz row k = .error E) : E = "java/lang/IllegalStateException" ∨ E = "java/lang/IndexOutOfBoundsException" ∨ E = "java/lang/IllegalArgumentException" := by
  unfold xK_other at h
  repeat' split at h
  all_goals first | (cases h; done) | (cases h; simp)
def ec_L_other (E : String) : Int32 := if E = "java/lang/IllegalStateException" then 1 else if E = "java/lang/IndexOutOfBoundsException" then 2 else if E = "java/lang/IllegalArgumentException" then 3 else 0
theorem ec_L_other_ISE : ec_L_other "java/lang/IllegalStateException" = 1 := by decide +kernel
theorem ec_L_other_IOB : ec_L_other "java/lang/IndexOutOfBoundsException" = 2 := by decide +kernel
theorem ec_L_other_IAE : ec_L_other "java/lang/IllegalArgumentException" = 3 := by decide +kernel
def fL_other (tl : Nat → Int32) (tn : Nat → Int32) (ts : Nat → Int32) (tz : Nat) (ol : Nat → Int64) (row : Int32) (k : Int32) : Int32 × (Nat → Int64) := match xK_other tl tn ts tz row k with
  | .ok v => (0, vp_updL ol (Int32.toNatClampNeg 0) (Int32.toInt64 v))
  | .error E => (ec_L_other E, ol)
set_option maxHeartbeats 1000000 in
set_option maxRecDepth 100000 in
theorem ch_L_other (l : Launch) (dC : Nat → ClassId) (dI : Nat → Nat → Nat) (cC cI cJ : ClassId) (kA : Nat) (xA : Nat) (dA : Nat) (oA : Nat) (uA : Nat) (tA : Nat) (tL : Nat) (tN : Nat) (tS : Nat) (tl : Nat → Int32) (tn : Nat → Int32) (ts : Nat → Int32) (tz : Nat) (bA : Nat) (ol : Nat → Int64) (row : Int32) (k : Int32) (t1 t2 : Nat) (qs : Nat → Nat) (hl9 : l.stackTraces = false) (hz : tz ≤ 16) (hch : ∀ j, narrow .char (.int (tl j)) = .int (tl j)) : Met l my_L_other (.codeWith my_L_other mb_L_other 5 (some .int) [(0, 10, 13, 13), (0, 10, 17, 15), (0, 10, 21, 21)] :: gw_l) ({ frames := 8, cells := 1, slots := 6, locals := 173 }) (mu_Pc (dC, dI) mC [(cC, .char), (cI, .int), (cJ, .long)] [(kA, .inr (4, [.ref xA, .ref dA, .ref oA, .ref tA, .ref uA])), (tA, .inr (2, [.ref tL, .ref tN, .ref tS, .int (nI tz)])), (tL, .inl (cC, 16, .inl tl)), (tN, .inl (cI, 96, .inl tn)), (tS, .inl (cI, 16, .inl ts)), (bA, .inl (cJ, 1, .inr (.inl ol)))] (am_L t1 t2 qs) [.ref kA, .int row, .int k, .ref bA]) (va_Qi (fun (r : Int32) (u : (Nat → Int64)) => (r, u) = fL_other tl tn ts tz ol row k) (fun u t => va_P (dC, dI) mC [(kA, .inr (4, [.ref xA, .ref dA, .ref oA, .ref tA, .ref uA])), (tA, .inr (2, [.ref tL, .ref tN, .ref tS, .int (nI tz)])), (tL, .inl (cC, 16, .inl tl)), (tN, .inl (cI, 96, .inl tn)), (tS, .inl (cI, 16, .inl ts)), (bA, .inl (cJ, 1, .inr (.inl u)))] t.heap) (mu_A [(kA, .inr (4, [.ref xA, .ref dA, .ref oA, .ref tA, .ref uA])), (tA, .inr (2, [.ref tL, .ref tN, .ref tS, .int (nI tz)])), (tL, .inl (cC, 16, .inl tl)), (tN, .inl (cI, 96, .inl tn)), (tS, .inl (cI, 16, .inl ts)), (bA, .inl (cJ, 1, .inr (.inl ol)))])) 1 6 (mu_A [(kA, .inr (4, [.ref xA, .ref dA, .ref oA, .ref tA, .ref uA])), (tA, .inr (2, [.ref tL, .ref tN, .ref tS, .int (nI tz)])), (tL, .inl (cC, 16, .inl tl)), (tN, .inl (cI, 96, .inl tn)), (tS, .inl (cI, 16, .inl ts)), (bA, .inl (cJ, 1, .inr (.inl ol)))]) := by
  refine va_MetW (cc := mb_L_other) (maxL := 5) (ret := some .int) (hh := [(0, 10, 13, 13), (0, 10, 17, 15), (0, 10, 21, 21)]) (by decide) rfl ?_
  intro p e s m args below meth c s₁ B hml hv
  obtain ⟨rfl, hP, hK, hD0, hE⟩ := hv
  have hx := B.exec
  have hb := B.bytes
  have hr := B.returns
  have hts := atoms_spec (ws := (.codeWith my_L_other mb_L_other 5 (some .int) [(0, 10, 13, 13), (0, 10, 17, 15), (0, 10, 21, 21)] :: gw_l)) B.pre
  have htab := vx_table (x := my_L_other) B (hts _ List.mem_cons_self)
  have hg : ∀ w ∈ gw_l, w.before _ s = true := fun w h => hts w (List.mem_cons_of_mem _ h)
  have hown : s.vm.findClass "HingeTablesLaw" = some m.cls := findClass_of_methodNamed B.named
  have hlocks := B.notSynchronized
  have hD := mu_self hD0
  have hS : va_S (mu_A [(kA, .inr (4, [.ref xA, .ref dA, .ref oA, .ref tA, .ref uA])), (tA, .inr (2, [.ref tL, .ref tN, .ref tS, .int (nI tz)])), (tL, .inl (cC, 16, .inl tl)), (tN, .inl (cI, 96, .inl tn)), (tS, .inl (cI, 16, .inl ts)), (bA, .inl (cJ, 1, .inr (.inl ol)))]) s.heap s.heap [] := va_S.rf
  generalize hAe : mu_A [(kA, .inr (4, [.ref xA, .ref dA, .ref oA, .ref tA, .ref uA])), (tA, .inr (2, [.ref tL, .ref tN, .ref tS, .int (nI tz)])), (tL, .inl (cC, 16, .inl tl)), (tN, .inl (cI, 96, .inl tn)), (tS, .inl (cI, 16, .inl ts)), (bA, .inl (cJ, 1, .inr (.inl ol)))] = A at hD hS ⊢
  have hl := lv_entry ([.ref kA, .int row, .int k, .ref bA]) (n := 5) (Nat.le_of_ble_eq_true rfl)
  rw [lg_entry_eq]
  generalize (lg_sl ([.ref kA, .int row, .int k, .ref bA]) ++ List.replicate (5 - (lg_sl ([.ref kA, .int row, .int k, .ref bA])).length) Slot.unset).toArray = ls at hl ⊢
  have hl : lv_has ls 5 [(0, .ref kA), (1, .int row), (2, .int k), (3, .ref bA)] := hl
  refine lv_aload_n hx hb md_L_other_0 rfl (lv_at hl 3 rfl) ?_
  refine lv_iconst (v := 0) hx hb md_L_other_1 (by decide) ?_
  refine lv_aload_n hx hb md_L_other_2 rfl (lv_at hl 0 rfl) ?_
  refine lv_iload_n hx hb md_L_other_3 rfl (lv_at hl 1 rfl) ?_
  refine lv_iload_n hx hb md_L_other_4 rfl (lv_at hl 2 rfl) ?_
  have hPc := hP.sub (ws' := [(kA, .inr (4, [.ref xA, .ref dA, .ref oA, .ref tA, .ref uA])), (tA, .inr (2, [.ref tL, .ref tN, .ref tS, .int (nI tz)])), (tL, .inl (cC, 16, .inl tl)), (tN, .inl (cI, 96, .inl tn)), (tS, .inl (cI, 16, .inl ts))]) [0, 1, 2, 3, 4] rfl
  refine vx_calli (vx_runV (As := [.int row, .int k]) (rest := [.int 0, .ref bA]) ⟨hx, hb, hml, hown, hg⟩ (cx_K_other l dC dI cC cI cJ kA xA dA oA uA tA tL tN tS tl tn ts tz row k t1 t2 qs hl9 hz hch) (gw_cwV hg wd_328 mv_K_other rfl rfl ⟨Nat.le_of_ble_eq_true rfl, Nat.le_of_ble_eq_true rfl⟩) (pu_preV (ci := 4) (q0 := 0) am_X_bl hK hPc (pu_e0 am_X_bl hE.1) rfl rfl) rfl rfl hl.1 rfl (lv_room (Nat.le_of_ble_eq_true rfl)) md_L_other_5 ⟨Nat.le_of_ble_eq_true rfl, Nat.le_of_ble_eq_true rfl⟩) hS (fun _ _ h => h.elim) (fun _ h => h.elim) (fun _ _ h => h.elim) (fun E ce q9 u9 t9 H locs ht hal hpx hpost hz hk hS hcell hcv hcl => ?_) (fun r9 u9 t9 H locs ht hal hpost hB hz hk hS => ?_)
  · have hpost : xK_other tl tn ts tz row k = .error E := hpost
    have hP := tx_P hP (fun q h => hk q h (fun z => z))
    rcases xe_K_other hpost with rfl | rfl | rfl
    · refine vx_catch (name := "java/lang/IllegalStateException") hown [] ⟨0, 10, 13, 13⟩ [⟨0, 10, 17, 15⟩, ⟨0, 10, 21, 21⟩] (htab.trans rfl) (fun z hz => by cases hz) (by decide) (by decide) (hg _ wd_173) (va_Nw.use rfl (ac_ISE hE.1)) hcell hcv hcl ?_
      refine lv_astore (lv' := [(4, .ref q9), (0, .ref kA), (1, .int row), (2, .int k), (3, .ref bA)]) hx hb md_L_other_13 hl (by decide) rfl (fun ls hl => ?_)
      refine lv_iconst (v := 1) hx hb md_L_other_15 (by decide) ?_
      exact W.iret (v := 1) hx hb hr (fun t ht hW => ⟨⟨1, (ol), rfl, (by simp only [fL_other, hpost, ec_L_other_ISE]), by have h9 := hP; rw [← ht] at h9; exact h9⟩, hS.F ht⟩) hS.2.2 md_L_other_16 hlocks
    · refine vx_catch (name := "java/lang/IndexOutOfBoundsException") hown [⟨0, 10, 13, 13⟩] ⟨0, 10, 17, 15⟩ [⟨0, 10, 21, 21⟩] (htab.trans rfl) (fun z hz => by simp only [List.mem_cons, List.not_mem_nil, or_false] at hz; subst hz; exact Or.inr ⟨by decide, "java/lang/IllegalStateException", hg _ wd_173, hE.2.1⟩) (by decide) (by decide) (hg _ wd_174) (va_Nw.use rfl (ac_IOB hE.1)) hcell hcv hcl ?_
      refine lv_astore (lv' := [(4, .ref q9), (0, .ref kA), (1, .int row), (2, .int k), (3, .ref bA)]) hx hb md_L_other_17 hl (by decide) rfl (fun ls hl => ?_)
      refine lv_iconst (v := 2) hx hb md_L_other_19 (by decide) ?_
      exact W.iret (v := 2) hx hb hr (fun t ht hW => ⟨⟨2, (ol), rfl, (by simp only [fL_other, hpost, ec_L_other_IOB]), by have h9 := hP; rw [← ht] at h9; exact h9⟩, hS.F ht⟩) hS.2.2 md_L_other_20 hlocks
    · refine vx_catch (name := "java/lang/IllegalArgumentException") hown [⟨0, 10, 13, 13⟩, ⟨0, 10, 17, 15⟩] ⟨0, 10, 21, 21⟩ [] (htab.trans rfl) (fun z hz => by
          simp only [List.mem_cons, List.not_mem_nil, or_false] at hz
          rcases hz with rfl | rfl
          · exact Or.inr ⟨by decide, "java/lang/IllegalStateException", hg _ wd_173, hE.2.2.1⟩
          · exact Or.inr ⟨by decide, "java/lang/IndexOutOfBoundsException", hg _ wd_174, hE.2.2.2⟩) (by decide) (by decide) (hg _ wd_281) (va_Nw.use rfl (ac_IAE hE.1)) hcell hcv hcl ?_
      refine lv_astore (lv' := [(4, .ref q9), (0, .ref kA), (1, .int row), (2, .int k), (3, .ref bA)]) hx hb md_L_other_21 hl (by decide) rfl (fun ls hl => ?_)
      refine lv_iconst (v := 3) hx hb md_L_other_23 (by decide) ?_
      exact W.iret (v := 3) hx hb hr (fun t ht hW => ⟨⟨3, (ol), rfl, (by simp only [fL_other, hpost, ec_L_other_IAE]), by have h9 := hP; rw [← ht] at h9; exact h9⟩, hS.F ht⟩) hS.2.2 md_L_other_24 hlocks
  · have hpost : xK_other tl tn ts tz row k = .ok r9 := hpost
    have hP := tx_P hP (fun q h => hk q h (fun z => z))
    refine lv_i2l (v := Int32.toInt64 r9) hx hb md_L_other_8 rfl ?_
    refine va_last hx hb hK hP hD hS 5 2 rfl rfl (by unfold vp_in; decide) md_L_other_9 (fun H locs hP hD hS => ?_)
    have hP : va_P (dC, dI) mC [(kA, .inr (4, [.ref xA, .ref dA, .ref oA, .ref tA, .ref uA])), (tA, .inr (2, [.ref tL, .ref tN, .ref tS, .int (nI tz)])), (tL, .inl (cC, 16, .inl tl)), (tN, .inl (cI, 96, .inl tn)), (tS, .inl (cI, 16, .inl ts)), (bA, .inl (cJ, 1, .inr (.inl (vp_updL ol (Int32.toNatClampNeg 0) (Int32.toInt64 r9)))))] H := hP
    have hD : va_D A [(kA, .inr (4, [.ref xA, .ref dA, .ref oA, .ref tA, .ref uA])), (tA, .inr (2, [.ref tL, .ref tN, .ref tS, .int (nI tz)])), (tL, .inl (cC, 16, .inl tl)), (tN, .inl (cI, 96, .inl tn)), (tS, .inl (cI, 16, .inl ts)), (bA, .inl (cJ, 1, .inr (.inl (vp_updL ol (Int32.toNatClampNeg 0) (Int32.toInt64 r9)))))] := hD
    refine lv_goto (tgt := 25) hx hb md_L_other_10 (by decide) ?_
    refine lv_iconst (v := 0) hx hb md_L_other_25 (by decide) ?_
    exact W.iret (v := 0) hx hb hr (fun t ht hW => ⟨⟨0, (vp_updL ol (Int32.toNatClampNeg 0) (Int32.toInt64 r9)), rfl, (by simp only [fL_other, hpost]), by have h9 := hP; rw [← ht] at h9; exact h9⟩, hS.F ht⟩) hS.2.2 md_L_other_26 hlocks

theorem xe_K_slide {tl : Nat → Int32} {tn : Nat → Int32} {ts : Nat → Int32} {tz : Nat} {depth : Int64} {E : String} (h : xK_slide tl tn ts tz depth = .error E) : E = "java/lang/IllegalStateException" := by
  unfold xK_slide at h
  repeat' split at h
  all_goals first | (cases h; done) | (cases h; simp)
def ec_L_slide (E : String) : Int32 := if E = "java/lang/IllegalStateException" then 1 else 0
theorem ec_L_slide_ISE : ec_L_slide "java/lang/IllegalStateException" = 1 := by decide +kernel
def fL_slide (tl : Nat → Int32) (tn : Nat → Int32) (ts : Nat → Int32) (tz : Nat) (ol : Nat → Int64) (depth : Int64) : Int32 × (Nat → Int64) := match xK_slide tl tn ts tz depth with
  | .ok v => (0, vp_updL ol (Int32.toNatClampNeg 0) (Int32.toInt64 v))
  | .error E => (ec_L_slide E, ol)
set_option maxHeartbeats 1000000 in
set_option maxRecDepth 100000 in
theorem ch_L_slide (l : Launch) (dC : Nat → ClassId) (dI : Nat → Nat → Nat) (cC cI cJ : ClassId) (kA : Nat) (xA : Nat) (dA : Nat) (oA : Nat) (uA : Nat) (tA : Nat) (tL : Nat) (tN : Nat) (tS : Nat) (tl : Nat → Int32) (tn : Nat → Int32) (ts : Nat → Int32) (tz : Nat) (bA : Nat) (ol : Nat → Int64) (depth : Int64) (t1 t2 : Nat) (qs : Nat → Nat) (hl9 : l.stackTraces = false) (hz : tz ≤ 16) : Met l my_L_slide (.codeWith my_L_slide mb_L_slide 5 (some .int) [(0, 9, 12, 13)] :: gw_l) ({ frames := 8, cells := 1, slots := 6, locals := 172 }) (mu_Pc (dC, dI) mC [(cC, .char), (cI, .int), (cJ, .long)] [(kA, .inr (4, [.ref xA, .ref dA, .ref oA, .ref tA, .ref uA])), (tA, .inr (2, [.ref tL, .ref tN, .ref tS, .int (nI tz)])), (tL, .inl (cC, 16, .inl tl)), (tN, .inl (cI, 96, .inl tn)), (tS, .inl (cI, 16, .inl ts)), (bA, .inl (cJ, 1, .inr (.inl ol)))] (am_L t1 t2 qs) [.ref kA, .long depth, .ref bA]) (va_Qi (fun (r : Int32) (u : (Nat → Int64)) => (r, u) = fL_slide tl tn ts tz ol depth) (fun u t => va_P (dC, dI) mC [(kA, .inr (4, [.ref xA, .ref dA, .ref oA, .ref tA, .ref uA])), (tA, .inr (2, [.ref tL, .ref tN, .ref tS, .int (nI tz)])), (tL, .inl (cC, 16, .inl tl)), (tN, .inl (cI, 96, .inl tn)), (tS, .inl (cI, 16, .inl ts)), (bA, .inl (cJ, 1, .inr (.inl u)))] t.heap) (mu_A [(kA, .inr (4, [.ref xA, .ref dA, .ref oA, .ref tA, .ref uA])), (tA, .inr (2, [.ref tL, .ref tN, .ref tS, .int (nI tz)])), (tL, .inl (cC, 16, .inl tl)), (tN, .inl (cI, 96, .inl tn)), (tS, .inl (cI, 16, .inl ts)), (bA, .inl (cJ, 1, .inr (.inl ol)))])) 1 6 (mu_A [(kA, .inr (4, [.ref xA, .ref dA, .ref oA, .ref tA, .ref uA])), (tA, .inr (2, [.ref tL, .ref tN, .ref tS, .int (nI tz)])), (tL, .inl (cC, 16, .inl tl)), (tN, .inl (cI, 96, .inl tn)), (tS, .inl (cI, 16, .inl ts)), (bA, .inl (cJ, 1, .inr (.inl ol)))]) := by
  refine va_MetW (cc := mb_L_slide) (maxL := 5) (ret := some .int) (hh := [(0, 9, 12, 13)]) (by decide) rfl ?_
  intro p e s m args below meth c s₁ B hml hv
  obtain ⟨rfl, hP, hK, hD0, hE⟩ := hv
  have hx := B.exec
  have hb := B.bytes
  have hr := B.returns
  have hts := atoms_spec (ws := (.codeWith my_L_slide mb_L_slide 5 (some .int) [(0, 9, 12, 13)] :: gw_l)) B.pre
  have htab := vx_table (x := my_L_slide) B (hts _ List.mem_cons_self)
  have hg : ∀ w ∈ gw_l, w.before _ s = true := fun w h => hts w (List.mem_cons_of_mem _ h)
  have hown : s.vm.findClass "HingeTablesLaw" = some m.cls := findClass_of_methodNamed B.named
  have hlocks := B.notSynchronized
  have hD := mu_self hD0
  have hS : va_S (mu_A [(kA, .inr (4, [.ref xA, .ref dA, .ref oA, .ref tA, .ref uA])), (tA, .inr (2, [.ref tL, .ref tN, .ref tS, .int (nI tz)])), (tL, .inl (cC, 16, .inl tl)), (tN, .inl (cI, 96, .inl tn)), (tS, .inl (cI, 16, .inl ts)), (bA, .inl (cJ, 1, .inr (.inl ol)))]) s.heap s.heap [] := va_S.rf
  generalize hAe : mu_A [(kA, .inr (4, [.ref xA, .ref dA, .ref oA, .ref tA, .ref uA])), (tA, .inr (2, [.ref tL, .ref tN, .ref tS, .int (nI tz)])), (tL, .inl (cC, 16, .inl tl)), (tN, .inl (cI, 96, .inl tn)), (tS, .inl (cI, 16, .inl ts)), (bA, .inl (cJ, 1, .inr (.inl ol)))] = A at hD hS ⊢
  have hl := lv_entry ([.ref kA, .long depth, .ref bA]) (n := 5) (Nat.le_of_ble_eq_true rfl)
  rw [lg_entry_eq]
  generalize (lg_sl ([.ref kA, .long depth, .ref bA]) ++ List.replicate (5 - (lg_sl ([.ref kA, .long depth, .ref bA])).length) Slot.unset).toArray = ls at hl ⊢
  have hl : lv_has ls 5 [(0, .ref kA), (1, .long depth), (3, .ref bA)] := hl
  refine lv_aload_n hx hb md_L_slide_0 rfl (lv_at hl 2 rfl) ?_
  refine lv_iconst (v := 0) hx hb md_L_slide_1 (by decide) ?_
  refine lv_aload_n hx hb md_L_slide_2 rfl (lv_at hl 0 rfl) ?_
  refine lv_lload_n hx hb md_L_slide_3 rfl (lv_at hl 1 rfl) ?_
  have hPc := hP.sub (ws' := [(kA, .inr (4, [.ref xA, .ref dA, .ref oA, .ref tA, .ref uA])), (tA, .inr (2, [.ref tL, .ref tN, .ref tS, .int (nI tz)])), (tL, .inl (cC, 16, .inl tl)), (tN, .inl (cI, 96, .inl tn)), (tS, .inl (cI, 16, .inl ts))]) [0, 1, 2, 3, 4] rfl
  refine vx_calli (vx_runV (As := [.long depth]) (rest := [.int 0, .ref bA]) ⟨hx, hb, hml, hown, hg⟩ (cx_K_slide l dC dI cC cI cJ kA xA dA oA uA tA tL tN tS tl tn ts tz depth t1 t2 qs hl9 hz) (gw_cwV hg wd_345 mv_K_slide rfl rfl ⟨Nat.le_of_ble_eq_true rfl, Nat.le_of_ble_eq_true rfl⟩) (pu_preV (ci := 4) (q0 := 0) am_X_bl hK hPc (pu_e0 am_X_bl hE.1) rfl rfl) rfl rfl hl.1 rfl (lv_room (Nat.le_of_ble_eq_true rfl)) md_L_slide_4 ⟨Nat.le_of_ble_eq_true rfl, Nat.le_of_ble_eq_true rfl⟩) hS (fun _ _ h => h.elim) (fun _ h => h.elim) (fun _ _ h => h.elim) (fun E ce q9 u9 t9 H locs ht hal hpx hpost hz hk hS hcell hcv hcl => ?_) (fun r9 u9 t9 H locs ht hal hpost hB hz hk hS => ?_)
  · have hpost : xK_slide tl tn ts tz depth = .error E := hpost
    have hP := tx_P hP (fun q h => hk q h (fun z => z))
    obtain rfl := xe_K_slide hpost
    refine vx_catch (name := "java/lang/IllegalStateException") hown [] ⟨0, 9, 12, 13⟩ [] (htab.trans rfl) (fun z hz => by cases hz) (by decide) (by decide) (hg _ wd_173) (va_Nw.use rfl (ac_ISE hE.1)) hcell hcv hcl ?_
    refine lv_astore (lv' := [(4, .ref q9), (0, .ref kA), (1, .long depth), (3, .ref bA)]) hx hb md_L_slide_12 hl (by decide) rfl (fun ls hl => ?_)
    refine lv_iconst (v := 1) hx hb md_L_slide_14 (by decide) ?_
    exact W.iret (v := 1) hx hb hr (fun t ht hW => ⟨⟨1, (ol), rfl, (by simp only [fL_slide, hpost, ec_L_slide_ISE]), by have h9 := hP; rw [← ht] at h9; exact h9⟩, hS.F ht⟩) hS.2.2 md_L_slide_15 hlocks
  · have hpost : xK_slide tl tn ts tz depth = .ok r9 := hpost
    have hP := tx_P hP (fun q h => hk q h (fun z => z))
    refine lv_i2l (v := Int32.toInt64 r9) hx hb md_L_slide_7 rfl ?_
    refine va_last hx hb hK hP hD hS 5 2 rfl rfl (by unfold vp_in; decide) md_L_slide_8 (fun H locs hP hD hS => ?_)
    have hP : va_P (dC, dI) mC [(kA, .inr (4, [.ref xA, .ref dA, .ref oA, .ref tA, .ref uA])), (tA, .inr (2, [.ref tL, .ref tN, .ref tS, .int (nI tz)])), (tL, .inl (cC, 16, .inl tl)), (tN, .inl (cI, 96, .inl tn)), (tS, .inl (cI, 16, .inl ts)), (bA, .inl (cJ, 1, .inr (.inl (vp_updL ol (Int32.toNatClampNeg 0) (Int32.toInt64 r9)))))] H := hP
    have hD : va_D A [(kA, .inr (4, [.ref xA, .ref dA, .ref oA, .ref tA, .ref uA])), (tA, .inr (2, [.ref tL, .ref tN, .ref tS, .int (nI tz)])), (tL, .inl (cC, 16, .inl tl)), (tN, .inl (cI, 96, .inl tn)), (tS, .inl (cI, 16, .inl ts)), (bA, .inl (cJ, 1, .inr (.inl (vp_updL ol (Int32.toNatClampNeg 0) (Int32.toInt64 r9)))))] := hD
    refine lv_goto (tgt := 16) hx hb md_L_slide_9 (by decide) ?_
    refine lv_iconst (v := 0) hx hb md_L_slide_16 (by decide) ?_
    exact W.iret (v := 0) hx hb hr (fun t ht hW => ⟨⟨0, (vp_updL ol (Int32.toNatClampNeg 0) (Int32.toInt64 r9)), rfl, (by simp only [fL_slide, hpost]), by have h9 := hP; rw [← ht] at h9; exact h9⟩, hS.F ht⟩) hS.2.2 md_L_slide_17 hlocks

theorem xe_K_door {dw : Int64} {dh : Int64} {dt : Int64} {dd : Int64} {w0 : Int64} {h0 : Int64} {th0 : Int64} {de0 : Int64} {E : String} (h : xK_door dw dh dt dd w0 h0 th0 de0 = .error E) : E = "java/lang/IllegalArgumentException" := by
  unfold xK_door at h
  repeat' split at h
  all_goals first | (cases h; done) | (cases h; simp)
def ec_L_door (E : String) : Int32 := if E = "java/lang/IllegalArgumentException" then 1 else 0
theorem ec_L_door_IAE : ec_L_door "java/lang/IllegalArgumentException" = 1 := by decide +kernel
def fL_door (dw : Int64) (dh : Int64) (dt : Int64) (dd : Int64) (ol : Nat → Int64) (w0 : Int64) (h0 : Int64) (th0 : Int64) (de0 : Int64) : Int32 × (Nat → Int64) × Int64 × Int64 × Int64 × Int64 := match xK_door dw dh dt dd w0 h0 th0 de0 with
  | .ok (v, y0, y1, y2, y3) => (0, vp_updL ol (Int32.toNatClampNeg 0) ((if v = 0 then 0 else 1)), y0, y1, y2, y3)
  | .error E => (ec_L_door E, ol, dw, dh, dt, dd)
set_option maxHeartbeats 1000000 in
set_option maxRecDepth 100000 in
theorem ch_L_door (l : Launch) (dC : Nat → ClassId) (dI : Nat → Nat → Nat) (cC cI cJ : ClassId) (kA : Nat) (xA : Nat) (oA : Nat) (tA : Nat) (uA : Nat) (dA : Nat) (dw : Int64) (dh : Int64) (dt : Int64) (dd : Int64) (bA : Nat) (ol : Nat → Int64) (w0 : Int64) (h0 : Int64) (th0 : Int64) (de0 : Int64) (t1 t2 : Nat) (qs : Nat → Nat) (hl9 : l.stackTraces = false)  : Met l my_L_door (.codeWith my_L_door mb_L_door 11 (some .int) [(0, 22, 25, 21)] :: gw_l) ({ frames := 7, cells := 1, slots := 6, locals := 158 }) (mu_Pc (dC, dI) mC [(cC, .char), (cI, .int), (cJ, .long)] [(kA, .inr (4, [.ref xA, .ref dA, .ref oA, .ref tA, .ref uA])), (dA, .inr (0, [.long dw, .long dh, .long dt, .long dd])), (bA, .inl (cJ, 1, .inr (.inl ol)))] (am_L t1 t2 qs) [.ref kA, .long w0, .long h0, .long th0, .long de0, .ref bA]) (va_Qi (fun (r : Int32) (u : (Nat → Int64) × Int64 × Int64 × Int64 × Int64) => (r, u) = fL_door dw dh dt dd ol w0 h0 th0 de0) (fun u t => va_P (dC, dI) mC [(kA, .inr (4, [.ref xA, .ref dA, .ref oA, .ref tA, .ref uA])), (dA, .inr (0, [.long u.2.1, .long u.2.2.1, .long u.2.2.2.1, .long u.2.2.2.2])), (bA, .inl (cJ, 1, .inr (.inl u.1)))] t.heap) (mu_A [(kA, .inr (4, [.ref xA, .ref dA, .ref oA, .ref tA, .ref uA])), (dA, .inr (0, [.long dw, .long dh, .long dt, .long dd])), (bA, .inl (cJ, 1, .inr (.inl ol)))])) 1 6 (mu_A [(kA, .inr (4, [.ref xA, .ref dA, .ref oA, .ref tA, .ref uA])), (dA, .inr (0, [.long dw, .long dh, .long dt, .long dd])), (bA, .inl (cJ, 1, .inr (.inl ol)))]) := by
  refine va_MetW (cc := mb_L_door) (maxL := 11) (ret := some .int) (hh := [(0, 22, 25, 21)]) (by decide) rfl ?_
  intro p e s m args below meth c s₁ B hml hv
  obtain ⟨rfl, hP, hK, hD0, hE⟩ := hv
  have hx := B.exec
  have hb := B.bytes
  have hr := B.returns
  have hts := atoms_spec (ws := (.codeWith my_L_door mb_L_door 11 (some .int) [(0, 22, 25, 21)] :: gw_l)) B.pre
  have htab := vx_table (x := my_L_door) B (hts _ List.mem_cons_self)
  have hg : ∀ w ∈ gw_l, w.before _ s = true := fun w h => hts w (List.mem_cons_of_mem _ h)
  have hown : s.vm.findClass "HingeTablesLaw" = some m.cls := findClass_of_methodNamed B.named
  have hlocks := B.notSynchronized
  have hD := mu_self hD0
  have hS : va_S (mu_A [(kA, .inr (4, [.ref xA, .ref dA, .ref oA, .ref tA, .ref uA])), (dA, .inr (0, [.long dw, .long dh, .long dt, .long dd])), (bA, .inl (cJ, 1, .inr (.inl ol)))]) s.heap s.heap [] := va_S.rf
  generalize hAe : mu_A [(kA, .inr (4, [.ref xA, .ref dA, .ref oA, .ref tA, .ref uA])), (dA, .inr (0, [.long dw, .long dh, .long dt, .long dd])), (bA, .inl (cJ, 1, .inr (.inl ol)))] = A at hD hS ⊢
  have hl := lv_entry ([.ref kA, .long w0, .long h0, .long th0, .long de0, .ref bA]) (n := 11) (Nat.le_of_ble_eq_true rfl)
  rw [lg_entry_eq]
  generalize (lg_sl ([.ref kA, .long w0, .long h0, .long th0, .long de0, .ref bA]) ++ List.replicate (11 - (lg_sl ([.ref kA, .long w0, .long h0, .long th0, .long de0, .ref bA])).length) Slot.unset).toArray = ls at hl ⊢
  have hl : lv_has ls 11 [(0, .ref kA), (1, .long w0), (3, .long h0), (5, .long th0), (7, .long de0), (9, .ref bA)] := hl
  refine lv_aload hx hb md_L_door_0 (lv_at hl 5 rfl) ?_
  refine lv_iconst (v := 0) hx hb md_L_door_2 (by decide) ?_
  refine lv_aload_n hx hb md_L_door_3 rfl (lv_at hl 0 rfl) ?_
  refine lv_lload_n hx hb md_L_door_4 rfl (lv_at hl 1 rfl) ?_
  refine lv_lload_n hx hb md_L_door_5 rfl (lv_at hl 2 rfl) ?_
  refine lv_lload hx hb md_L_door_6 (lv_at hl 3 rfl) ?_
  refine lv_lload hx hb md_L_door_8 (lv_at hl 4 rfl) ?_
  have hPc := hP.sub (ws' := [(kA, .inr (4, [.ref xA, .ref dA, .ref oA, .ref tA, .ref uA])), (dA, .inr (0, [.long dw, .long dh, .long dt, .long dd]))]) [0, 1] rfl
  have hDc := hD.sub (ws' := [(kA, .inr (4, [.ref xA, .ref dA, .ref oA, .ref tA, .ref uA])), (dA, .inr (0, [.long dw, .long dh, .long dt, .long dd]))]) [0, 1] (by decide) rfl
  have hFc := mu_free (wc := [(kA, .inr (4, [.ref xA, .ref dA, .ref oA, .ref tA, .ref uA])), (dA, .inr (0, [.long dw, .long dh, .long dt, .long dd]))]) hD [0, 1] rfl
  refine vx_calli (vx_runV (As := [.long w0, .long h0, .long th0, .long de0]) (rest := [.int 0, .ref bA]) ⟨hx, hb, hml, hown, hg⟩ (cx_K_door l dC dI cC cI cJ kA xA oA tA uA dA dw dh dt dd w0 h0 th0 de0 t1 t2 qs hl9 ) (gw_cwV hg wd_356 mv_K_door rfl rfl ⟨Nat.le_of_ble_eq_true rfl, Nat.le_of_ble_eq_true rfl⟩) (mu_preV (ci := 4) (q0 := 0) am_X_bl hK hPc hDc (pu_e0 am_X_bl hE.1) rfl rfl) rfl rfl hl.1 rfl (lv_room (Nat.le_of_ble_eq_true rfl)) md_L_door_10 ⟨Nat.le_of_ble_eq_true rfl, Nat.le_of_ble_eq_true rfl⟩) hS (fun q _ h => hFc q h) hFc (fun _ _ h => h.elim) (fun E ce q9 u9 t9 H locs ht hal hpx hpost hz hk hS hcell hcv hcl => ?_) (fun r9 u9 t9 H locs ht hal hpost hB hz hk hS => ?_)
  · have hpost : xK_door dw dh dt dd w0 h0 th0 de0 = .error E := hpost
    have hP := tx_P hP (fun q h => hk q h (fun z => z))
    obtain rfl := xe_K_door hpost
    refine vx_catch (name := "java/lang/IllegalArgumentException") hown [] ⟨0, 22, 25, 21⟩ [] (htab.trans rfl) (fun z hz => by cases hz) (by decide) (by decide) (hg _ wd_281) (va_Nw.use rfl (ac_IAE hE.1)) hcell hcv hcl ?_
    refine lv_astore (lv' := [(10, .ref q9), (0, .ref kA), (1, .long w0), (3, .long h0), (5, .long th0), (7, .long de0), (9, .ref bA)]) hx hb md_L_door_25 hl (by decide) rfl (fun ls hl => ?_)
    refine lv_iconst (v := 1) hx hb md_L_door_27 (by decide) ?_
    exact W.iret (v := 1) hx hb hr (fun t ht hW => ⟨⟨1, (ol, dw, dh, dt, dd), rfl, (by simp only [fL_door, hpost, ec_L_door_IAE]), by have h9 := hP; rw [← ht] at h9; exact h9⟩, hS.F ht⟩) hS.2.2 md_L_door_28 hlocks
  · obtain ⟨e0, e1, e2, e3⟩ := u9
    have hpost : xK_door dw dh dt dd w0 h0 th0 de0 = .ok (r9, e0, e1, e2, e3) := hpost
    have hB : va_P (dC, dI) mC [(kA, .inr (4, [.ref xA, .ref dA, .ref oA, .ref tA, .ref uA])), (dA, .inr (0, [.long e0, .long e1, .long e2, .long e3]))] H := by rw [← ht]; exact hB
    have hP := mu_join (ws' := [(kA, .inr (4, [.ref xA, .ref dA, .ref oA, .ref tA, .ref uA])), (dA, .inr (0, [.long e0, .long e1, .long e2, .long e3])), (bA, .inl (cJ, 1, .inr (.inl ol)))]) hP hD [0, 1] [.inl 0, .inl 1, .inr 2] rfl rfl rfl hk hB
    have hD : va_D A [(kA, .inr (4, [.ref xA, .ref dA, .ref oA, .ref tA, .ref uA])), (dA, .inr (0, [.long e0, .long e1, .long e2, .long e3])), (bA, .inl (cJ, 1, .inr (.inl ol)))] := mu_D (ws := [(kA, .inr (4, [.ref xA, .ref dA, .ref oA, .ref tA, .ref uA])), (dA, .inr (0, [.long dw, .long dh, .long dt, .long dd])), (bA, .inl (cJ, 1, .inr (.inl ol)))]) rfl hD
    refine lv_if_eq (tgt := 20) hx hb md_L_door_13 (by decide) (fun c1 => ?_) (fun c1 => ?_)
    · refine lv_lconst (v := 0) hx hb md_L_door_20 (by decide) ?_
      refine va_last hx hb hK hP hD hS 2 2 rfl rfl (by unfold vp_in; decide) md_L_door_21 (fun H locs hP hD hS => ?_)
      have hP : va_P (dC, dI) mC [(kA, .inr (4, [.ref xA, .ref dA, .ref oA, .ref tA, .ref uA])), (dA, .inr (0, [.long e0, .long e1, .long e2, .long e3])), (bA, .inl (cJ, 1, .inr (.inl (vp_updL ol (Int32.toNatClampNeg 0) 0))))] H := hP
      have hD : va_D A [(kA, .inr (4, [.ref xA, .ref dA, .ref oA, .ref tA, .ref uA])), (dA, .inr (0, [.long e0, .long e1, .long e2, .long e3])), (bA, .inl (cJ, 1, .inr (.inl (vp_updL ol (Int32.toNatClampNeg 0) 0))))] := hD
      refine lv_goto (tgt := 29) hx hb md_L_door_22 (by decide) ?_
      refine lv_iconst (v := 0) hx hb md_L_door_29 (by decide) ?_
      exact W.iret (v := 0) hx hb hr (fun t ht hW => ⟨⟨0, (vp_updL ol (Int32.toNatClampNeg 0) 0, e0, e1, e2, e3), rfl, (by simp only [fL_door, hpost, if_pos c1]), by have h9 := hP; rw [← ht] at h9; exact h9⟩, hS.F ht⟩) hS.2.2 md_L_door_30 hlocks
    · refine lv_lconst (v := 1) hx hb md_L_door_16 (by decide) ?_
      refine lv_goto (tgt := 21) hx hb md_L_door_17 (by decide) ?_
      refine va_last hx hb hK hP hD hS 2 2 rfl rfl (by unfold vp_in; decide) md_L_door_21 (fun H locs hP hD hS => ?_)
      have hP : va_P (dC, dI) mC [(kA, .inr (4, [.ref xA, .ref dA, .ref oA, .ref tA, .ref uA])), (dA, .inr (0, [.long e0, .long e1, .long e2, .long e3])), (bA, .inl (cJ, 1, .inr (.inl (vp_updL ol (Int32.toNatClampNeg 0) 1))))] H := hP
      have hD : va_D A [(kA, .inr (4, [.ref xA, .ref dA, .ref oA, .ref tA, .ref uA])), (dA, .inr (0, [.long e0, .long e1, .long e2, .long e3])), (bA, .inl (cJ, 1, .inr (.inl (vp_updL ol (Int32.toNatClampNeg 0) 1))))] := hD
      refine lv_goto (tgt := 29) hx hb md_L_door_22 (by decide) ?_
      refine lv_iconst (v := 0) hx hb md_L_door_29 (by decide) ?_
      exact W.iret (v := 0) hx hb hr (fun t ht hW => ⟨⟨0, (vp_updL ol (Int32.toNatClampNeg 0) 1, e0, e1, e2, e3), rfl, (by simp only [fL_door, hpost, if_neg c1]), by have h9 := hP; rw [← ht] at h9; exact h9⟩, hS.F ht⟩) hS.2.2 md_L_door_30 hlocks

theorem xe_K_weight {dw : Int64} {dh : Int64} {dt : Int64} {dd : Int64} {part : Int32} {E : String} (h : xK_weight dw dh dt dd part = .error E) : E = "java/lang/IndexOutOfBoundsException" := by
  unfold xK_weight at h
  repeat' split at h
  all_goals first | (cases h; done) | (cases h; simp)
def ec_L_weight (E : String) : Int32 := if E = "java/lang/IndexOutOfBoundsException" then 1 else 0
theorem ec_L_weight_IOB : ec_L_weight "java/lang/IndexOutOfBoundsException" = 1 := by decide +kernel
def fL_weight (dw : Int64) (dh : Int64) (dt : Int64) (dd : Int64) (ol : Nat → Int64) (part : Int32) : Int32 × (Nat → Int64) := match xK_weight dw dh dt dd part with
  | .ok v => (0, vp_updL ol (Int32.toNatClampNeg 0) (v))
  | .error E => (ec_L_weight E, ol)
set_option maxHeartbeats 1000000 in
set_option maxRecDepth 100000 in
theorem ch_L_weight (l : Launch) (dC : Nat → ClassId) (dI : Nat → Nat → Nat) (cC cI cJ : ClassId) (kA : Nat) (xA : Nat) (oA : Nat) (tA : Nat) (uA : Nat) (dA : Nat) (dw : Int64) (dh : Int64) (dt : Int64) (dd : Int64) (bA : Nat) (ol : Nat → Int64) (part : Int32) (t1 t2 : Nat) (qs : Nat → Nat) (hl9 : l.stackTraces = false)  : Met l my_L_weight (.codeWith my_L_weight mb_L_weight 4 (some .int) [(0, 8, 11, 15)] :: gw_l) ({ frames := 8, cells := 1, slots := 6, locals := 171 }) (mu_Pc (dC, dI) mC [(cC, .char), (cI, .int), (cJ, .long)] [(kA, .inr (4, [.ref xA, .ref dA, .ref oA, .ref tA, .ref uA])), (dA, .inr (0, [.long dw, .long dh, .long dt, .long dd])), (bA, .inl (cJ, 1, .inr (.inl ol)))] (am_L t1 t2 qs) [.ref kA, .int part, .ref bA]) (va_Qi (fun (r : Int32) (u : (Nat → Int64)) => (r, u) = fL_weight dw dh dt dd ol part) (fun u t => va_P (dC, dI) mC [(kA, .inr (4, [.ref xA, .ref dA, .ref oA, .ref tA, .ref uA])), (dA, .inr (0, [.long dw, .long dh, .long dt, .long dd])), (bA, .inl (cJ, 1, .inr (.inl u)))] t.heap) (mu_A [(kA, .inr (4, [.ref xA, .ref dA, .ref oA, .ref tA, .ref uA])), (dA, .inr (0, [.long dw, .long dh, .long dt, .long dd])), (bA, .inl (cJ, 1, .inr (.inl ol)))])) 1 6 (mu_A [(kA, .inr (4, [.ref xA, .ref dA, .ref oA, .ref tA, .ref uA])), (dA, .inr (0, [.long dw, .long dh, .long dt, .long dd])), (bA, .inl (cJ, 1, .inr (.inl ol)))]) := by
  refine va_MetW (cc := mb_L_weight) (maxL := 4) (ret := some .int) (hh := [(0, 8, 11, 15)]) (by decide) rfl ?_
  intro p e s m args below meth c s₁ B hml hv
  obtain ⟨rfl, hP, hK, hD0, hE⟩ := hv
  have hx := B.exec
  have hb := B.bytes
  have hr := B.returns
  have hts := atoms_spec (ws := (.codeWith my_L_weight mb_L_weight 4 (some .int) [(0, 8, 11, 15)] :: gw_l)) B.pre
  have htab := vx_table (x := my_L_weight) B (hts _ List.mem_cons_self)
  have hg : ∀ w ∈ gw_l, w.before _ s = true := fun w h => hts w (List.mem_cons_of_mem _ h)
  have hown : s.vm.findClass "HingeTablesLaw" = some m.cls := findClass_of_methodNamed B.named
  have hlocks := B.notSynchronized
  have hD := mu_self hD0
  have hS : va_S (mu_A [(kA, .inr (4, [.ref xA, .ref dA, .ref oA, .ref tA, .ref uA])), (dA, .inr (0, [.long dw, .long dh, .long dt, .long dd])), (bA, .inl (cJ, 1, .inr (.inl ol)))]) s.heap s.heap [] := va_S.rf
  generalize hAe : mu_A [(kA, .inr (4, [.ref xA, .ref dA, .ref oA, .ref tA, .ref uA])), (dA, .inr (0, [.long dw, .long dh, .long dt, .long dd])), (bA, .inl (cJ, 1, .inr (.inl ol)))] = A at hD hS ⊢
  have hl := lv_entry ([.ref kA, .int part, .ref bA]) (n := 4) (Nat.le_of_ble_eq_true rfl)
  rw [lg_entry_eq]
  generalize (lg_sl ([.ref kA, .int part, .ref bA]) ++ List.replicate (4 - (lg_sl ([.ref kA, .int part, .ref bA])).length) Slot.unset).toArray = ls at hl ⊢
  have hl : lv_has ls 4 [(0, .ref kA), (1, .int part), (2, .ref bA)] := hl
  refine lv_aload_n hx hb md_L_weight_0 rfl (lv_at hl 2 rfl) ?_
  refine lv_iconst (v := 0) hx hb md_L_weight_1 (by decide) ?_
  refine lv_aload_n hx hb md_L_weight_2 rfl (lv_at hl 0 rfl) ?_
  refine lv_iload_n hx hb md_L_weight_3 rfl (lv_at hl 1 rfl) ?_
  have hPc := hP.sub (ws' := [(kA, .inr (4, [.ref xA, .ref dA, .ref oA, .ref tA, .ref uA])), (dA, .inr (0, [.long dw, .long dh, .long dt, .long dd]))]) [0, 1] rfl
  refine vx_calll (vx_runV (As := [.int part]) (rest := [.int 0, .ref bA]) ⟨hx, hb, hml, hown, hg⟩ (cx_K_weight l dC dI cC cI cJ kA xA oA tA uA dA dw dh dt dd part t1 t2 qs hl9 ) (gw_cwV hg wd_374 mv_K_weight rfl rfl ⟨Nat.le_of_ble_eq_true rfl, Nat.le_of_ble_eq_true rfl⟩) (pu_preV (ci := 4) (q0 := 0) am_X_bl hK hPc (pu_e0 am_X_bl hE.1) rfl rfl) rfl rfl hl.1 rfl (lv_room (Nat.le_of_ble_eq_true rfl)) md_L_weight_4 ⟨Nat.le_of_ble_eq_true rfl, Nat.le_of_ble_eq_true rfl⟩) hS (fun _ _ h => h.elim) (fun _ h => h.elim) (fun _ _ h => h.elim) (fun E ce q9 u9 t9 H locs ht hal hpx hpost hz hk hS hcell hcv hcl => ?_) (fun r9 u9 t9 H locs ht hal hpost hB hz hk hS => ?_)
  · have hpost : xK_weight dw dh dt dd part = .error E := hpost
    have hP := tx_P hP (fun q h => hk q h (fun z => z))
    obtain rfl := xe_K_weight hpost
    refine vx_catch (name := "java/lang/IndexOutOfBoundsException") hown [] ⟨0, 8, 11, 15⟩ [] (htab.trans rfl) (fun z hz => by cases hz) (by decide) (by decide) (hg _ wd_174) (va_Nw.use rfl (ac_IOB hE.1)) hcell hcv hcl ?_
    refine lv_astore_n (lv' := [(3, .ref q9), (0, .ref kA), (1, .int part), (2, .ref bA)]) hx hb md_L_weight_11 rfl hl (by decide) rfl (fun ls hl => ?_)
    refine lv_iconst (v := 1) hx hb md_L_weight_12 (by decide) ?_
    exact W.iret (v := 1) hx hb hr (fun t ht hW => ⟨⟨1, (ol), rfl, (by simp only [fL_weight, hpost, ec_L_weight_IOB]), by have h9 := hP; rw [← ht] at h9; exact h9⟩, hS.F ht⟩) hS.2.2 md_L_weight_13 hlocks
  · have hpost : xK_weight dw dh dt dd part = .ok r9 := hpost
    have hP := tx_P hP (fun q h => hk q h (fun z => z))
    refine va_last hx hb hK hP hD hS 2 2 rfl rfl (by unfold vp_in; decide) md_L_weight_7 (fun H locs hP hD hS => ?_)
    have hP : va_P (dC, dI) mC [(kA, .inr (4, [.ref xA, .ref dA, .ref oA, .ref tA, .ref uA])), (dA, .inr (0, [.long dw, .long dh, .long dt, .long dd])), (bA, .inl (cJ, 1, .inr (.inl (vp_updL ol (Int32.toNatClampNeg 0) r9))))] H := hP
    have hD : va_D A [(kA, .inr (4, [.ref xA, .ref dA, .ref oA, .ref tA, .ref uA])), (dA, .inr (0, [.long dw, .long dh, .long dt, .long dd])), (bA, .inl (cJ, 1, .inr (.inl (vp_updL ol (Int32.toNatClampNeg 0) r9))))] := hD
    refine lv_goto (tgt := 14) hx hb md_L_weight_8 (by decide) ?_
    refine lv_iconst (v := 0) hx hb md_L_weight_14 (by decide) ?_
    exact W.iret (v := 0) hx hb hr (fun t ht hW => ⟨⟨0, (vp_updL ol (Int32.toNatClampNeg 0) r9), rfl, (by simp only [fL_weight, hpost]), by have h9 := hP; rw [← ht] at h9; exact h9⟩, hS.F ht⟩) hS.2.2 md_L_weight_15 hlocks

theorem xe_K_count {tl : Nat → Int32} {tn : Nat → Int32} {tz : Nat} {dw : Int64} {dh : Int64} {dt : Int64} {dd : Int64} {E : String} (h : xK_count tl tn tz dw dh dt dd = .error E) : E = "java/lang/IllegalStateException" := by
  unfold xK_count at h
  repeat' split at h
  all_goals first | (cases h; done) | (cases h; simp)
def ec_L_count (E : String) : Int32 := if E = "java/lang/IllegalStateException" then 1 else 0
theorem ec_L_count_ISE : ec_L_count "java/lang/IllegalStateException" = 1 := by decide +kernel
def fL_count (tl : Nat → Int32) (tn : Nat → Int32) (tz : Nat) (dw : Int64) (dh : Int64) (dt : Int64) (dd : Int64) (ol : Nat → Int64) : Int32 × (Nat → Int64) := match xK_count tl tn tz dw dh dt dd with
  | .ok v => (0, vp_updL ol (Int32.toNatClampNeg 0) (Int32.toInt64 v))
  | .error E => (ec_L_count E, ol)
set_option maxHeartbeats 1000000 in
set_option maxRecDepth 100000 in
theorem ch_L_count (l : Launch) (dC : Nat → ClassId) (dI : Nat → Nat → Nat) (cC cI cJ : ClassId) (kA : Nat) (xA : Nat) (oA : Nat) (uA : Nat) (tA : Nat) (tL : Nat) (tN : Nat) (tS : Nat) (tl : Nat → Int32) (tn : Nat → Int32) (ts : Nat → Int32) (tz : Nat) (dA : Nat) (dw : Int64) (dh : Int64) (dt : Int64) (dd : Int64) (bA : Nat) (ol : Nat → Int64)  (t1 t2 : Nat) (qs : Nat → Nat) (hl9 : l.stackTraces = false) (hz : tz ≤ 16) : Met l my_L_count (.codeWith my_L_count mb_L_count 3 (some .int) [(0, 8, 11, 13)] :: gw_l) ({ frames := 8, cells := 1, slots := 6, locals := 170 }) (mu_Pc (dC, dI) mC [(cC, .char), (cI, .int), (cJ, .long)] [(kA, .inr (4, [.ref xA, .ref dA, .ref oA, .ref tA, .ref uA])), (tA, .inr (2, [.ref tL, .ref tN, .ref tS, .int (nI tz)])), (tL, .inl (cC, 16, .inl tl)), (tN, .inl (cI, 96, .inl tn)), (tS, .inl (cI, 16, .inl ts)), (dA, .inr (0, [.long dw, .long dh, .long dt, .long dd])), (bA, .inl (cJ, 1, .inr (.inl ol)))] (am_L t1 t2 qs) [.ref kA, .ref bA]) (va_Qi (fun (r : Int32) (u : (Nat → Int64)) => (r, u) = fL_count tl tn tz dw dh dt dd ol) (fun u t => va_P (dC, dI) mC [(kA, .inr (4, [.ref xA, .ref dA, .ref oA, .ref tA, .ref uA])), (tA, .inr (2, [.ref tL, .ref tN, .ref tS, .int (nI tz)])), (tL, .inl (cC, 16, .inl tl)), (tN, .inl (cI, 96, .inl tn)), (tS, .inl (cI, 16, .inl ts)), (dA, .inr (0, [.long dw, .long dh, .long dt, .long dd])), (bA, .inl (cJ, 1, .inr (.inl u)))] t.heap) (mu_A [(kA, .inr (4, [.ref xA, .ref dA, .ref oA, .ref tA, .ref uA])), (tA, .inr (2, [.ref tL, .ref tN, .ref tS, .int (nI tz)])), (tL, .inl (cC, 16, .inl tl)), (tN, .inl (cI, 96, .inl tn)), (tS, .inl (cI, 16, .inl ts)), (dA, .inr (0, [.long dw, .long dh, .long dt, .long dd])), (bA, .inl (cJ, 1, .inr (.inl ol)))])) 1 6 (mu_A [(kA, .inr (4, [.ref xA, .ref dA, .ref oA, .ref tA, .ref uA])), (tA, .inr (2, [.ref tL, .ref tN, .ref tS, .int (nI tz)])), (tL, .inl (cC, 16, .inl tl)), (tN, .inl (cI, 96, .inl tn)), (tS, .inl (cI, 16, .inl ts)), (dA, .inr (0, [.long dw, .long dh, .long dt, .long dd])), (bA, .inl (cJ, 1, .inr (.inl ol)))]) := by
  refine va_MetW (cc := mb_L_count) (maxL := 3) (ret := some .int) (hh := [(0, 8, 11, 13)]) (by decide) rfl ?_
  intro p e s m args below meth c s₁ B hml hv
  obtain ⟨rfl, hP, hK, hD0, hE⟩ := hv
  have hx := B.exec
  have hb := B.bytes
  have hr := B.returns
  have hts := atoms_spec (ws := (.codeWith my_L_count mb_L_count 3 (some .int) [(0, 8, 11, 13)] :: gw_l)) B.pre
  have htab := vx_table (x := my_L_count) B (hts _ List.mem_cons_self)
  have hg : ∀ w ∈ gw_l, w.before _ s = true := fun w h => hts w (List.mem_cons_of_mem _ h)
  have hown : s.vm.findClass "HingeTablesLaw" = some m.cls := findClass_of_methodNamed B.named
  have hlocks := B.notSynchronized
  have hD := mu_self hD0
  have hS : va_S (mu_A [(kA, .inr (4, [.ref xA, .ref dA, .ref oA, .ref tA, .ref uA])), (tA, .inr (2, [.ref tL, .ref tN, .ref tS, .int (nI tz)])), (tL, .inl (cC, 16, .inl tl)), (tN, .inl (cI, 96, .inl tn)), (tS, .inl (cI, 16, .inl ts)), (dA, .inr (0, [.long dw, .long dh, .long dt, .long dd])), (bA, .inl (cJ, 1, .inr (.inl ol)))]) s.heap s.heap [] := va_S.rf
  generalize hAe : mu_A [(kA, .inr (4, [.ref xA, .ref dA, .ref oA, .ref tA, .ref uA])), (tA, .inr (2, [.ref tL, .ref tN, .ref tS, .int (nI tz)])), (tL, .inl (cC, 16, .inl tl)), (tN, .inl (cI, 96, .inl tn)), (tS, .inl (cI, 16, .inl ts)), (dA, .inr (0, [.long dw, .long dh, .long dt, .long dd])), (bA, .inl (cJ, 1, .inr (.inl ol)))] = A at hD hS ⊢
  have hl := lv_entry ([.ref kA, .ref bA]) (n := 3) (Nat.le_of_ble_eq_true rfl)
  rw [lg_entry_eq]
  generalize (lg_sl ([.ref kA, .ref bA]) ++ List.replicate (3 - (lg_sl ([.ref kA, .ref bA])).length) Slot.unset).toArray = ls at hl ⊢
  have hl : lv_has ls 3 [(0, .ref kA), (1, .ref bA)] := hl
  refine lv_aload_n hx hb md_L_count_0 rfl (lv_at hl 1 rfl) ?_
  refine lv_iconst (v := 0) hx hb md_L_count_1 (by decide) ?_
  refine lv_aload_n hx hb md_L_count_2 rfl (lv_at hl 0 rfl) ?_
  have hPc := hP.sub (ws' := [(kA, .inr (4, [.ref xA, .ref dA, .ref oA, .ref tA, .ref uA])), (tA, .inr (2, [.ref tL, .ref tN, .ref tS, .int (nI tz)])), (tL, .inl (cC, 16, .inl tl)), (tN, .inl (cI, 96, .inl tn)), (tS, .inl (cI, 16, .inl ts)), (dA, .inr (0, [.long dw, .long dh, .long dt, .long dd]))]) [0, 1, 2, 3, 4, 5] rfl
  refine vx_calli (vx_runV (As := []) (rest := [.int 0, .ref bA]) ⟨hx, hb, hml, hown, hg⟩ (cx_K_count l dC dI cC cI cJ kA xA oA uA tA tL tN tS tl tn ts tz dA dw dh dt dd t1 t2 qs hl9 hz) (gw_cwV hg wd_396 mv_K_count rfl rfl ⟨Nat.le_of_ble_eq_true rfl, Nat.le_of_ble_eq_true rfl⟩) (pu_preV (ci := 4) (q0 := 0) am_X_bl hK hPc (pu_e0 am_X_bl hE.1) rfl rfl) rfl rfl hl.1 rfl (lv_room (Nat.le_of_ble_eq_true rfl)) md_L_count_3 ⟨Nat.le_of_ble_eq_true rfl, Nat.le_of_ble_eq_true rfl⟩) hS (fun _ _ h => h.elim) (fun _ h => h.elim) (fun _ _ h => h.elim) (fun E ce q9 u9 t9 H locs ht hal hpx hpost hz hk hS hcell hcv hcl => ?_) (fun r9 u9 t9 H locs ht hal hpost hB hz hk hS => ?_)
  · have hpost : xK_count tl tn tz dw dh dt dd = .error E := hpost
    have hP := tx_P hP (fun q h => hk q h (fun z => z))
    obtain rfl := xe_K_count hpost
    refine vx_catch (name := "java/lang/IllegalStateException") hown [] ⟨0, 8, 11, 13⟩ [] (htab.trans rfl) (fun z hz => by cases hz) (by decide) (by decide) (hg _ wd_173) (va_Nw.use rfl (ac_ISE hE.1)) hcell hcv hcl ?_
    refine lv_astore_n (lv' := [(2, .ref q9), (0, .ref kA), (1, .ref bA)]) hx hb md_L_count_11 rfl hl (by decide) rfl (fun ls hl => ?_)
    refine lv_iconst (v := 1) hx hb md_L_count_12 (by decide) ?_
    exact W.iret (v := 1) hx hb hr (fun t ht hW => ⟨⟨1, (ol), rfl, (by simp only [fL_count, hpost, ec_L_count_ISE]), by have h9 := hP; rw [← ht] at h9; exact h9⟩, hS.F ht⟩) hS.2.2 md_L_count_13 hlocks
  · have hpost : xK_count tl tn tz dw dh dt dd = .ok r9 := hpost
    have hP := tx_P hP (fun q h => hk q h (fun z => z))
    refine lv_i2l (v := Int32.toInt64 r9) hx hb md_L_count_6 rfl ?_
    refine va_last hx hb hK hP hD hS 6 2 rfl rfl (by unfold vp_in; decide) md_L_count_7 (fun H locs hP hD hS => ?_)
    have hP : va_P (dC, dI) mC [(kA, .inr (4, [.ref xA, .ref dA, .ref oA, .ref tA, .ref uA])), (tA, .inr (2, [.ref tL, .ref tN, .ref tS, .int (nI tz)])), (tL, .inl (cC, 16, .inl tl)), (tN, .inl (cI, 96, .inl tn)), (tS, .inl (cI, 16, .inl ts)), (dA, .inr (0, [.long dw, .long dh, .long dt, .long dd])), (bA, .inl (cJ, 1, .inr (.inl (vp_updL ol (Int32.toNatClampNeg 0) (Int32.toInt64 r9)))))] H := hP
    have hD : va_D A [(kA, .inr (4, [.ref xA, .ref dA, .ref oA, .ref tA, .ref uA])), (tA, .inr (2, [.ref tL, .ref tN, .ref tS, .int (nI tz)])), (tL, .inl (cC, 16, .inl tl)), (tN, .inl (cI, 96, .inl tn)), (tS, .inl (cI, 16, .inl ts)), (dA, .inr (0, [.long dw, .long dh, .long dt, .long dd])), (bA, .inl (cJ, 1, .inr (.inl (vp_updL ol (Int32.toNatClampNeg 0) (Int32.toInt64 r9)))))] := hD
    refine lv_goto (tgt := 14) hx hb md_L_count_8 (by decide) ?_
    refine lv_iconst (v := 0) hx hb md_L_count_14 (by decide) ?_
    exact W.iret (v := 0) hx hb hr (fun t ht hW => ⟨⟨0, (vp_updL ol (Int32.toNatClampNeg 0) (Int32.toInt64 r9)), rfl, (by simp only [fL_count, hpost]), by have h9 := hP; rw [← ht] at h9; exact h9⟩, hS.F ht⟩) hS.2.2 md_L_count_15 hlocks

theorem xe_K_place {tl : Nat → Int32} {tn : Nat → Int32} {tz : Nat} {dw : Int64} {dh : Int64} {dt : Int64} {dd : Int64} {k : Int32} {part : Int32} {E : String} (h : xK_place tl tn tz dw dh dt dd k part = .error E) : E = "java/lang/IllegalStateException" ∨ E = "java/lang/IndexOutOfBoundsException" := by
  unfold xK_place at h
  repeat' split at h
  all_goals first | (cases h; done) | (cases h; simp)
def ec_L_place (E : String) : Int32 := if E = "java/lang/IllegalStateException" then 1 else if E = "java/lang/IndexOutOfBoundsException" then 2 else 0
theorem ec_L_place_ISE : ec_L_place "java/lang/IllegalStateException" = 1 := by decide +kernel
theorem ec_L_place_IOB : ec_L_place "java/lang/IndexOutOfBoundsException" = 2 := by decide +kernel
def fL_place (tl : Nat → Int32) (tn : Nat → Int32) (tz : Nat) (dw : Int64) (dh : Int64) (dt : Int64) (dd : Int64) (ol : Nat → Int64) (k : Int32) (part : Int32) : Int32 × (Nat → Int64) := match xK_place tl tn tz dw dh dt dd k part with
  | .ok v => (0, vp_updL ol (Int32.toNatClampNeg 0) (v))
  | .error E => (ec_L_place E, ol)
set_option maxHeartbeats 1000000 in
set_option maxRecDepth 100000 in
theorem ch_L_place (l : Launch) (dC : Nat → ClassId) (dI : Nat → Nat → Nat) (cC cI cJ : ClassId) (kA : Nat) (xA : Nat) (oA : Nat) (uA : Nat) (tA : Nat) (tL : Nat) (tN : Nat) (tS : Nat) (tl : Nat → Int32) (tn : Nat → Int32) (ts : Nat → Int32) (tz : Nat) (dA : Nat) (dw : Int64) (dh : Int64) (dt : Int64) (dd : Int64) (bA : Nat) (ol : Nat → Int64) (k : Int32) (part : Int32) (t1 t2 : Nat) (qs : Nat → Nat) (hl9 : l.stackTraces = false) (hz : tz ≤ 16) : Met l my_L_place (.codeWith my_L_place mb_L_place 5 (some .int) [(0, 9, 12, 13), (0, 9, 16, 15)] :: gw_l) ({ frames := 8, cells := 1, slots := 6, locals := 173 }) (mu_Pc (dC, dI) mC [(cC, .char), (cI, .int), (cJ, .long)] [(kA, .inr (4, [.ref xA, .ref dA, .ref oA, .ref tA, .ref uA])), (tA, .inr (2, [.ref tL, .ref tN, .ref tS, .int (nI tz)])), (tL, .inl (cC, 16, .inl tl)), (tN, .inl (cI, 96, .inl tn)), (tS, .inl (cI, 16, .inl ts)), (dA, .inr (0, [.long dw, .long dh, .long dt, .long dd])), (bA, .inl (cJ, 1, .inr (.inl ol)))] (am_L t1 t2 qs) [.ref kA, .int k, .int part, .ref bA]) (va_Qi (fun (r : Int32) (u : (Nat → Int64)) => (r, u) = fL_place tl tn tz dw dh dt dd ol k part) (fun u t => va_P (dC, dI) mC [(kA, .inr (4, [.ref xA, .ref dA, .ref oA, .ref tA, .ref uA])), (tA, .inr (2, [.ref tL, .ref tN, .ref tS, .int (nI tz)])), (tL, .inl (cC, 16, .inl tl)), (tN, .inl (cI, 96, .inl tn)), (tS, .inl (cI, 16, .inl ts)), (dA, .inr (0, [.long dw, .long dh, .long dt, .long dd])), (bA, .inl (cJ, 1, .inr (.inl u)))] t.heap) (mu_A [(kA, .inr (4, [.ref xA, .ref dA, .ref oA, .ref tA, .ref uA])), (tA, .inr (2, [.ref tL, .ref tN, .ref tS, .int (nI tz)])), (tL, .inl (cC, 16, .inl tl)), (tN, .inl (cI, 96, .inl tn)), (tS, .inl (cI, 16, .inl ts)), (dA, .inr (0, [.long dw, .long dh, .long dt, .long dd])), (bA, .inl (cJ, 1, .inr (.inl ol)))])) 1 6 (mu_A [(kA, .inr (4, [.ref xA, .ref dA, .ref oA, .ref tA, .ref uA])), (tA, .inr (2, [.ref tL, .ref tN, .ref tS, .int (nI tz)])), (tL, .inl (cC, 16, .inl tl)), (tN, .inl (cI, 96, .inl tn)), (tS, .inl (cI, 16, .inl ts)), (dA, .inr (0, [.long dw, .long dh, .long dt, .long dd])), (bA, .inl (cJ, 1, .inr (.inl ol)))]) := by
  refine va_MetW (cc := mb_L_place) (maxL := 5) (ret := some .int) (hh := [(0, 9, 12, 13), (0, 9, 16, 15)]) (by decide) rfl ?_
  intro p e s m args below meth c s₁ B hml hv
  obtain ⟨rfl, hP, hK, hD0, hE⟩ := hv
  have hx := B.exec
  have hb := B.bytes
  have hr := B.returns
  have hts := atoms_spec (ws := (.codeWith my_L_place mb_L_place 5 (some .int) [(0, 9, 12, 13), (0, 9, 16, 15)] :: gw_l)) B.pre
  have htab := vx_table (x := my_L_place) B (hts _ List.mem_cons_self)
  have hg : ∀ w ∈ gw_l, w.before _ s = true := fun w h => hts w (List.mem_cons_of_mem _ h)
  have hown : s.vm.findClass "HingeTablesLaw" = some m.cls := findClass_of_methodNamed B.named
  have hlocks := B.notSynchronized
  have hD := mu_self hD0
  have hS : va_S (mu_A [(kA, .inr (4, [.ref xA, .ref dA, .ref oA, .ref tA, .ref uA])), (tA, .inr (2, [.ref tL, .ref tN, .ref tS, .int (nI tz)])), (tL, .inl (cC, 16, .inl tl)), (tN, .inl (cI, 96, .inl tn)), (tS, .inl (cI, 16, .inl ts)), (dA, .inr (0, [.long dw, .long dh, .long dt, .long dd])), (bA, .inl (cJ, 1, .inr (.inl ol)))]) s.heap s.heap [] := va_S.rf
  generalize hAe : mu_A [(kA, .inr (4, [.ref xA, .ref dA, .ref oA, .ref tA, .ref uA])), (tA, .inr (2, [.ref tL, .ref tN, .ref tS, .int (nI tz)])), (tL, .inl (cC, 16, .inl tl)), (tN, .inl (cI, 96, .inl tn)), (tS, .inl (cI, 16, .inl ts)), (dA, .inr (0, [.long dw, .long dh, .long dt, .long dd])), (bA, .inl (cJ, 1, .inr (.inl ol)))] = A at hD hS ⊢
  have hl := lv_entry ([.ref kA, .int k, .int part, .ref bA]) (n := 5) (Nat.le_of_ble_eq_true rfl)
  rw [lg_entry_eq]
  generalize (lg_sl ([.ref kA, .int k, .int part, .ref bA]) ++ List.replicate (5 - (lg_sl ([.ref kA, .int k, .int part, .ref bA])).length) Slot.unset).toArray = ls at hl ⊢
  have hl : lv_has ls 5 [(0, .ref kA), (1, .int k), (2, .int part), (3, .ref bA)] := hl
  refine lv_aload_n hx hb md_L_place_0 rfl (lv_at hl 3 rfl) ?_
  refine lv_iconst (v := 0) hx hb md_L_place_1 (by decide) ?_
  refine lv_aload_n hx hb md_L_place_2 rfl (lv_at hl 0 rfl) ?_
  refine lv_iload_n hx hb md_L_place_3 rfl (lv_at hl 1 rfl) ?_
  refine lv_iload_n hx hb md_L_place_4 rfl (lv_at hl 2 rfl) ?_
  have hPc := hP.sub (ws' := [(kA, .inr (4, [.ref xA, .ref dA, .ref oA, .ref tA, .ref uA])), (tA, .inr (2, [.ref tL, .ref tN, .ref tS, .int (nI tz)])), (tL, .inl (cC, 16, .inl tl)), (tN, .inl (cI, 96, .inl tn)), (tS, .inl (cI, 16, .inl ts)), (dA, .inr (0, [.long dw, .long dh, .long dt, .long dd]))]) [0, 1, 2, 3, 4, 5] rfl
  refine vx_calll (vx_runV (As := [.int k, .int part]) (rest := [.int 0, .ref bA]) ⟨hx, hb, hml, hown, hg⟩ (cx_K_place l dC dI cC cI cJ kA xA oA uA tA tL tN tS tl tn ts tz dA dw dh dt dd k part t1 t2 qs hl9 hz) (gw_cwV hg wd_410 mv_K_place rfl rfl ⟨Nat.le_of_ble_eq_true rfl, Nat.le_of_ble_eq_true rfl⟩) (pu_preV (ci := 4) (q0 := 0) am_X_bl hK hPc (pu_e0 am_X_bl hE.1) rfl rfl) rfl rfl hl.1 rfl (lv_room (Nat.le_of_ble_eq_true rfl)) md_L_place_5 ⟨Nat.le_of_ble_eq_true rfl, Nat.le_of_ble_eq_true rfl⟩) hS (fun _ _ h => h.elim) (fun _ h => h.elim) (fun _ _ h => h.elim) (fun E ce q9 u9 t9 H locs ht hal hpx hpost hz hk hS hcell hcv hcl => ?_) (fun r9 u9 t9 H locs ht hal hpost hB hz hk hS => ?_)
  · have hpost : xK_place tl tn tz dw dh dt dd k part = .error E := hpost
    have hP := tx_P hP (fun q h => hk q h (fun z => z))
    rcases xe_K_place hpost with rfl | rfl
    · refine vx_catch (name := "java/lang/IllegalStateException") hown [] ⟨0, 9, 12, 13⟩ [⟨0, 9, 16, 15⟩] (htab.trans rfl) (fun z hz => by cases hz) (by decide) (by decide) (hg _ wd_173) (va_Nw.use rfl (ac_ISE hE.1)) hcell hcv hcl ?_
      refine lv_astore (lv' := [(4, .ref q9), (0, .ref kA), (1, .int k), (2, .int part), (3, .ref bA)]) hx hb md_L_place_12 hl (by decide) rfl (fun ls hl => ?_)
      refine lv_iconst (v := 1) hx hb md_L_place_14 (by decide) ?_
      exact W.iret (v := 1) hx hb hr (fun t ht hW => ⟨⟨1, (ol), rfl, (by simp only [fL_place, hpost, ec_L_place_ISE]), by have h9 := hP; rw [← ht] at h9; exact h9⟩, hS.F ht⟩) hS.2.2 md_L_place_15 hlocks
    · refine vx_catch (name := "java/lang/IndexOutOfBoundsException") hown [⟨0, 9, 12, 13⟩] ⟨0, 9, 16, 15⟩ [] (htab.trans rfl) (fun z hz => by simp only [List.mem_cons, List.not_mem_nil, or_false] at hz; subst hz; exact Or.inr ⟨by decide, "java/lang/IllegalStateException", hg _ wd_173, hE.2.1⟩) (by decide) (by decide) (hg _ wd_174) (va_Nw.use rfl (ac_IOB hE.1)) hcell hcv hcl ?_
      refine lv_astore (lv' := [(4, .ref q9), (0, .ref kA), (1, .int k), (2, .int part), (3, .ref bA)]) hx hb md_L_place_16 hl (by decide) rfl (fun ls hl => ?_)
      refine lv_iconst (v := 2) hx hb md_L_place_18 (by decide) ?_
      exact W.iret (v := 2) hx hb hr (fun t ht hW => ⟨⟨2, (ol), rfl, (by simp only [fL_place, hpost, ec_L_place_IOB]), by have h9 := hP; rw [← ht] at h9; exact h9⟩, hS.F ht⟩) hS.2.2 md_L_place_19 hlocks
  · have hpost : xK_place tl tn tz dw dh dt dd k part = .ok r9 := hpost
    have hP := tx_P hP (fun q h => hk q h (fun z => z))
    refine va_last hx hb hK hP hD hS 6 2 rfl rfl (by unfold vp_in; decide) md_L_place_8 (fun H locs hP hD hS => ?_)
    have hP : va_P (dC, dI) mC [(kA, .inr (4, [.ref xA, .ref dA, .ref oA, .ref tA, .ref uA])), (tA, .inr (2, [.ref tL, .ref tN, .ref tS, .int (nI tz)])), (tL, .inl (cC, 16, .inl tl)), (tN, .inl (cI, 96, .inl tn)), (tS, .inl (cI, 16, .inl ts)), (dA, .inr (0, [.long dw, .long dh, .long dt, .long dd])), (bA, .inl (cJ, 1, .inr (.inl (vp_updL ol (Int32.toNatClampNeg 0) r9))))] H := hP
    have hD : va_D A [(kA, .inr (4, [.ref xA, .ref dA, .ref oA, .ref tA, .ref uA])), (tA, .inr (2, [.ref tL, .ref tN, .ref tS, .int (nI tz)])), (tL, .inl (cC, 16, .inl tl)), (tN, .inl (cI, 96, .inl tn)), (tS, .inl (cI, 16, .inl ts)), (dA, .inr (0, [.long dw, .long dh, .long dt, .long dd])), (bA, .inl (cJ, 1, .inr (.inl (vp_updL ol (Int32.toNatClampNeg 0) r9))))] := hD
    refine lv_goto (tgt := 20) hx hb md_L_place_9 (by decide) ?_
    refine lv_iconst (v := 0) hx hb md_L_place_20 (by decide) ?_
    exact W.iret (v := 0) hx hb hr (fun t ht hW => ⟨⟨0, (vp_updL ol (Int32.toNatClampNeg 0) r9), rfl, (by simp only [fL_place, hpost]), by have h9 := hP; rw [← ht] at h9; exact h9⟩, hS.F ht⟩) hS.2.2 md_L_place_21 hlocks

theorem xe_K_hole {ox : Nat → Int32} {oy : Nat → Int32} {oq : Nat → Int32} {k : Int32} {x0 : Int64} {y0 : Int64} {r0 : Int64} {E : String} (h : xK_hole ox oy oq k x0 y0 r0 = .error E) : E = "java/lang/IndexOutOfBoundsException" ∨ E = "java/lang/IllegalArgumentException" := by
  unfold xK_hole at h
  repeat' split at h
  all_goals first | (cases h; done) | (cases h; simp)
def ec_L_hole (E : String) : Int32 := if E = "java/lang/IndexOutOfBoundsException" then 1 else if E = "java/lang/IllegalArgumentException" then 2 else 0
theorem ec_L_hole_IOB : ec_L_hole "java/lang/IndexOutOfBoundsException" = 1 := by decide +kernel
theorem ec_L_hole_IAE : ec_L_hole "java/lang/IllegalArgumentException" = 2 := by decide +kernel
def fL_hole (ox : Nat → Int32) (oy : Nat → Int32) (oq : Nat → Int32) (ol : Nat → Int64) (k : Int32) (x0 : Int64) (y0 : Int64) (r0 : Int64) : Int32 × (Nat → Int64) × (Nat → Int32) × (Nat → Int32) × (Nat → Int32) := match xK_hole ox oy oq k x0 y0 r0 with
  | .ok (v, y0, y1, y2) => (0, vp_updL ol (Int32.toNatClampNeg 0) ((if v = 0 then 0 else 1)), y0, y1, y2)
  | .error E => (ec_L_hole E, ol, ox, oy, oq)
set_option maxHeartbeats 1000000 in
set_option maxRecDepth 100000 in
theorem ch_L_hole (l : Launch) (dC : Nat → ClassId) (dI : Nat → Nat → Nat) (cC cI cJ : ClassId) (kA : Nat) (xA : Nat) (dA : Nat) (tA : Nat) (uA : Nat) (oA : Nat) (oX : Nat) (oY : Nat) (oR : Nat) (ox : Nat → Int32) (oy : Nat → Int32) (oq : Nat → Int32) (bA : Nat) (ol : Nat → Int64) (k : Int32) (x0 : Int64) (y0 : Int64) (r0 : Int64) (t1 t2 : Nat) (qs : Nat → Nat) (hl9 : l.stackTraces = false)  : Met l my_L_hole (.codeWith my_L_hole mb_L_hole 10 (some .int) [(0, 22, 25, 15), (0, 22, 29, 21)] :: gw_l) ({ frames := 8, cells := 1, slots := 6, locals := 177 }) (mu_Pc (dC, dI) mC [(cC, .char), (cI, .int), (cJ, .long)] [(kA, .inr (4, [.ref xA, .ref dA, .ref oA, .ref tA, .ref uA])), (oA, .inr (1, [.ref oX, .ref oY, .ref oR])), (oX, .inl (cI, 16, .inl ox)), (oY, .inl (cI, 16, .inl oy)), (oR, .inl (cI, 16, .inl oq)), (bA, .inl (cJ, 1, .inr (.inl ol)))] (am_L t1 t2 qs) [.ref kA, .int k, .long x0, .long y0, .long r0, .ref bA]) (va_Qi (fun (r : Int32) (u : (Nat → Int64) × (Nat → Int32) × (Nat → Int32) × (Nat → Int32)) => (r, u) = fL_hole ox oy oq ol k x0 y0 r0) (fun u t => va_P (dC, dI) mC [(kA, .inr (4, [.ref xA, .ref dA, .ref oA, .ref tA, .ref uA])), (oA, .inr (1, [.ref oX, .ref oY, .ref oR])), (oX, .inl (cI, 16, .inl u.2.1)), (oY, .inl (cI, 16, .inl u.2.2.1)), (oR, .inl (cI, 16, .inl u.2.2.2)), (bA, .inl (cJ, 1, .inr (.inl u.1)))] t.heap) (mu_A [(kA, .inr (4, [.ref xA, .ref dA, .ref oA, .ref tA, .ref uA])), (oA, .inr (1, [.ref oX, .ref oY, .ref oR])), (oX, .inl (cI, 16, .inl ox)), (oY, .inl (cI, 16, .inl oy)), (oR, .inl (cI, 16, .inl oq)), (bA, .inl (cJ, 1, .inr (.inl ol)))])) 1 6 (mu_A [(kA, .inr (4, [.ref xA, .ref dA, .ref oA, .ref tA, .ref uA])), (oA, .inr (1, [.ref oX, .ref oY, .ref oR])), (oX, .inl (cI, 16, .inl ox)), (oY, .inl (cI, 16, .inl oy)), (oR, .inl (cI, 16, .inl oq)), (bA, .inl (cJ, 1, .inr (.inl ol)))]) := by
  refine va_MetW (cc := mb_L_hole) (maxL := 10) (ret := some .int) (hh := [(0, 22, 25, 15), (0, 22, 29, 21)]) (by decide) rfl ?_
  intro p e s m args below meth c s₁ B hml hv
  obtain ⟨rfl, hP, hK, hD0, hE⟩ := hv
  have hx := B.exec
  have hb := B.bytes
  have hr := B.returns
  have hts := atoms_spec (ws := (.codeWith my_L_hole mb_L_hole 10 (some .int) [(0, 22, 25, 15), (0, 22, 29, 21)] :: gw_l)) B.pre
  have htab := vx_table (x := my_L_hole) B (hts _ List.mem_cons_self)
  have hg : ∀ w ∈ gw_l, w.before _ s = true := fun w h => hts w (List.mem_cons_of_mem _ h)
  have hown : s.vm.findClass "HingeTablesLaw" = some m.cls := findClass_of_methodNamed B.named
  have hlocks := B.notSynchronized
  have hD := mu_self hD0
  have hS : va_S (mu_A [(kA, .inr (4, [.ref xA, .ref dA, .ref oA, .ref tA, .ref uA])), (oA, .inr (1, [.ref oX, .ref oY, .ref oR])), (oX, .inl (cI, 16, .inl ox)), (oY, .inl (cI, 16, .inl oy)), (oR, .inl (cI, 16, .inl oq)), (bA, .inl (cJ, 1, .inr (.inl ol)))]) s.heap s.heap [] := va_S.rf
  generalize hAe : mu_A [(kA, .inr (4, [.ref xA, .ref dA, .ref oA, .ref tA, .ref uA])), (oA, .inr (1, [.ref oX, .ref oY, .ref oR])), (oX, .inl (cI, 16, .inl ox)), (oY, .inl (cI, 16, .inl oy)), (oR, .inl (cI, 16, .inl oq)), (bA, .inl (cJ, 1, .inr (.inl ol)))] = A at hD hS ⊢
  have hl := lv_entry ([.ref kA, .int k, .long x0, .long y0, .long r0, .ref bA]) (n := 10) (Nat.le_of_ble_eq_true rfl)
  rw [lg_entry_eq]
  generalize (lg_sl ([.ref kA, .int k, .long x0, .long y0, .long r0, .ref bA]) ++ List.replicate (10 - (lg_sl ([.ref kA, .int k, .long x0, .long y0, .long r0, .ref bA])).length) Slot.unset).toArray = ls at hl ⊢
  have hl : lv_has ls 10 [(0, .ref kA), (1, .int k), (2, .long x0), (4, .long y0), (6, .long r0), (8, .ref bA)] := hl
  refine lv_aload hx hb md_L_hole_0 (lv_at hl 5 rfl) ?_
  refine lv_iconst (v := 0) hx hb md_L_hole_2 (by decide) ?_
  refine lv_aload_n hx hb md_L_hole_3 rfl (lv_at hl 0 rfl) ?_
  refine lv_iload_n hx hb md_L_hole_4 rfl (lv_at hl 1 rfl) ?_
  refine lv_lload_n hx hb md_L_hole_5 rfl (lv_at hl 2 rfl) ?_
  refine lv_lload hx hb md_L_hole_6 (lv_at hl 3 rfl) ?_
  refine lv_lload hx hb md_L_hole_8 (lv_at hl 4 rfl) ?_
  have hPc := hP.sub (ws' := [(kA, .inr (4, [.ref xA, .ref dA, .ref oA, .ref tA, .ref uA])), (oA, .inr (1, [.ref oX, .ref oY, .ref oR])), (oX, .inl (cI, 16, .inl ox)), (oY, .inl (cI, 16, .inl oy)), (oR, .inl (cI, 16, .inl oq))]) [0, 1, 2, 3, 4] rfl
  have hDc := hD.sub (ws' := [(kA, .inr (4, [.ref xA, .ref dA, .ref oA, .ref tA, .ref uA])), (oA, .inr (1, [.ref oX, .ref oY, .ref oR])), (oX, .inl (cI, 16, .inl ox)), (oY, .inl (cI, 16, .inl oy)), (oR, .inl (cI, 16, .inl oq))]) [0, 1, 2, 3, 4] (by decide) rfl
  have hFc := mu_free (wc := [(kA, .inr (4, [.ref xA, .ref dA, .ref oA, .ref tA, .ref uA])), (oA, .inr (1, [.ref oX, .ref oY, .ref oR])), (oX, .inl (cI, 16, .inl ox)), (oY, .inl (cI, 16, .inl oy)), (oR, .inl (cI, 16, .inl oq))]) hD [0, 1, 2, 3, 4] rfl
  refine vx_calli (vx_runV (As := [.int k, .long x0, .long y0, .long r0]) (rest := [.int 0, .ref bA]) ⟨hx, hb, hml, hown, hg⟩ (cx_K_hole l dC dI cC cI cJ kA xA dA tA uA oA oX oY oR ox oy oq k x0 y0 r0 t1 t2 qs hl9 ) (gw_cwV hg wd_431 mv_K_hole rfl rfl ⟨Nat.le_of_ble_eq_true rfl, Nat.le_of_ble_eq_true rfl⟩) (mu_preV (ci := 4) (q0 := 0) am_X_bl hK hPc hDc (pu_e0 am_X_bl hE.1) rfl rfl) rfl rfl hl.1 rfl (lv_room (Nat.le_of_ble_eq_true rfl)) md_L_hole_10 ⟨Nat.le_of_ble_eq_true rfl, Nat.le_of_ble_eq_true rfl⟩) hS (fun q _ h => hFc q h) hFc (fun _ _ h => h.elim) (fun E ce q9 u9 t9 H locs ht hal hpx hpost hz hk hS hcell hcv hcl => ?_) (fun r9 u9 t9 H locs ht hal hpost hB hz hk hS => ?_)
  · have hpost : xK_hole ox oy oq k x0 y0 r0 = .error E := hpost
    have hP := tx_P hP (fun q h => hk q h (fun z => z))
    rcases xe_K_hole hpost with rfl | rfl
    · refine vx_catch (name := "java/lang/IndexOutOfBoundsException") hown [] ⟨0, 22, 25, 15⟩ [⟨0, 22, 29, 21⟩] (htab.trans rfl) (fun z hz => by cases hz) (by decide) (by decide) (hg _ wd_174) (va_Nw.use rfl (ac_IOB hE.1)) hcell hcv hcl ?_
      refine lv_astore (lv' := [(9, .ref q9), (0, .ref kA), (1, .int k), (2, .long x0), (4, .long y0), (6, .long r0), (8, .ref bA)]) hx hb md_L_hole_25 hl (by decide) rfl (fun ls hl => ?_)
      refine lv_iconst (v := 1) hx hb md_L_hole_27 (by decide) ?_
      exact W.iret (v := 1) hx hb hr (fun t ht hW => ⟨⟨1, (ol, ox, oy, oq), rfl, (by simp only [fL_hole, hpost, ec_L_hole_IOB]), by have h9 := hP; rw [← ht] at h9; exact h9⟩, hS.F ht⟩) hS.2.2 md_L_hole_28 hlocks
    · refine vx_catch (name := "java/lang/IllegalArgumentException") hown [⟨0, 22, 25, 15⟩] ⟨0, 22, 29, 21⟩ [] (htab.trans rfl) (fun z hz => by simp only [List.mem_cons, List.not_mem_nil, or_false] at hz; subst hz; exact Or.inr ⟨by decide, "java/lang/IndexOutOfBoundsException", hg _ wd_174, hE.2.2.2⟩) (by decide) (by decide) (hg _ wd_281) (va_Nw.use rfl (ac_IAE hE.1)) hcell hcv hcl ?_
      refine lv_astore (lv' := [(9, .ref q9), (0, .ref kA), (1, .int k), (2, .long x0), (4, .long y0), (6, .long r0), (8, .ref bA)]) hx hb md_L_hole_29 hl (by decide) rfl (fun ls hl => ?_)
      refine lv_iconst (v := 2) hx hb md_L_hole_31 (by decide) ?_
      exact W.iret (v := 2) hx hb hr (fun t ht hW => ⟨⟨2, (ol, ox, oy, oq), rfl, (by simp only [fL_hole, hpost, ec_L_hole_IAE]), by have h9 := hP; rw [← ht] at h9; exact h9⟩, hS.F ht⟩) hS.2.2 md_L_hole_32 hlocks
  · obtain ⟨e0, e1, e2⟩ := u9
    have hpost : xK_hole ox oy oq k x0 y0 r0 = .ok (r9, e0, e1, e2) := hpost
    have hB : va_P (dC, dI) mC [(kA, .inr (4, [.ref xA, .ref dA, .ref oA, .ref tA, .ref uA])), (oA, .inr (1, [.ref oX, .ref oY, .ref oR])), (oX, .inl (cI, 16, .inl e0)), (oY, .inl (cI, 16, .inl e1)), (oR, .inl (cI, 16, .inl e2))] H := by rw [← ht]; exact hB
    have hP := mu_join (ws' := [(kA, .inr (4, [.ref xA, .ref dA, .ref oA, .ref tA, .ref uA])), (oA, .inr (1, [.ref oX, .ref oY, .ref oR])), (oX, .inl (cI, 16, .inl e0)), (oY, .inl (cI, 16, .inl e1)), (oR, .inl (cI, 16, .inl e2)), (bA, .inl (cJ, 1, .inr (.inl ol)))]) hP hD [0, 1, 2, 3, 4] [.inl 0, .inl 1, .inl 2, .inl 3, .inl 4, .inr 5] rfl rfl rfl hk hB
    have hD : va_D A [(kA, .inr (4, [.ref xA, .ref dA, .ref oA, .ref tA, .ref uA])), (oA, .inr (1, [.ref oX, .ref oY, .ref oR])), (oX, .inl (cI, 16, .inl e0)), (oY, .inl (cI, 16, .inl e1)), (oR, .inl (cI, 16, .inl e2)), (bA, .inl (cJ, 1, .inr (.inl ol)))] := mu_D (ws := [(kA, .inr (4, [.ref xA, .ref dA, .ref oA, .ref tA, .ref uA])), (oA, .inr (1, [.ref oX, .ref oY, .ref oR])), (oX, .inl (cI, 16, .inl ox)), (oY, .inl (cI, 16, .inl oy)), (oR, .inl (cI, 16, .inl oq)), (bA, .inl (cJ, 1, .inr (.inl ol)))]) rfl hD
    refine lv_if_eq (tgt := 20) hx hb md_L_hole_13 (by decide) (fun c1 => ?_) (fun c1 => ?_)
    · refine lv_lconst (v := 0) hx hb md_L_hole_20 (by decide) ?_
      refine va_last hx hb hK hP hD hS 5 2 rfl rfl (by unfold vp_in; decide) md_L_hole_21 (fun H locs hP hD hS => ?_)
      have hP : va_P (dC, dI) mC [(kA, .inr (4, [.ref xA, .ref dA, .ref oA, .ref tA, .ref uA])), (oA, .inr (1, [.ref oX, .ref oY, .ref oR])), (oX, .inl (cI, 16, .inl e0)), (oY, .inl (cI, 16, .inl e1)), (oR, .inl (cI, 16, .inl e2)), (bA, .inl (cJ, 1, .inr (.inl (vp_updL ol (Int32.toNatClampNeg 0) 0))))] H := hP
      have hD : va_D A [(kA, .inr (4, [.ref xA, .ref dA, .ref oA, .ref tA, .ref uA])), (oA, .inr (1, [.ref oX, .ref oY, .ref oR])), (oX, .inl (cI, 16, .inl e0)), (oY, .inl (cI, 16, .inl e1)), (oR, .inl (cI, 16, .inl e2)), (bA, .inl (cJ, 1, .inr (.inl (vp_updL ol (Int32.toNatClampNeg 0) 0))))] := hD
      refine lv_goto (tgt := 33) hx hb md_L_hole_22 (by decide) ?_
      refine lv_iconst (v := 0) hx hb md_L_hole_33 (by decide) ?_
      exact W.iret (v := 0) hx hb hr (fun t ht hW => ⟨⟨0, (vp_updL ol (Int32.toNatClampNeg 0) 0, e0, e1, e2), rfl, (by simp only [fL_hole, hpost, if_pos c1]), by have h9 := hP; rw [← ht] at h9; exact h9⟩, hS.F ht⟩) hS.2.2 md_L_hole_34 hlocks
    · refine lv_lconst (v := 1) hx hb md_L_hole_16 (by decide) ?_
      refine lv_goto (tgt := 21) hx hb md_L_hole_17 (by decide) ?_
      refine va_last hx hb hK hP hD hS 5 2 rfl rfl (by unfold vp_in; decide) md_L_hole_21 (fun H locs hP hD hS => ?_)
      have hP : va_P (dC, dI) mC [(kA, .inr (4, [.ref xA, .ref dA, .ref oA, .ref tA, .ref uA])), (oA, .inr (1, [.ref oX, .ref oY, .ref oR])), (oX, .inl (cI, 16, .inl e0)), (oY, .inl (cI, 16, .inl e1)), (oR, .inl (cI, 16, .inl e2)), (bA, .inl (cJ, 1, .inr (.inl (vp_updL ol (Int32.toNatClampNeg 0) 1))))] H := hP
      have hD : va_D A [(kA, .inr (4, [.ref xA, .ref dA, .ref oA, .ref tA, .ref uA])), (oA, .inr (1, [.ref oX, .ref oY, .ref oR])), (oX, .inl (cI, 16, .inl e0)), (oY, .inl (cI, 16, .inl e1)), (oR, .inl (cI, 16, .inl e2)), (bA, .inl (cJ, 1, .inr (.inl (vp_updL ol (Int32.toNatClampNeg 0) 1))))] := hD
      refine lv_goto (tgt := 33) hx hb md_L_hole_22 (by decide) ?_
      refine lv_iconst (v := 0) hx hb md_L_hole_33 (by decide) ?_
      exact W.iret (v := 0) hx hb hr (fun t ht hW => ⟨⟨0, (vp_updL ol (Int32.toNatClampNeg 0) 1, e0, e1, e2), rfl, (by simp only [fL_hole, hpost, if_neg c1]), by have h9 := hP; rw [← ht] at h9; exact h9⟩, hS.F ht⟩) hS.2.2 md_L_hole_34 hlocks

theorem xe_K_meet {ox : Nat → Int32} {oy : Nat → Int32} {oq : Nat → Int32} {a : Int32} {b : Int32} {E : String} (h : xK_meet ox oy oq a b = .error E) : E = "java/lang/IndexOutOfBoundsException" := by
  unfold xK_meet at h
  repeat' split at h
  all_goals first | (cases h; done) | (cases h; simp)
def ec_L_meet (E : String) : Int32 := if E = "java/lang/IndexOutOfBoundsException" then 1 else 0
theorem ec_L_meet_IOB : ec_L_meet "java/lang/IndexOutOfBoundsException" = 1 := by decide +kernel
def fL_meet (ox : Nat → Int32) (oy : Nat → Int32) (oq : Nat → Int32) (ol : Nat → Int64) (a : Int32) (b : Int32) : Int32 × (Nat → Int64) := match xK_meet ox oy oq a b with
  | .ok v => (0, vp_updL ol (Int32.toNatClampNeg 0) ((if v = 0 then 0 else 1)))
  | .error E => (ec_L_meet E, ol)
set_option maxHeartbeats 1000000 in
set_option maxRecDepth 100000 in
theorem ch_L_meet (l : Launch) (dC : Nat → ClassId) (dI : Nat → Nat → Nat) (cC cI cJ : ClassId) (kA : Nat) (xA : Nat) (dA : Nat) (tA : Nat) (uA : Nat) (oA : Nat) (oX : Nat) (oY : Nat) (oR : Nat) (ox : Nat → Int32) (oy : Nat → Int32) (oq : Nat → Int32) (bA : Nat) (ol : Nat → Int64) (a : Int32) (b : Int32) (t1 t2 : Nat) (qs : Nat → Nat) (hl9 : l.stackTraces = false)  : Met l my_L_meet (.codeWith my_L_meet mb_L_meet 5 (some .int) [(0, 17, 20, 15)] :: gw_l) ({ frames := 8, cells := 1, slots := 6, locals := 172 }) (mu_Pc (dC, dI) mC [(cC, .char), (cI, .int), (cJ, .long)] [(kA, .inr (4, [.ref xA, .ref dA, .ref oA, .ref tA, .ref uA])), (oA, .inr (1, [.ref oX, .ref oY, .ref oR])), (oX, .inl (cI, 16, .inl ox)), (oY, .inl (cI, 16, .inl oy)), (oR, .inl (cI, 16, .inl oq)), (bA, .inl (cJ, 1, .inr (.inl ol)))] (am_L t1 t2 qs) [.ref kA, .int a, .int b, .ref bA]) (va_Qi (fun (r : Int32) (u : (Nat → Int64)) => (r, u) = fL_meet ox oy oq ol a b) (fun u t => va_P (dC, dI) mC [(kA, .inr (4, [.ref xA, .ref dA, .ref oA, .ref tA, .ref uA])), (oA, .inr (1, [.ref oX, .ref oY, .ref oR])), (oX, .inl (cI, 16, .inl ox)), (oY, .inl (cI, 16, .inl oy)), (oR, .inl (cI, 16, .inl oq)), (bA, .inl (cJ, 1, .inr (.inl u)))] t.heap) (mu_A [(kA, .inr (4, [.ref xA, .ref dA, .ref oA, .ref tA, .ref uA])), (oA, .inr (1, [.ref oX, .ref oY, .ref oR])), (oX, .inl (cI, 16, .inl ox)), (oY, .inl (cI, 16, .inl oy)), (oR, .inl (cI, 16, .inl oq)), (bA, .inl (cJ, 1, .inr (.inl ol)))])) 1 6 (mu_A [(kA, .inr (4, [.ref xA, .ref dA, .ref oA, .ref tA, .ref uA])), (oA, .inr (1, [.ref oX, .ref oY, .ref oR])), (oX, .inl (cI, 16, .inl ox)), (oY, .inl (cI, 16, .inl oy)), (oR, .inl (cI, 16, .inl oq)), (bA, .inl (cJ, 1, .inr (.inl ol)))]) := by
  refine va_MetW (cc := mb_L_meet) (maxL := 5) (ret := some .int) (hh := [(0, 17, 20, 15)]) (by decide) rfl ?_
  intro p e s m args below meth c s₁ B hml hv
  obtain ⟨rfl, hP, hK, hD0, hE⟩ := hv
  have hx := B.exec
  have hb := B.bytes
  have hr := B.returns
  have hts := atoms_spec (ws := (.codeWith my_L_meet mb_L_meet 5 (some .int) [(0, 17, 20, 15)] :: gw_l)) B.pre
  have htab := vx_table (x := my_L_meet) B (hts _ List.mem_cons_self)
  have hg : ∀ w ∈ gw_l, w.before _ s = true := fun w h => hts w (List.mem_cons_of_mem _ h)
  have hown : s.vm.findClass "HingeTablesLaw" = some m.cls := findClass_of_methodNamed B.named
  have hlocks := B.notSynchronized
  have hD := mu_self hD0
  have hS : va_S (mu_A [(kA, .inr (4, [.ref xA, .ref dA, .ref oA, .ref tA, .ref uA])), (oA, .inr (1, [.ref oX, .ref oY, .ref oR])), (oX, .inl (cI, 16, .inl ox)), (oY, .inl (cI, 16, .inl oy)), (oR, .inl (cI, 16, .inl oq)), (bA, .inl (cJ, 1, .inr (.inl ol)))]) s.heap s.heap [] := va_S.rf
  generalize hAe : mu_A [(kA, .inr (4, [.ref xA, .ref dA, .ref oA, .ref tA, .ref uA])), (oA, .inr (1, [.ref oX, .ref oY, .ref oR])), (oX, .inl (cI, 16, .inl ox)), (oY, .inl (cI, 16, .inl oy)), (oR, .inl (cI, 16, .inl oq)), (bA, .inl (cJ, 1, .inr (.inl ol)))] = A at hD hS ⊢
  have hl := lv_entry ([.ref kA, .int a, .int b, .ref bA]) (n := 5) (Nat.le_of_ble_eq_true rfl)
  rw [lg_entry_eq]
  generalize (lg_sl ([.ref kA, .int a, .int b, .ref bA]) ++ List.replicate (5 - (lg_sl ([.ref kA, .int a, .int b, .ref bA])).length) Slot.unset).toArray = ls at hl ⊢
  have hl : lv_has ls 5 [(0, .ref kA), (1, .int a), (2, .int b), (3, .ref bA)] := hl
  refine lv_aload_n hx hb md_L_meet_0 rfl (lv_at hl 3 rfl) ?_
  refine lv_iconst (v := 0) hx hb md_L_meet_1 (by decide) ?_
  refine lv_aload_n hx hb md_L_meet_2 rfl (lv_at hl 0 rfl) ?_
  refine lv_iload_n hx hb md_L_meet_3 rfl (lv_at hl 1 rfl) ?_
  refine lv_iload_n hx hb md_L_meet_4 rfl (lv_at hl 2 rfl) ?_
  have hPc := hP.sub (ws' := [(kA, .inr (4, [.ref xA, .ref dA, .ref oA, .ref tA, .ref uA])), (oA, .inr (1, [.ref oX, .ref oY, .ref oR])), (oX, .inl (cI, 16, .inl ox)), (oY, .inl (cI, 16, .inl oy)), (oR, .inl (cI, 16, .inl oq))]) [0, 1, 2, 3, 4] rfl
  refine vx_calli (vx_runV (As := [.int a, .int b]) (rest := [.int 0, .ref bA]) ⟨hx, hb, hml, hown, hg⟩ (cx_K_meet l dC dI cC cI cJ kA xA dA tA uA oA oX oY oR ox oy oq a b t1 t2 qs hl9 ) (gw_cwV hg wd_449 mv_K_meet rfl rfl ⟨Nat.le_of_ble_eq_true rfl, Nat.le_of_ble_eq_true rfl⟩) (pu_preV (ci := 4) (q0 := 0) am_X_bl hK hPc (pu_e0 am_X_bl hE.1) rfl rfl) rfl rfl hl.1 rfl (lv_room (Nat.le_of_ble_eq_true rfl)) md_L_meet_5 ⟨Nat.le_of_ble_eq_true rfl, Nat.le_of_ble_eq_true rfl⟩) hS (fun _ _ h => h.elim) (fun _ h => h.elim) (fun _ _ h => h.elim) (fun E ce q9 u9 t9 H locs ht hal hpx hpost hz hk hS hcell hcv hcl => ?_) (fun r9 u9 t9 H locs ht hal hpost hB hz hk hS => ?_)
  · have hpost : xK_meet ox oy oq a b = .error E := hpost
    have hP := tx_P hP (fun q h => hk q h (fun z => z))
    obtain rfl := xe_K_meet hpost
    refine vx_catch (name := "java/lang/IndexOutOfBoundsException") hown [] ⟨0, 17, 20, 15⟩ [] (htab.trans rfl) (fun z hz => by cases hz) (by decide) (by decide) (hg _ wd_174) (va_Nw.use rfl (ac_IOB hE.1)) hcell hcv hcl ?_
    refine lv_astore (lv' := [(4, .ref q9), (0, .ref kA), (1, .int a), (2, .int b), (3, .ref bA)]) hx hb md_L_meet_20 hl (by decide) rfl (fun ls hl => ?_)
    refine lv_iconst (v := 1) hx hb md_L_meet_22 (by decide) ?_
    exact W.iret (v := 1) hx hb hr (fun t ht hW => ⟨⟨1, (ol), rfl, (by simp only [fL_meet, hpost, ec_L_meet_IOB]), by have h9 := hP; rw [← ht] at h9; exact h9⟩, hS.F ht⟩) hS.2.2 md_L_meet_23 hlocks
  · have hpost : xK_meet ox oy oq a b = .ok r9 := hpost
    have hP := tx_P hP (fun q h => hk q h (fun z => z))
    refine lv_if_eq (tgt := 15) hx hb md_L_meet_8 (by decide) (fun c1 => ?_) (fun c1 => ?_)
    · refine lv_lconst (v := 0) hx hb md_L_meet_15 (by decide) ?_
      refine va_last hx hb hK hP hD hS 5 2 rfl rfl (by unfold vp_in; decide) md_L_meet_16 (fun H locs hP hD hS => ?_)
      have hP : va_P (dC, dI) mC [(kA, .inr (4, [.ref xA, .ref dA, .ref oA, .ref tA, .ref uA])), (oA, .inr (1, [.ref oX, .ref oY, .ref oR])), (oX, .inl (cI, 16, .inl ox)), (oY, .inl (cI, 16, .inl oy)), (oR, .inl (cI, 16, .inl oq)), (bA, .inl (cJ, 1, .inr (.inl (vp_updL ol (Int32.toNatClampNeg 0) 0))))] H := hP
      have hD : va_D A [(kA, .inr (4, [.ref xA, .ref dA, .ref oA, .ref tA, .ref uA])), (oA, .inr (1, [.ref oX, .ref oY, .ref oR])), (oX, .inl (cI, 16, .inl ox)), (oY, .inl (cI, 16, .inl oy)), (oR, .inl (cI, 16, .inl oq)), (bA, .inl (cJ, 1, .inr (.inl (vp_updL ol (Int32.toNatClampNeg 0) 0))))] := hD
      refine lv_goto (tgt := 24) hx hb md_L_meet_17 (by decide) ?_
      refine lv_iconst (v := 0) hx hb md_L_meet_24 (by decide) ?_
      exact W.iret (v := 0) hx hb hr (fun t ht hW => ⟨⟨0, (vp_updL ol (Int32.toNatClampNeg 0) 0), rfl, (by simp only [fL_meet, hpost, if_pos c1]), by have h9 := hP; rw [← ht] at h9; exact h9⟩, hS.F ht⟩) hS.2.2 md_L_meet_25 hlocks
    · refine lv_lconst (v := 1) hx hb md_L_meet_11 (by decide) ?_
      refine lv_goto (tgt := 16) hx hb md_L_meet_12 (by decide) ?_
      refine va_last hx hb hK hP hD hS 5 2 rfl rfl (by unfold vp_in; decide) md_L_meet_16 (fun H locs hP hD hS => ?_)
      have hP : va_P (dC, dI) mC [(kA, .inr (4, [.ref xA, .ref dA, .ref oA, .ref tA, .ref uA])), (oA, .inr (1, [.ref oX, .ref oY, .ref oR])), (oX, .inl (cI, 16, .inl ox)), (oY, .inl (cI, 16, .inl oy)), (oR, .inl (cI, 16, .inl oq)), (bA, .inl (cJ, 1, .inr (.inl (vp_updL ol (Int32.toNatClampNeg 0) 1))))] H := hP
      have hD : va_D A [(kA, .inr (4, [.ref xA, .ref dA, .ref oA, .ref tA, .ref uA])), (oA, .inr (1, [.ref oX, .ref oY, .ref oR])), (oX, .inl (cI, 16, .inl ox)), (oY, .inl (cI, 16, .inl oy)), (oR, .inl (cI, 16, .inl oq)), (bA, .inl (cJ, 1, .inr (.inl (vp_updL ol (Int32.toNatClampNeg 0) 1))))] := hD
      refine lv_goto (tgt := 24) hx hb md_L_meet_17 (by decide) ?_
      refine lv_iconst (v := 0) hx hb md_L_meet_24 (by decide) ?_
      exact W.iret (v := 0) hx hb hr (fun t ht hW => ⟨⟨0, (vp_updL ol (Int32.toNatClampNeg 0) 1), rfl, (by simp only [fL_meet, hpost, if_neg c1]), by have h9 := hP; rw [← ht] at h9; exact h9⟩, hS.F ht⟩) hS.2.2 md_L_meet_25 hlocks

theorem xe_K_pair {ox : Nat → Int32} {oy : Nat → Int32} {oq : Nat → Int32} {k : Int32} {E : String} (h : xK_pair ox oy oq k = .error E) : E = "java/lang/IndexOutOfBoundsException" := by
  unfold xK_pair at h
  repeat' split at h
  all_goals first | (cases h; done) | (cases h; simp)
def ec_L_pair (E : String) : Int32 := if E = "java/lang/IndexOutOfBoundsException" then 1 else 0
theorem ec_L_pair_IOB : ec_L_pair "java/lang/IndexOutOfBoundsException" = 1 := by decide +kernel
def fL_pair (ox : Nat → Int32) (oy : Nat → Int32) (oq : Nat → Int32) (ol : Nat → Int64) (k : Int32) : Int32 × (Nat → Int64) := match xK_pair ox oy oq k with
  | .ok v => (0, vp_updL ol (Int32.toNatClampNeg 0) (Int32.toInt64 v))
  | .error E => (ec_L_pair E, ol)
set_option maxHeartbeats 1000000 in
set_option maxRecDepth 100000 in
theorem ch_L_pair (l : Launch) (dC : Nat → ClassId) (dI : Nat → Nat → Nat) (cC cI cJ : ClassId) (kA : Nat) (xA : Nat) (dA : Nat) (tA : Nat) (uA : Nat) (oA : Nat) (oX : Nat) (oY : Nat) (oR : Nat) (ox : Nat → Int32) (oy : Nat → Int32) (oq : Nat → Int32) (bA : Nat) (ol : Nat → Int64) (k : Int32) (t1 t2 : Nat) (qs : Nat → Nat) (hl9 : l.stackTraces = false)  : Met l my_L_pair (.codeWith my_L_pair mb_L_pair 4 (some .int) [(0, 9, 12, 15)] :: gw_l) ({ frames := 7, cells := 1, slots := 6, locals := 151 }) (mu_Pc (dC, dI) mC [(cC, .char), (cI, .int), (cJ, .long)] [(kA, .inr (4, [.ref xA, .ref dA, .ref oA, .ref tA, .ref uA])), (oA, .inr (1, [.ref oX, .ref oY, .ref oR])), (oX, .inl (cI, 16, .inl ox)), (oY, .inl (cI, 16, .inl oy)), (oR, .inl (cI, 16, .inl oq)), (bA, .inl (cJ, 1, .inr (.inl ol)))] (am_L t1 t2 qs) [.ref kA, .int k, .ref bA]) (va_Qi (fun (r : Int32) (u : (Nat → Int64)) => (r, u) = fL_pair ox oy oq ol k) (fun u t => va_P (dC, dI) mC [(kA, .inr (4, [.ref xA, .ref dA, .ref oA, .ref tA, .ref uA])), (oA, .inr (1, [.ref oX, .ref oY, .ref oR])), (oX, .inl (cI, 16, .inl ox)), (oY, .inl (cI, 16, .inl oy)), (oR, .inl (cI, 16, .inl oq)), (bA, .inl (cJ, 1, .inr (.inl u)))] t.heap) (mu_A [(kA, .inr (4, [.ref xA, .ref dA, .ref oA, .ref tA, .ref uA])), (oA, .inr (1, [.ref oX, .ref oY, .ref oR])), (oX, .inl (cI, 16, .inl ox)), (oY, .inl (cI, 16, .inl oy)), (oR, .inl (cI, 16, .inl oq)), (bA, .inl (cJ, 1, .inr (.inl ol)))])) 1 6 (mu_A [(kA, .inr (4, [.ref xA, .ref dA, .ref oA, .ref tA, .ref uA])), (oA, .inr (1, [.ref oX, .ref oY, .ref oR])), (oX, .inl (cI, 16, .inl ox)), (oY, .inl (cI, 16, .inl oy)), (oR, .inl (cI, 16, .inl oq)), (bA, .inl (cJ, 1, .inr (.inl ol)))]) := by
  refine va_MetW (cc := mb_L_pair) (maxL := 4) (ret := some .int) (hh := [(0, 9, 12, 15)]) (by decide) rfl ?_
  intro p e s m args below meth c s₁ B hml hv
  obtain ⟨rfl, hP, hK, hD0, hE⟩ := hv
  have hx := B.exec
  have hb := B.bytes
  have hr := B.returns
  have hts := atoms_spec (ws := (.codeWith my_L_pair mb_L_pair 4 (some .int) [(0, 9, 12, 15)] :: gw_l)) B.pre
  have htab := vx_table (x := my_L_pair) B (hts _ List.mem_cons_self)
  have hg : ∀ w ∈ gw_l, w.before _ s = true := fun w h => hts w (List.mem_cons_of_mem _ h)
  have hown : s.vm.findClass "HingeTablesLaw" = some m.cls := findClass_of_methodNamed B.named
  have hlocks := B.notSynchronized
  have hD := mu_self hD0
  have hS : va_S (mu_A [(kA, .inr (4, [.ref xA, .ref dA, .ref oA, .ref tA, .ref uA])), (oA, .inr (1, [.ref oX, .ref oY, .ref oR])), (oX, .inl (cI, 16, .inl ox)), (oY, .inl (cI, 16, .inl oy)), (oR, .inl (cI, 16, .inl oq)), (bA, .inl (cJ, 1, .inr (.inl ol)))]) s.heap s.heap [] := va_S.rf
  generalize hAe : mu_A [(kA, .inr (4, [.ref xA, .ref dA, .ref oA, .ref tA, .ref uA])), (oA, .inr (1, [.ref oX, .ref oY, .ref oR])), (oX, .inl (cI, 16, .inl ox)), (oY, .inl (cI, 16, .inl oy)), (oR, .inl (cI, 16, .inl oq)), (bA, .inl (cJ, 1, .inr (.inl ol)))] = A at hD hS ⊢
  have hl := lv_entry ([.ref kA, .int k, .ref bA]) (n := 4) (Nat.le_of_ble_eq_true rfl)
  rw [lg_entry_eq]
  generalize (lg_sl ([.ref kA, .int k, .ref bA]) ++ List.replicate (4 - (lg_sl ([.ref kA, .int k, .ref bA])).length) Slot.unset).toArray = ls at hl ⊢
  have hl : lv_has ls 4 [(0, .ref kA), (1, .int k), (2, .ref bA)] := hl
  refine lv_aload_n hx hb md_L_pair_0 rfl (lv_at hl 2 rfl) ?_
  refine lv_iconst (v := 0) hx hb md_L_pair_1 (by decide) ?_
  refine lv_aload_n hx hb md_L_pair_2 rfl (lv_at hl 0 rfl) ?_
  refine lv_iload_n hx hb md_L_pair_3 rfl (lv_at hl 1 rfl) ?_
  have hPc := hP.sub (ws' := [(kA, .inr (4, [.ref xA, .ref dA, .ref oA, .ref tA, .ref uA])), (oA, .inr (1, [.ref oX, .ref oY, .ref oR])), (oX, .inl (cI, 16, .inl ox)), (oY, .inl (cI, 16, .inl oy)), (oR, .inl (cI, 16, .inl oq))]) [0, 1, 2, 3, 4] rfl
  refine vx_calli (vx_runV (As := [.int k]) (rest := [.int 0, .ref bA]) ⟨hx, hb, hml, hown, hg⟩ (cx_K_pair l dC dI cC cI cJ kA xA dA tA uA oA oX oY oR ox oy oq k t1 t2 qs hl9 ) (gw_cwV hg wd_460 mv_K_pair rfl rfl ⟨Nat.le_of_ble_eq_true rfl, Nat.le_of_ble_eq_true rfl⟩) (pu_preV (ci := 4) (q0 := 0) am_X_bl hK hPc (pu_e0 am_X_bl hE.1) rfl rfl) rfl rfl hl.1 rfl (lv_room (Nat.le_of_ble_eq_true rfl)) md_L_pair_4 ⟨Nat.le_of_ble_eq_true rfl, Nat.le_of_ble_eq_true rfl⟩) hS (fun _ _ h => h.elim) (fun _ h => h.elim) (fun _ _ h => h.elim) (fun E ce q9 u9 t9 H locs ht hal hpx hpost hz hk hS hcell hcv hcl => ?_) (fun r9 u9 t9 H locs ht hal hpost hB hz hk hS => ?_)
  · have hpost : xK_pair ox oy oq k = .error E := hpost
    have hP := tx_P hP (fun q h => hk q h (fun z => z))
    obtain rfl := xe_K_pair hpost
    refine vx_catch (name := "java/lang/IndexOutOfBoundsException") hown [] ⟨0, 9, 12, 15⟩ [] (htab.trans rfl) (fun z hz => by cases hz) (by decide) (by decide) (hg _ wd_174) (va_Nw.use rfl (ac_IOB hE.1)) hcell hcv hcl ?_
    refine lv_astore_n (lv' := [(3, .ref q9), (0, .ref kA), (1, .int k), (2, .ref bA)]) hx hb md_L_pair_12 rfl hl (by decide) rfl (fun ls hl => ?_)
    refine lv_iconst (v := 1) hx hb md_L_pair_13 (by decide) ?_
    exact W.iret (v := 1) hx hb hr (fun t ht hW => ⟨⟨1, (ol), rfl, (by simp only [fL_pair, hpost, ec_L_pair_IOB]), by have h9 := hP; rw [← ht] at h9; exact h9⟩, hS.F ht⟩) hS.2.2 md_L_pair_14 hlocks
  · have hpost : xK_pair ox oy oq k = .ok r9 := hpost
    have hP := tx_P hP (fun q h => hk q h (fun z => z))
    refine lv_i2l (v := Int32.toInt64 r9) hx hb md_L_pair_7 rfl ?_
    refine va_last hx hb hK hP hD hS 5 2 rfl rfl (by unfold vp_in; decide) md_L_pair_8 (fun H locs hP hD hS => ?_)
    have hP : va_P (dC, dI) mC [(kA, .inr (4, [.ref xA, .ref dA, .ref oA, .ref tA, .ref uA])), (oA, .inr (1, [.ref oX, .ref oY, .ref oR])), (oX, .inl (cI, 16, .inl ox)), (oY, .inl (cI, 16, .inl oy)), (oR, .inl (cI, 16, .inl oq)), (bA, .inl (cJ, 1, .inr (.inl (vp_updL ol (Int32.toNatClampNeg 0) (Int32.toInt64 r9)))))] H := hP
    have hD : va_D A [(kA, .inr (4, [.ref xA, .ref dA, .ref oA, .ref tA, .ref uA])), (oA, .inr (1, [.ref oX, .ref oY, .ref oR])), (oX, .inl (cI, 16, .inl ox)), (oY, .inl (cI, 16, .inl oy)), (oR, .inl (cI, 16, .inl oq)), (bA, .inl (cJ, 1, .inr (.inl (vp_updL ol (Int32.toNatClampNeg 0) (Int32.toInt64 r9)))))] := hD
    refine lv_goto (tgt := 15) hx hb md_L_pair_9 (by decide) ?_
    refine lv_iconst (v := 0) hx hb md_L_pair_15 (by decide) ?_
    exact W.iret (v := 0) hx hb hr (fun t ht hW => ⟨⟨0, (vp_updL ol (Int32.toNatClampNeg 0) (Int32.toInt64 r9)), rfl, (by simp only [fL_pair, hpost]), by have h9 := hP; rw [← ht] at h9; exact h9⟩, hS.F ht⟩) hS.2.2 md_L_pair_16 hlocks

theorem gk_wall {dw dt : Int64} {dist : Int64} {E : String} : ∀ n i, gK_wall dw dt dist n i ≠ .error E := by
  intro n
  induction n with
  | zero => intro i h; cases h
  | succ n ih =>
    intro i
    unfold gK_wall
    repeat' split
    all_goals first | exact ih _ | (intro h; cases h)
theorem xe_K_wall {dw : Int64} {dt : Int64} {dist : Int64} {E : String} (h : xK_wall dw dt dist = .error E) : E = "java/lang/IllegalArgumentException" := by
  unfold xK_wall at h
  repeat' split at h
  all_goals first | exact absurd h (gk_wall _ _) | (cases h; simp)
def ec_L_wall (E : String) : Int32 := if E = "java/lang/IllegalArgumentException" then 1 else 0
theorem ec_L_wall_IAE : ec_L_wall "java/lang/IllegalArgumentException" = 1 := by decide +kernel
def fL_wall (dw : Int64) (dt : Int64) (ol : Nat → Int64) (dist : Int64) : Int32 × (Nat → Int64) := match xK_wall dw dt dist with
  | .ok v => (0, vp_updL ol (Int32.toNatClampNeg 0) (Int32.toInt64 v))
  | .error E => (ec_L_wall E, ol)
set_option maxHeartbeats 1000000 in
set_option maxRecDepth 100000 in
theorem ch_L_wall (l : Launch) (dC : Nat → ClassId) (dI : Nat → Nat → Nat) (cC cI cJ : ClassId) (kA : Nat) (xA : Nat) (oA : Nat) (tA : Nat) (uA : Nat) (dA : Nat) (dw : Int64) (dh : Int64) (dt : Int64) (dd : Int64) (bA : Nat) (ol : Nat → Int64) (dist : Int64) (t1 t2 : Nat) (qs : Nat → Nat) (hl9 : l.stackTraces = false)  : Met l my_L_wall (.codeWith my_L_wall mb_L_wall 5 (some .int) [(0, 9, 12, 21)] :: gw_l) ({ frames := 7, cells := 1, slots := 6, locals := 153 }) (mu_Pc (dC, dI) mC [(cC, .char), (cI, .int), (cJ, .long)] [(kA, .inr (4, [.ref xA, .ref dA, .ref oA, .ref tA, .ref uA])), (dA, .inr (0, [.long dw, .long dh, .long dt, .long dd])), (bA, .inl (cJ, 1, .inr (.inl ol)))] (am_L t1 t2 qs) [.ref kA, .long dist, .ref bA]) (va_Qi (fun (r : Int32) (u : (Nat → Int64)) => (r, u) = fL_wall dw dt ol dist) (fun u t => va_P (dC, dI) mC [(kA, .inr (4, [.ref xA, .ref dA, .ref oA, .ref tA, .ref uA])), (dA, .inr (0, [.long dw, .long dh, .long dt, .long dd])), (bA, .inl (cJ, 1, .inr (.inl u)))] t.heap) (mu_A [(kA, .inr (4, [.ref xA, .ref dA, .ref oA, .ref tA, .ref uA])), (dA, .inr (0, [.long dw, .long dh, .long dt, .long dd])), (bA, .inl (cJ, 1, .inr (.inl ol)))])) 1 6 (mu_A [(kA, .inr (4, [.ref xA, .ref dA, .ref oA, .ref tA, .ref uA])), (dA, .inr (0, [.long dw, .long dh, .long dt, .long dd])), (bA, .inl (cJ, 1, .inr (.inl ol)))]) := by
  refine va_MetW (cc := mb_L_wall) (maxL := 5) (ret := some .int) (hh := [(0, 9, 12, 21)]) (by decide) rfl ?_
  intro p e s m args below meth c s₁ B hml hv
  obtain ⟨rfl, hP, hK, hD0, hE⟩ := hv
  have hx := B.exec
  have hb := B.bytes
  have hr := B.returns
  have hts := atoms_spec (ws := (.codeWith my_L_wall mb_L_wall 5 (some .int) [(0, 9, 12, 21)] :: gw_l)) B.pre
  have htab := vx_table (x := my_L_wall) B (hts _ List.mem_cons_self)
  have hg : ∀ w ∈ gw_l, w.before _ s = true := fun w h => hts w (List.mem_cons_of_mem _ h)
  have hown : s.vm.findClass "HingeTablesLaw" = some m.cls := findClass_of_methodNamed B.named
  have hlocks := B.notSynchronized
  have hD := mu_self hD0
  have hS : va_S (mu_A [(kA, .inr (4, [.ref xA, .ref dA, .ref oA, .ref tA, .ref uA])), (dA, .inr (0, [.long dw, .long dh, .long dt, .long dd])), (bA, .inl (cJ, 1, .inr (.inl ol)))]) s.heap s.heap [] := va_S.rf
  generalize hAe : mu_A [(kA, .inr (4, [.ref xA, .ref dA, .ref oA, .ref tA, .ref uA])), (dA, .inr (0, [.long dw, .long dh, .long dt, .long dd])), (bA, .inl (cJ, 1, .inr (.inl ol)))] = A at hD hS ⊢
  have hl := lv_entry ([.ref kA, .long dist, .ref bA]) (n := 5) (Nat.le_of_ble_eq_true rfl)
  rw [lg_entry_eq]
  generalize (lg_sl ([.ref kA, .long dist, .ref bA]) ++ List.replicate (5 - (lg_sl ([.ref kA, .long dist, .ref bA])).length) Slot.unset).toArray = ls at hl ⊢
  have hl : lv_has ls 5 [(0, .ref kA), (1, .long dist), (3, .ref bA)] := hl
  refine lv_aload_n hx hb md_L_wall_0 rfl (lv_at hl 2 rfl) ?_
  refine lv_iconst (v := 0) hx hb md_L_wall_1 (by decide) ?_
  refine lv_aload_n hx hb md_L_wall_2 rfl (lv_at hl 0 rfl) ?_
  refine lv_lload_n hx hb md_L_wall_3 rfl (lv_at hl 1 rfl) ?_
  have hPc := hP.sub (ws' := [(kA, .inr (4, [.ref xA, .ref dA, .ref oA, .ref tA, .ref uA])), (dA, .inr (0, [.long dw, .long dh, .long dt, .long dd]))]) [0, 1] rfl
  refine vx_calli (vx_runV (As := [.long dist]) (rest := [.int 0, .ref bA]) ⟨hx, hb, hml, hown, hg⟩ (cx_K_wall l dC dI cC cI cJ kA xA oA tA uA dA dw dh dt dd dist t1 t2 qs hl9 ) (gw_cwV hg wd_472 mv_K_wall rfl rfl ⟨Nat.le_of_ble_eq_true rfl, Nat.le_of_ble_eq_true rfl⟩) (pu_preV (ci := 4) (q0 := 0) am_X_bl hK hPc (pu_e0 am_X_bl hE.1) rfl rfl) rfl rfl hl.1 rfl (lv_room (Nat.le_of_ble_eq_true rfl)) md_L_wall_4 ⟨Nat.le_of_ble_eq_true rfl, Nat.le_of_ble_eq_true rfl⟩) hS (fun _ _ h => h.elim) (fun _ h => h.elim) (fun _ _ h => h.elim) (fun E ce q9 u9 t9 H locs ht hal hpx hpost hz hk hS hcell hcv hcl => ?_) (fun r9 u9 t9 H locs ht hal hpost hB hz hk hS => ?_)
  · have hpost : xK_wall dw dt dist = .error E := hpost
    have hP := tx_P hP (fun q h => hk q h (fun z => z))
    obtain rfl := xe_K_wall hpost
    refine vx_catch (name := "java/lang/IllegalArgumentException") hown [] ⟨0, 9, 12, 21⟩ [] (htab.trans rfl) (fun z hz => by cases hz) (by decide) (by decide) (hg _ wd_281) (va_Nw.use rfl (ac_IAE hE.1)) hcell hcv hcl ?_
    refine lv_astore (lv' := [(4, .ref q9), (0, .ref kA), (1, .long dist), (3, .ref bA)]) hx hb md_L_wall_12 hl (by decide) rfl (fun ls hl => ?_)
    refine lv_iconst (v := 1) hx hb md_L_wall_14 (by decide) ?_
    exact W.iret (v := 1) hx hb hr (fun t ht hW => ⟨⟨1, (ol), rfl, (by simp only [fL_wall, hpost, ec_L_wall_IAE]), by have h9 := hP; rw [← ht] at h9; exact h9⟩, hS.F ht⟩) hS.2.2 md_L_wall_15 hlocks
  · have hpost : xK_wall dw dt dist = .ok r9 := hpost
    have hP := tx_P hP (fun q h => hk q h (fun z => z))
    refine lv_i2l (v := Int32.toInt64 r9) hx hb md_L_wall_7 rfl ?_
    refine va_last hx hb hK hP hD hS 2 2 rfl rfl (by unfold vp_in; decide) md_L_wall_8 (fun H locs hP hD hS => ?_)
    have hP : va_P (dC, dI) mC [(kA, .inr (4, [.ref xA, .ref dA, .ref oA, .ref tA, .ref uA])), (dA, .inr (0, [.long dw, .long dh, .long dt, .long dd])), (bA, .inl (cJ, 1, .inr (.inl (vp_updL ol (Int32.toNatClampNeg 0) (Int32.toInt64 r9)))))] H := hP
    have hD : va_D A [(kA, .inr (4, [.ref xA, .ref dA, .ref oA, .ref tA, .ref uA])), (dA, .inr (0, [.long dw, .long dh, .long dt, .long dd])), (bA, .inl (cJ, 1, .inr (.inl (vp_updL ol (Int32.toNatClampNeg 0) (Int32.toInt64 r9)))))] := hD
    refine lv_goto (tgt := 16) hx hb md_L_wall_9 (by decide) ?_
    refine lv_iconst (v := 0) hx hb md_L_wall_16 (by decide) ?_
    exact W.iret (v := 0) hx hb hr (fun t ht hW => ⟨⟨0, (vp_updL ol (Int32.toNatClampNeg 0) (Int32.toInt64 r9)), rfl, (by simp only [fL_wall, hpost]), by have h9 := hP; rw [← ht] at h9; exact h9⟩, hS.F ht⟩) hS.2.2 md_L_wall_17 hlocks

theorem xe_K_corner {dw : Int64} {dt : Int64} {corner : Int32} {turn : Int32} {axis : Int32} {E : String} (h : xK_corner dw dt corner turn axis = .error E) : E = "java/lang/IndexOutOfBoundsException" := by
  unfold xK_corner at h
  repeat' split at h
  all_goals first | (cases h; done) | (cases h; simp)
def ec_L_corner (E : String) : Int32 := if E = "java/lang/IndexOutOfBoundsException" then 1 else 0
theorem ec_L_corner_IOB : ec_L_corner "java/lang/IndexOutOfBoundsException" = 1 := by decide +kernel
def fL_corner (dw : Int64) (dt : Int64) (ol : Nat → Int64) (corner : Int32) (turn : Int32) (axis : Int32) : Int32 × (Nat → Int64) := match xK_corner dw dt corner turn axis with
  | .ok v => (0, vp_updL ol (Int32.toNatClampNeg 0) (v))
  | .error E => (ec_L_corner E, ol)
set_option maxHeartbeats 1000000 in
set_option maxRecDepth 100000 in
theorem ch_L_corner (l : Launch) (dC : Nat → ClassId) (dI : Nat → Nat → Nat) (cC cI cJ : ClassId) (kA : Nat) (xA : Nat) (oA : Nat) (tA : Nat) (uA : Nat) (dA : Nat) (dw : Int64) (dh : Int64) (dt : Int64) (dd : Int64) (bA : Nat) (ol : Nat → Int64) (corner : Int32) (turn : Int32) (axis : Int32) (t1 t2 : Nat) (qs : Nat → Nat) (hl9 : l.stackTraces = false)  : Met l my_L_corner (.codeWith my_L_corner mb_L_corner 6 (some .int) [(0, 11, 14, 15)] :: gw_l) ({ frames := 7, cells := 1, slots := 6, locals := 153 }) (mu_Pc (dC, dI) mC [(cC, .char), (cI, .int), (cJ, .long)] [(kA, .inr (4, [.ref xA, .ref dA, .ref oA, .ref tA, .ref uA])), (dA, .inr (0, [.long dw, .long dh, .long dt, .long dd])), (bA, .inl (cJ, 1, .inr (.inl ol)))] (am_L t1 t2 qs) [.ref kA, .int corner, .int turn, .int axis, .ref bA]) (va_Qi (fun (r : Int32) (u : (Nat → Int64)) => (r, u) = fL_corner dw dt ol corner turn axis) (fun u t => va_P (dC, dI) mC [(kA, .inr (4, [.ref xA, .ref dA, .ref oA, .ref tA, .ref uA])), (dA, .inr (0, [.long dw, .long dh, .long dt, .long dd])), (bA, .inl (cJ, 1, .inr (.inl u)))] t.heap) (mu_A [(kA, .inr (4, [.ref xA, .ref dA, .ref oA, .ref tA, .ref uA])), (dA, .inr (0, [.long dw, .long dh, .long dt, .long dd])), (bA, .inl (cJ, 1, .inr (.inl ol)))])) 1 6 (mu_A [(kA, .inr (4, [.ref xA, .ref dA, .ref oA, .ref tA, .ref uA])), (dA, .inr (0, [.long dw, .long dh, .long dt, .long dd])), (bA, .inl (cJ, 1, .inr (.inl ol)))]) := by
  refine va_MetW (cc := mb_L_corner) (maxL := 6) (ret := some .int) (hh := [(0, 11, 14, 15)]) (by decide) rfl ?_
  intro p e s m args below meth c s₁ B hml hv
  obtain ⟨rfl, hP, hK, hD0, hE⟩ := hv
  have hx := B.exec
  have hb := B.bytes
  have hr := B.returns
  have hts := atoms_spec (ws := (.codeWith my_L_corner mb_L_corner 6 (some .int) [(0, 11, 14, 15)] :: gw_l)) B.pre
  have htab := vx_table (x := my_L_corner) B (hts _ List.mem_cons_self)
  have hg : ∀ w ∈ gw_l, w.before _ s = true := fun w h => hts w (List.mem_cons_of_mem _ h)
  have hown : s.vm.findClass "HingeTablesLaw" = some m.cls := findClass_of_methodNamed B.named
  have hlocks := B.notSynchronized
  have hD := mu_self hD0
  have hS : va_S (mu_A [(kA, .inr (4, [.ref xA, .ref dA, .ref oA, .ref tA, .ref uA])), (dA, .inr (0, [.long dw, .long dh, .long dt, .long dd])), (bA, .inl (cJ, 1, .inr (.inl ol)))]) s.heap s.heap [] := va_S.rf
  generalize hAe : mu_A [(kA, .inr (4, [.ref xA, .ref dA, .ref oA, .ref tA, .ref uA])), (dA, .inr (0, [.long dw, .long dh, .long dt, .long dd])), (bA, .inl (cJ, 1, .inr (.inl ol)))] = A at hD hS ⊢
  have hl := lv_entry ([.ref kA, .int corner, .int turn, .int axis, .ref bA]) (n := 6) (Nat.le_of_ble_eq_true rfl)
  rw [lg_entry_eq]
  generalize (lg_sl ([.ref kA, .int corner, .int turn, .int axis, .ref bA]) ++ List.replicate (6 - (lg_sl ([.ref kA, .int corner, .int turn, .int axis, .ref bA])).length) Slot.unset).toArray = ls at hl ⊢
  have hl : lv_has ls 6 [(0, .ref kA), (1, .int corner), (2, .int turn), (3, .int axis), (4, .ref bA)] := hl
  refine lv_aload hx hb md_L_corner_0 (lv_at hl 4 rfl) ?_
  refine lv_iconst (v := 0) hx hb md_L_corner_2 (by decide) ?_
  refine lv_aload_n hx hb md_L_corner_3 rfl (lv_at hl 0 rfl) ?_
  refine lv_iload_n hx hb md_L_corner_4 rfl (lv_at hl 1 rfl) ?_
  refine lv_iload_n hx hb md_L_corner_5 rfl (lv_at hl 2 rfl) ?_
  refine lv_iload_n hx hb md_L_corner_6 rfl (lv_at hl 3 rfl) ?_
  have hPc := hP.sub (ws' := [(kA, .inr (4, [.ref xA, .ref dA, .ref oA, .ref tA, .ref uA])), (dA, .inr (0, [.long dw, .long dh, .long dt, .long dd]))]) [0, 1] rfl
  refine vx_calll (vx_runV (As := [.int corner, .int turn, .int axis]) (rest := [.int 0, .ref bA]) ⟨hx, hb, hml, hown, hg⟩ (cx_K_corner l dC dI cC cI cJ kA xA oA tA uA dA dw dh dt dd corner turn axis t1 t2 qs hl9 ) (gw_cwV hg wd_501 mv_K_corner rfl rfl ⟨Nat.le_of_ble_eq_true rfl, Nat.le_of_ble_eq_true rfl⟩) (pu_preV (ci := 4) (q0 := 0) am_X_bl hK hPc (pu_e0 am_X_bl hE.1) rfl rfl) rfl rfl hl.1 rfl (lv_room (Nat.le_of_ble_eq_true rfl)) md_L_corner_7 ⟨Nat.le_of_ble_eq_true rfl, Nat.le_of_ble_eq_true rfl⟩) hS (fun _ _ h => h.elim) (fun _ h => h.elim) (fun _ _ h => h.elim) (fun E ce q9 u9 t9 H locs ht hal hpx hpost hz hk hS hcell hcv hcl => ?_) (fun r9 u9 t9 H locs ht hal hpost hB hz hk hS => ?_)
  · have hpost : xK_corner dw dt corner turn axis = .error E := hpost
    have hP := tx_P hP (fun q h => hk q h (fun z => z))
    obtain rfl := xe_K_corner hpost
    refine vx_catch (name := "java/lang/IndexOutOfBoundsException") hown [] ⟨0, 11, 14, 15⟩ [] (htab.trans rfl) (fun z hz => by cases hz) (by decide) (by decide) (hg _ wd_174) (va_Nw.use rfl (ac_IOB hE.1)) hcell hcv hcl ?_
    refine lv_astore (lv' := [(5, .ref q9), (0, .ref kA), (1, .int corner), (2, .int turn), (3, .int axis), (4, .ref bA)]) hx hb md_L_corner_14 hl (by decide) rfl (fun ls hl => ?_)
    refine lv_iconst (v := 1) hx hb md_L_corner_16 (by decide) ?_
    exact W.iret (v := 1) hx hb hr (fun t ht hW => ⟨⟨1, (ol), rfl, (by simp only [fL_corner, hpost, ec_L_corner_IOB]), by have h9 := hP; rw [← ht] at h9; exact h9⟩, hS.F ht⟩) hS.2.2 md_L_corner_17 hlocks
  · have hpost : xK_corner dw dt corner turn axis = .ok r9 := hpost
    have hP := tx_P hP (fun q h => hk q h (fun z => z))
    refine va_last hx hb hK hP hD hS 2 2 rfl rfl (by unfold vp_in; decide) md_L_corner_10 (fun H locs hP hD hS => ?_)
    have hP : va_P (dC, dI) mC [(kA, .inr (4, [.ref xA, .ref dA, .ref oA, .ref tA, .ref uA])), (dA, .inr (0, [.long dw, .long dh, .long dt, .long dd])), (bA, .inl (cJ, 1, .inr (.inl (vp_updL ol (Int32.toNatClampNeg 0) r9))))] H := hP
    have hD : va_D A [(kA, .inr (4, [.ref xA, .ref dA, .ref oA, .ref tA, .ref uA])), (dA, .inr (0, [.long dw, .long dh, .long dt, .long dd])), (bA, .inl (cJ, 1, .inr (.inl (vp_updL ol (Int32.toNatClampNeg 0) r9))))] := hD
    refine lv_goto (tgt := 18) hx hb md_L_corner_11 (by decide) ?_
    refine lv_iconst (v := 0) hx hb md_L_corner_18 (by decide) ?_
    exact W.iret (v := 0) hx hb hr (fun t ht hW => ⟨⟨0, (vp_updL ol (Int32.toNatClampNeg 0) r9), rfl, (by simp only [fL_corner, hpost]), by have h9 := hP; rw [← ht] at h9; exact h9⟩, hS.F ht⟩) hS.2.2 md_L_corner_19 hlocks

theorem xe_K_rows32 {height : Int64} {k : Int32} {E : String} (h : xK_rows32 height k = .error E) : E = "java/lang/IllegalArgumentException" := by
  unfold xK_rows32 at h
  repeat' split at h
  all_goals first | (cases h; done) | (cases h; simp)
def ec_L_rows32 (E : String) : Int32 := if E = "java/lang/IllegalArgumentException" then 1 else 0
theorem ec_L_rows32_IAE : ec_L_rows32 "java/lang/IllegalArgumentException" = 1 := by decide +kernel
def fL_rows32 (ol : Nat → Int64) (height : Int64) (k : Int32) : Int32 × (Nat → Int64) := match xK_rows32 height k with
  | .ok v => (0, vp_updL ol (Int32.toNatClampNeg 0) (Int32.toInt64 v))
  | .error E => (ec_L_rows32 E, ol)
set_option maxHeartbeats 1000000 in
set_option maxRecDepth 100000 in
theorem ch_L_rows32 (l : Launch) (dC : Nat → ClassId) (dI : Nat → Nat → Nat) (cC cI cJ : ClassId) (kA : Nat) (xA : Nat) (dA : Nat) (oA : Nat) (tA : Nat) (uA : Nat) (bA : Nat) (ol : Nat → Int64) (height : Int64) (k : Int32) (t1 t2 : Nat) (qs : Nat → Nat) (hl9 : l.stackTraces = false)  : Met l my_L_rows32 (.codeWith my_L_rows32 mb_L_rows32 6 (some .int) [(0, 11, 14, 21)] :: gw_l) ({ frames := 7, cells := 1, slots := 6, locals := 155 }) (mu_Pc (dC, dI) mC [(cC, .char), (cI, .int), (cJ, .long)] [(kA, .inr (4, [.ref xA, .ref dA, .ref oA, .ref tA, .ref uA])), (bA, .inl (cJ, 1, .inr (.inl ol)))] (am_L t1 t2 qs) [.ref kA, .long height, .int k, .ref bA]) (va_Qi (fun (r : Int32) (u : (Nat → Int64)) => (r, u) = fL_rows32 ol height k) (fun u t => va_P (dC, dI) mC [(kA, .inr (4, [.ref xA, .ref dA, .ref oA, .ref tA, .ref uA])), (bA, .inl (cJ, 1, .inr (.inl u)))] t.heap) (mu_A [(kA, .inr (4, [.ref xA, .ref dA, .ref oA, .ref tA, .ref uA])), (bA, .inl (cJ, 1, .inr (.inl ol)))])) 1 6 (mu_A [(kA, .inr (4, [.ref xA, .ref dA, .ref oA, .ref tA, .ref uA])), (bA, .inl (cJ, 1, .inr (.inl ol)))]) := by
  refine va_MetW (cc := mb_L_rows32) (maxL := 6) (ret := some .int) (hh := [(0, 11, 14, 21)]) (by decide) rfl ?_
  intro p e s m args below meth c s₁ B hml hv
  obtain ⟨rfl, hP, hK, hD0, hE⟩ := hv
  have hx := B.exec
  have hb := B.bytes
  have hr := B.returns
  have hts := atoms_spec (ws := (.codeWith my_L_rows32 mb_L_rows32 6 (some .int) [(0, 11, 14, 21)] :: gw_l)) B.pre
  have htab := vx_table (x := my_L_rows32) B (hts _ List.mem_cons_self)
  have hg : ∀ w ∈ gw_l, w.before _ s = true := fun w h => hts w (List.mem_cons_of_mem _ h)
  have hown : s.vm.findClass "HingeTablesLaw" = some m.cls := findClass_of_methodNamed B.named
  have hlocks := B.notSynchronized
  have hD := mu_self hD0
  have hS : va_S (mu_A [(kA, .inr (4, [.ref xA, .ref dA, .ref oA, .ref tA, .ref uA])), (bA, .inl (cJ, 1, .inr (.inl ol)))]) s.heap s.heap [] := va_S.rf
  generalize hAe : mu_A [(kA, .inr (4, [.ref xA, .ref dA, .ref oA, .ref tA, .ref uA])), (bA, .inl (cJ, 1, .inr (.inl ol)))] = A at hD hS ⊢
  have hl := lv_entry ([.ref kA, .long height, .int k, .ref bA]) (n := 6) (Nat.le_of_ble_eq_true rfl)
  rw [lg_entry_eq]
  generalize (lg_sl ([.ref kA, .long height, .int k, .ref bA]) ++ List.replicate (6 - (lg_sl ([.ref kA, .long height, .int k, .ref bA])).length) Slot.unset).toArray = ls at hl ⊢
  have hl : lv_has ls 6 [(0, .ref kA), (1, .long height), (3, .int k), (4, .ref bA)] := hl
  refine lv_aload hx hb md_L_rows32_0 (lv_at hl 3 rfl) ?_
  refine lv_iconst (v := 0) hx hb md_L_rows32_2 (by decide) ?_
  refine lv_aload_n hx hb md_L_rows32_3 rfl (lv_at hl 0 rfl) ?_
  refine lv_lload_n hx hb md_L_rows32_4 rfl (lv_at hl 1 rfl) ?_
  refine lv_iload_n hx hb md_L_rows32_5 rfl (lv_at hl 2 rfl) ?_
  have hPc := hP.sub (ws' := [(kA, .inr (4, [.ref xA, .ref dA, .ref oA, .ref tA, .ref uA]))]) [0] rfl
  refine vx_calli (vx_runV (As := [.long height, .int k]) (rest := [.int 0, .ref bA]) ⟨hx, hb, hml, hown, hg⟩ (cx_K_rows32 l dC dI cC cI cJ kA xA dA oA tA uA height k t1 t2 qs hl9 ) (gw_cwV hg wd_514 mv_K_rows32 rfl rfl ⟨Nat.le_of_ble_eq_true rfl, Nat.le_of_ble_eq_true rfl⟩) (pu_preV (ci := 4) (q0 := 0) am_X_bl hK hPc (pu_e0 am_X_bl hE.1) rfl rfl) rfl rfl hl.1 rfl (lv_room (Nat.le_of_ble_eq_true rfl)) md_L_rows32_6 ⟨Nat.le_of_ble_eq_true rfl, Nat.le_of_ble_eq_true rfl⟩) hS (fun _ _ h => h.elim) (fun _ h => h.elim) (fun _ _ h => h.elim) (fun E ce q9 u9 t9 H locs ht hal hpx hpost hz hk hS hcell hcv hcl => ?_) (fun r9 u9 t9 H locs ht hal hpost hB hz hk hS => ?_)
  · have hpost : xK_rows32 height k = .error E := hpost
    have hP := tx_P hP (fun q h => hk q h (fun z => z))
    obtain rfl := xe_K_rows32 hpost
    refine vx_catch (name := "java/lang/IllegalArgumentException") hown [] ⟨0, 11, 14, 21⟩ [] (htab.trans rfl) (fun z hz => by cases hz) (by decide) (by decide) (hg _ wd_281) (va_Nw.use rfl (ac_IAE hE.1)) hcell hcv hcl ?_
    refine lv_astore (lv' := [(5, .ref q9), (0, .ref kA), (1, .long height), (3, .int k), (4, .ref bA)]) hx hb md_L_rows32_14 hl (by decide) rfl (fun ls hl => ?_)
    refine lv_iconst (v := 1) hx hb md_L_rows32_16 (by decide) ?_
    exact W.iret (v := 1) hx hb hr (fun t ht hW => ⟨⟨1, (ol), rfl, (by simp only [fL_rows32, hpost, ec_L_rows32_IAE]), by have h9 := hP; rw [← ht] at h9; exact h9⟩, hS.F ht⟩) hS.2.2 md_L_rows32_17 hlocks
  · have hpost : xK_rows32 height k = .ok r9 := hpost
    have hP := tx_P hP (fun q h => hk q h (fun z => z))
    refine lv_i2l (v := Int32.toInt64 r9) hx hb md_L_rows32_9 rfl ?_
    refine va_last hx hb hK hP hD hS 1 2 rfl rfl (by unfold vp_in; decide) md_L_rows32_10 (fun H locs hP hD hS => ?_)
    have hP : va_P (dC, dI) mC [(kA, .inr (4, [.ref xA, .ref dA, .ref oA, .ref tA, .ref uA])), (bA, .inl (cJ, 1, .inr (.inl (vp_updL ol (Int32.toNatClampNeg 0) (Int32.toInt64 r9)))))] H := hP
    have hD : va_D A [(kA, .inr (4, [.ref xA, .ref dA, .ref oA, .ref tA, .ref uA])), (bA, .inl (cJ, 1, .inr (.inl (vp_updL ol (Int32.toNatClampNeg 0) (Int32.toInt64 r9)))))] := hD
    refine lv_goto (tgt := 18) hx hb md_L_rows32_11 (by decide) ?_
    refine lv_iconst (v := 0) hx hb md_L_rows32_18 (by decide) ?_
    exact W.iret (v := 0) hx hb hr (fun t ht hW => ⟨⟨0, (vp_updL ol (Int32.toNatClampNeg 0) (Int32.toInt64 r9)), rfl, (by simp only [fL_rows32, hpost]), by have h9 := hP; rw [← ht] at h9; exact h9⟩, hS.F ht⟩) hS.2.2 md_L_rows32_19 hlocks
