def gT_fillRow (tl : Nat → Int32) (tn : Nat → Int32) (xl : Nat → Int32) (xz : Int32) (row : Int32) (start : Int32) : Nat → (Nat → Int32) → Int32 → Nat → Int32 × (Nat → Int32) × (Nat → Int32)
  | 0, _, _, _ => (0, (fun _ => 0), (fun _ => 0))
  | n + 1, tv, pos, k => if (fK_numbersBehind (fS_at xl xz start)) ≤ (nI k) then (pos, upd tl (Int32.toNatClampNeg row) (vp_nar .char (fS_at xl xz start)), tv) else (if (nI k) ≤ 0 then (if 0 ≤ ((fT_fillNumber (upd tl (Int32.toNatClampNeg row) (vp_nar .char (fS_at xl xz start))) tv xl xz row (nI k) pos).1) then (gT_fillRow tl tn xl xz row start n ((fT_fillNumber (upd tl (Int32.toNatClampNeg row) (vp_nar .char (fS_at xl xz start))) tv xl xz row (nI k) pos).2) ((fT_fillNumber (upd tl (Int32.toNatClampNeg row) (vp_nar .char (fS_at xl xz start))) tv xl xz row (nI k) pos).1) (k + 1)) else ((fT_fillNumber (upd tl (Int32.toNatClampNeg row) (vp_nar .char (fS_at xl xz start))) tv xl xz row (nI k) pos).1, upd tl (Int32.toNatClampNeg row) (vp_nar .char (fS_at xl xz start)), (fT_fillNumber (upd tl (Int32.toNatClampNeg row) (vp_nar .char (fS_at xl xz start))) tv xl xz row (nI k) pos).2)) else (if (fS_at xl xz pos) = 44 then (if 0 ≤ ((fT_fillNumber (upd tl (Int32.toNatClampNeg row) (vp_nar .char (fS_at xl xz start))) tv xl xz row (nI k) (pos + 1)).1) then (gT_fillRow tl tn xl xz row start n ((fT_fillNumber (upd tl (Int32.toNatClampNeg row) (vp_nar .char (fS_at xl xz start))) tv xl xz row (nI k) (pos + 1)).2) ((fT_fillNumber (upd tl (Int32.toNatClampNeg row) (vp_nar .char (fS_at xl xz start))) tv xl xz row (nI k) (pos + 1)).1) (k + 1)) else ((fT_fillNumber (upd tl (Int32.toNatClampNeg row) (vp_nar .char (fS_at xl xz start))) tv xl xz row (nI k) (pos + 1)).1, upd tl (Int32.toNatClampNeg row) (vp_nar .char (fS_at xl xz start)), (fT_fillNumber (upd tl (Int32.toNatClampNeg row) (vp_nar .char (fS_at xl xz start))) tv xl xz row (nI k) (pos + 1)).2)) else (fT_fault pos, upd tl (Int32.toNatClampNeg row) (vp_nar .char (fS_at xl xz start)), tv)))
def fT_fillRow (tl : Nat → Int32) (tn : Nat → Int32) (xl : Nat → Int32) (xz : Int32) (row : Int32) (start : Int32) : Int32 × (Nat → Int32) × (Nat → Int32) := if (fK_numbersBehind (fS_at xl xz start)) = 0 then (fT_fault start, tl, tn) else (gT_fillRow tl tn xl xz row start 7 tn (start + 1) 0)
set_option maxHeartbeats 1000000 in
set_option maxRecDepth 100000 in
theorem ct_T_fillRow (l : Launch) (dC : Nat → ClassId) (dI : Nat → Nat → Nat) (cC cI cJ : ClassId) (tA : Nat) (tL : Nat) (tN : Nat) (tS : Nat) (tl : Nat → Int32) (tn : Nat → Int32) (ts : Nat → Int32) (tz : Int32) (xA : Nat) (xL : Nat) (xl : Nat → Int32) (xz : Int32) (row : Int32) (start : Int32)  (hxp : ∀ q : Int32, ¬ q < 0 → ¬ xz ≤ q → vp_in q 300) (hch : ∀ j, narrow .char (.int (xl j)) = .int (xl j)) (hrow : vp_in row 16) (hrn : ∀ (x : Int32) (k : Nat), k < 6 → x = nI k → vp_in (row * 6 + x) 96) : Met l my_T_fillRow (.code my_T_fillRow mb_T_fillRow 8 (some .int) :: gw_l) ({ frames := 3, cells := 0, slots := 0, locals := 72 }) (mu_Pc (dC, dI) mC [(cC, .char), (cI, .int), (cJ, .long)] [(tA, .inr (2, [.ref tL, .ref tN, .ref tS, .int tz])), (tL, .inl (cC, 16, .inl tl)), (tN, .inl (cI, 96, .inl tn)), (tS, .inl (cI, 16, .inl ts)), (xA, .inr (3, [.ref xL, .int xz])), (xL, .inl (cC, 300, .inl xl))] nw_all [.ref tA, .ref xA, .int row, .int start]) (va_Qi (fun (r : Int32) (u : (Nat → Int32) × (Nat → Int32)) => (r, u) = fT_fillRow tl tn xl xz row start) (fun u t => va_P (dC, dI) mC [(tA, .inr (2, [.ref tL, .ref tN, .ref tS, .int tz])), (tL, .inl (cC, 16, .inl u.1)), (tN, .inl (cI, 96, .inl u.2)), (tS, .inl (cI, 16, .inl ts)), (xA, .inr (3, [.ref xL, .int xz])), (xL, .inl (cC, 300, .inl xl))] t.heap) (mu_A [(tA, .inr (2, [.ref tL, .ref tN, .ref tS, .int tz])), (tL, .inl (cC, 16, .inl tl)), (tN, .inl (cI, 96, .inl tn)), (tS, .inl (cI, 16, .inl ts)), (xA, .inr (3, [.ref xL, .int xz])), (xL, .inl (cC, 300, .inl xl))])) 0 0 (mu_A [(tA, .inr (2, [.ref tL, .ref tN, .ref tS, .int tz])), (tL, .inl (cC, 16, .inl tl)), (tN, .inl (cI, 96, .inl tn)), (tS, .inl (cI, 16, .inl ts)), (xA, .inr (3, [.ref xL, .int xz])), (xL, .inl (cC, 300, .inl xl))]) := by
  refine Met.ofW (cc := mb_T_fillRow) (maxL := 8) (ret := (some .int)) (by decide) rfl ?_
  intro p e s m args below meth c s₁ B hml hv
  obtain ⟨rfl, hP, hK, hD0, hE⟩ := hv
  have hx := B.exec
  have hb := B.bytes
  have hr := B.returns
  have hts := atoms_spec (ws := (.code my_T_fillRow mb_T_fillRow 8 (some .int) :: gw_l)) B.pre
  have hg : ∀ w ∈ gw_l, w.before _ s = true := fun w h => hts w (List.mem_cons_of_mem _ h)
  have hown : s.vm.findClass mR_T = some m.cls := findClass_of_methodNamed B.named
  have hlocks := B.notSynchronized
  have hD := mu_self hD0
  have hS : va_S (mu_A [(tA, .inr (2, [.ref tL, .ref tN, .ref tS, .int tz])), (tL, .inl (cC, 16, .inl tl)), (tN, .inl (cI, 96, .inl tn)), (tS, .inl (cI, 16, .inl ts)), (xA, .inr (3, [.ref xL, .int xz])), (xL, .inl (cC, 300, .inl xl))]) s.heap s.heap [] := va_S.rf
  generalize hAe : mu_A [(tA, .inr (2, [.ref tL, .ref tN, .ref tS, .int tz])), (tL, .inl (cC, 16, .inl tl)), (tN, .inl (cI, 96, .inl tn)), (tS, .inl (cI, 16, .inl ts)), (xA, .inr (3, [.ref xL, .int xz])), (xL, .inl (cC, 300, .inl xl))] = A at hD hS ⊢
  have hl := lv_entry ([.ref tA, .ref xA, .int row, .int start]) (n := 8) (Nat.le_of_ble_eq_true rfl)
  rw [lg_entry_eq]
  generalize (lg_sl ([.ref tA, .ref xA, .int row, .int start]) ++ List.replicate (8 - (lg_sl ([.ref tA, .ref xA, .int row, .int start])).length) Slot.unset).toArray = ls at hl ⊢
  have hl : lv_has ls 8 [(0, .ref tA), (1, .ref xA), (2, .int row), (3, .int start)] := hl
  have loop : ∀ (n : Nat) (tv : Nat → Int32) (pos : Int32) (k : Nat) (H : Heap) (locs : List Loc) (ls : Array Slot), (k ≤ 6) → 6 - k < n → fT_fillRow tl tn xl xz row start = gT_fillRow tl tn xl xz row start n tv pos k → va_P (dC, dI) mC [(tA, .inr (2, [.ref tL, .ref tN, .ref tS, .int tz])), (tL, .inl (cC, 16, .inl (upd tl (Int32.toNatClampNeg row) (vp_nar .char (fS_at xl xz start))))), (tN, .inl (cI, 96, .inl tv)), (tS, .inl (cI, 16, .inl ts)), (xA, .inr (3, [.ref xL, .int xz])), (xL, .inl (cC, 300, .inl xl))] H → va_D A [(tA, .inr (2, [.ref tL, .ref tN, .ref tS, .int tz])), (tL, .inl (cC, 16, .inl (upd tl (Int32.toNatClampNeg row) (vp_nar .char (fS_at xl xz start))))), (tN, .inl (cI, 96, .inl tv)), (tS, .inl (cI, 16, .inl ts)), (xA, .inr (3, [.ref xL, .int xz])), (xL, .inl (cC, 300, .inl xl))] → va_S A s.heap H locs → lv_has ls 8 [(0, .ref tA), (1, .ref xA), (2, .int row), (3, .int start), (4, .int (fS_at xl xz start)), (5, .int (fK_numbersBehind (fS_at xl xz start))), (6, .int pos), (7, .int (nI k))] → W p l e (headSpec (.code my_T_fillRow mb_T_fillRow 8 (some .int) :: gw_l) ({ frames := 3, cells := 0, slots := 0, locals := 72 })).room s m ([.ref tA, .ref xA, .int row, .int start] : List Value).toArray below meth c H locs 0 0 (MQ below (va_Qi (fun (r : Int32) (u : (Nat → Int32) × (Nat → Int32)) => (r, u) = fT_fillRow tl tn xl xz row start) (fun u t => va_P (dC, dI) mC [(tA, .inr (2, [.ref tL, .ref tN, .ref tS, .int tz])), (tL, .inl (cC, 16, .inl u.1)), (tN, .inl (cI, 96, .inl u.2)), (tS, .inl (cI, 16, .inl ts)), (xA, .inr (3, [.ref xL, .int xz])), (xL, .inl (cC, 300, .inl xl))] t.heap) A) ([.ref tA, .ref xA, .int row, .int start] : List Value).toArray s 0 0 A) (F0 m 40 ls []) := by
    intro n
    induction n with
    | zero =>
      intro tv pos k H locs ls h1 hm
      exact absurd hm (Nat.not_lt_zero _)
    | succ n ih =>
      intro tv pos k H locs ls h1 hm hv hP hD hS hl
      refine lv_iload hx hb md_T_fillRow_40 (lv_at hl 7 rfl) ?_
      refine lv_iload hx hb md_T_fillRow_42 (lv_at hl 5 rfl) ?_
      refine lv_icmp_ge (tgt := 98) hx hb md_T_fillRow_44 (by decide) (fun c5 => ?_) (fun c5 => ?_)
      · refine lv_iload hx hb md_T_fillRow_98 (lv_at hl 6 rfl) ?_
        exact W.iret (v := pos) hx hb hr (fun t ht hW => ⟨⟨pos, (upd tl (Int32.toNatClampNeg row) (vp_nar .char (fS_at xl xz start)), tv), rfl, (by rw [hv, gT_fillRow, if_pos c5]), by have h9 := hP; rw [← ht] at h9; exact h9⟩, hS.F ht⟩) hS.2.2 md_T_fillRow_100 hlocks
      · obtain ⟨wN, hw6, hwe⟩ := nb_le (fS_at xl xz start)
        have hlt : k < wN := nx_lt (by omega) (by omega) (by rw [← hwe]; exact c5)
        refine lv_iload hx hb md_T_fillRow_47 (lv_at hl 7 rfl) ?_
        refine lv_if_le (tgt := 72) hx hb md_T_fillRow_49 (by decide) (fun c6 => ?_) (fun c6 => ?_)
        · refine lv_aload_n hx hb md_T_fillRow_72 rfl (lv_at hl 0 rfl) ?_
          refine lv_aload_n hx hb md_T_fillRow_73 rfl (lv_at hl 1 rfl) ?_
          refine lv_iload_n hx hb md_T_fillRow_74 rfl (lv_at hl 2 rfl) ?_
          refine lv_iload hx hb md_T_fillRow_75 (lv_at hl 7 rfl) ?_
          refine lv_iload hx hb md_T_fillRow_77 (lv_at hl 6 rfl) ?_
          have hPc7 := hP.sub (ws' := [(tA, .inr (2, [.ref tL, .ref tN, .ref tS, .int tz])), (tL, .inl (cC, 16, .inl (upd tl (Int32.toNatClampNeg row) (vp_nar .char (fS_at xl xz start))))), (tN, .inl (cI, 96, .inl tv)), (tS, .inl (cI, 16, .inl ts)), (xA, .inr (3, [.ref xL, .int xz])), (xL, .inl (cC, 300, .inl xl))]) [0, 1, 2, 3, 4, 5] rfl
          have hDc8 := hD.sub (ws' := [(tA, .inr (2, [.ref tL, .ref tN, .ref tS, .int tz])), (tL, .inl (cC, 16, .inl (upd tl (Int32.toNatClampNeg row) (vp_nar .char (fS_at xl xz start))))), (tN, .inl (cI, 96, .inl tv)), (tS, .inl (cI, 16, .inl ts)), (xA, .inr (3, [.ref xL, .int xz])), (xL, .inl (cC, 300, .inl xl))]) [0, 1, 2, 3, 4, 5] (by decide) rfl
          have hFc9 := mu_free (wc := [(tA, .inr (2, [.ref tL, .ref tN, .ref tS, .int tz])), (tL, .inl (cC, 16, .inl (upd tl (Int32.toNatClampNeg row) (vp_nar .char (fS_at xl xz start))))), (tN, .inl (cI, 96, .inl tv)), (tS, .inl (cI, 16, .inl ts)), (xA, .inr (3, [.ref xL, .int xz])), (xL, .inl (cC, 300, .inl xl))]) hD [0, 1, 2, 3, 4, 5] rfl
          refine va_calli (va_runV (As := [.ref xA, .int row, .int (nI k), .int pos]) (rest := []) ⟨hx, hb, hml, hown, hg⟩ (ct_T_fillNumber l dC dI cC cI cJ tA tL tN tS (upd tl (Int32.toNatClampNeg row) (vp_nar .char (fS_at xl xz start))) tv ts tz xA xL xl xz row (nI k) pos hxp hch hrow (hrn _ k (by omega) rfl) (nx_m hrn)) (gw_cwV hg wd_151 mv_T_fillNumber rfl rfl ⟨Nat.le_of_ble_eq_true rfl, Nat.le_of_ble_eq_true rfl⟩) (mu_preV (ci := 2) (q0 := 0) pu_blT hK hPc7 hDc8 pu_e1 rfl rfl) rfl rfl hl.1 rfl (lv_room (Nat.le_of_ble_eq_true rfl)) md_T_fillRow_79 ⟨Nat.zero_le _, Nat.zero_le _⟩) hS (fun q _ h => hFc9 q h) hFc9 (fun r9 u9 t9 H locs ht hvm hw hB hz1 hk1 hS => ?_)
          have hw : (r9, u9) = (fT_fillNumber (upd tl (Int32.toNatClampNeg row) (vp_nar .char (fS_at xl xz start))) tv xl xz row (nI k) pos) := hw
          have er : r9 = (fT_fillNumber (upd tl (Int32.toNatClampNeg row) (vp_nar .char (fS_at xl xz start))) tv xl xz row (nI k) pos).1 := by rw [← hw]
          have hw : u9 = (fT_fillNumber (upd tl (Int32.toNatClampNeg row) (vp_nar .char (fS_at xl xz start))) tv xl xz row (nI k) pos).2 := by rw [← hw]
          subst hw
          subst er
          have hB : va_P (dC, dI) mC [(tA, .inr (2, [.ref tL, .ref tN, .ref tS, .int tz])), (tL, .inl (cC, 16, .inl (upd tl (Int32.toNatClampNeg row) (vp_nar .char (fS_at xl xz start))))), (tN, .inl (cI, 96, .inl ((fT_fillNumber (upd tl (Int32.toNatClampNeg row) (vp_nar .char (fS_at xl xz start))) tv xl xz row (nI k) pos).2))), (tS, .inl (cI, 16, .inl ts)), (xA, .inr (3, [.ref xL, .int xz])), (xL, .inl (cC, 300, .inl xl))] H := by rw [← ht]; exact hB
          have hP := mu_join (ws' := [(tA, .inr (2, [.ref tL, .ref tN, .ref tS, .int tz])), (tL, .inl (cC, 16, .inl (upd tl (Int32.toNatClampNeg row) (vp_nar .char (fS_at xl xz start))))), (tN, .inl (cI, 96, .inl ((fT_fillNumber (upd tl (Int32.toNatClampNeg row) (vp_nar .char (fS_at xl xz start))) tv xl xz row (nI k) pos).2))), (tS, .inl (cI, 16, .inl ts)), (xA, .inr (3, [.ref xL, .int xz])), (xL, .inl (cC, 300, .inl xl))]) hP hD [0, 1, 2, 3, 4, 5] [.inl 0, .inl 1, .inl 2, .inl 3, .inl 4, .inl 5] rfl rfl rfl hk1 hB
          have hD : va_D A [(tA, .inr (2, [.ref tL, .ref tN, .ref tS, .int tz])), (tL, .inl (cC, 16, .inl (upd tl (Int32.toNatClampNeg row) (vp_nar .char (fS_at xl xz start))))), (tN, .inl (cI, 96, .inl ((fT_fillNumber (upd tl (Int32.toNatClampNeg row) (vp_nar .char (fS_at xl xz start))) tv xl xz row (nI k) pos).2))), (tS, .inl (cI, 16, .inl ts)), (xA, .inr (3, [.ref xL, .int xz])), (xL, .inl (cC, 300, .inl xl))] := mu_D (ws := [(tA, .inr (2, [.ref tL, .ref tN, .ref tS, .int tz])), (tL, .inl (cC, 16, .inl (upd tl (Int32.toNatClampNeg row) (vp_nar .char (fS_at xl xz start))))), (tN, .inl (cI, 96, .inl tv)), (tS, .inl (cI, 16, .inl ts)), (xA, .inr (3, [.ref xL, .int xz])), (xL, .inl (cC, 300, .inl xl))]) rfl hD
          refine lv_istore (lv' := [(6, .int ((fT_fillNumber (upd tl (Int32.toNatClampNeg row) (vp_nar .char (fS_at xl xz start))) tv xl xz row (nI k) pos).1)), (0, .ref tA), (1, .ref xA), (2, .int row), (3, .int start), (4, .int (fS_at xl xz start)), (5, .int (fK_numbersBehind (fS_at xl xz start))), (7, .int (nI k))]) hx hb md_T_fillRow_82 hl (by decide) rfl (fun ls hl => ?_)
          refine lv_iload hx hb md_T_fillRow_84 (lv_at hl 0 rfl) ?_
          refine lv_if_ge (tgt := 92) hx hb md_T_fillRow_86 (by decide) (fun c10 => ?_) (fun c10 => ?_)
          · refine lv_iinc (v := nI (k + 1)) (lv' := [(7, .int (nI (k + 1))), (6, .int ((fT_fillNumber (upd tl (Int32.toNatClampNeg row) (vp_nar .char (fS_at xl xz start))) tv xl xz row (nI k) pos).1)), (0, .ref tA), (1, .ref xA), (2, .int row), (3, .int start), (4, .int (fS_at xl xz start)), (5, .int (fK_numbersBehind (fS_at xl xz start)))]) hx hb md_T_fillRow_92 hl (k := 7) rfl (by rw [nI_succ]; rfl) (by decide) rfl (fun ls hl => ?_)
            refine lv_goto (tgt := 40) hx hb md_T_fillRow_95 (by decide) ?_
            exact ih ((fT_fillNumber (upd tl (Int32.toNatClampNeg row) (vp_nar .char (fS_at xl xz start))) tv xl xz row (nI k) pos).2) ((fT_fillNumber (upd tl (Int32.toNatClampNeg row) (vp_nar .char (fS_at xl xz start))) tv xl xz row (nI k) pos).1) (k + 1) _ _ ls (by omega) (by omega) (by rw [hv, gT_fillRow, if_neg c5, if_pos c6, if_pos c10]) hP hD hS (lv_sub hl [2, 3, 4, 5, 6, 7, 1, 0] rfl)
          · refine lv_iload hx hb md_T_fillRow_89 (lv_at hl 0 rfl) ?_
            exact W.iret (v := (fT_fillNumber (upd tl (Int32.toNatClampNeg row) (vp_nar .char (fS_at xl xz start))) tv xl xz row (nI k) pos).1) hx hb hr (fun t ht hW => ⟨⟨(fT_fillNumber (upd tl (Int32.toNatClampNeg row) (vp_nar .char (fS_at xl xz start))) tv xl xz row (nI k) pos).1, (upd tl (Int32.toNatClampNeg row) (vp_nar .char (fS_at xl xz start)), (fT_fillNumber (upd tl (Int32.toNatClampNeg row) (vp_nar .char (fS_at xl xz start))) tv xl xz row (nI k) pos).2), rfl, (by rw [hv, gT_fillRow, if_neg c5, if_pos c6, if_neg c10]), by have h9 := hP; rw [← ht] at h9; exact h9⟩, hS.F ht⟩) hS.2.2 md_T_fillRow_91 hlocks
        · refine lv_aload_n hx hb md_T_fillRow_52 rfl (lv_at hl 1 rfl) ?_
          refine lv_iload hx hb md_T_fillRow_53 (lv_at hl 6 rfl) ?_
          have hPc11 := hP.sub (ws' := [(xA, .inr (3, [.ref xL, .int xz])), (xL, .inl (cC, 300, .inl xl))]) [4, 5] rfl
          refine pu_i (W.runV (As := [.int pos]) (rest := []) ⟨hx, hb, hml, hown, hg⟩ (ct_S_at l dC dI cC cI cJ xA xL xl xz pos (hxp _) hch) (gw_cwV hg wd_137 mv_S_at rfl rfl ⟨Nat.le_of_ble_eq_true rfl, Nat.le_of_ble_eq_true rfl⟩) (pu_preV (ci := 3) (q0 := 0) pu_blT hK hPc11 pu_e1 rfl rfl) rfl rfl hl.1 rfl (lv_room (Nat.le_of_ble_eq_true rfl)) md_T_fillRow_55 ⟨Nat.zero_le _, Nat.zero_le _⟩) ?_
          refine lv_bipush (v := 44) hx hb md_T_fillRow_58 (by decide) ?_
          refine lv_icmp_eq (tgt := 69) hx hb md_T_fillRow_60 (by decide) (fun c12 => ?_) (fun c12 => ?_)
          · refine lv_iinc (v := pos + 1) (lv' := [(6, .int (pos + 1)), (0, .ref tA), (1, .ref xA), (2, .int row), (3, .int start), (4, .int (fS_at xl xz start)), (5, .int (fK_numbersBehind (fS_at xl xz start))), (7, .int (nI k))]) hx hb md_T_fillRow_69 hl (k := 6) rfl rfl (by decide) rfl (fun ls hl => ?_)
            refine lv_aload_n hx hb md_T_fillRow_72 rfl (lv_at hl 1 rfl) ?_
            refine lv_aload_n hx hb md_T_fillRow_73 rfl (lv_at hl 2 rfl) ?_
            refine lv_iload_n hx hb md_T_fillRow_74 rfl (lv_at hl 3 rfl) ?_
            refine lv_iload hx hb md_T_fillRow_75 (lv_at hl 7 rfl) ?_
            refine lv_iload hx hb md_T_fillRow_77 (lv_at hl 0 rfl) ?_
            have hPc13 := hP.sub (ws' := [(tA, .inr (2, [.ref tL, .ref tN, .ref tS, .int tz])), (tL, .inl (cC, 16, .inl (upd tl (Int32.toNatClampNeg row) (vp_nar .char (fS_at xl xz start))))), (tN, .inl (cI, 96, .inl tv)), (tS, .inl (cI, 16, .inl ts)), (xA, .inr (3, [.ref xL, .int xz])), (xL, .inl (cC, 300, .inl xl))]) [0, 1, 2, 3, 4, 5] rfl
            have hDc14 := hD.sub (ws' := [(tA, .inr (2, [.ref tL, .ref tN, .ref tS, .int tz])), (tL, .inl (cC, 16, .inl (upd tl (Int32.toNatClampNeg row) (vp_nar .char (fS_at xl xz start))))), (tN, .inl (cI, 96, .inl tv)), (tS, .inl (cI, 16, .inl ts)), (xA, .inr (3, [.ref xL, .int xz])), (xL, .inl (cC, 300, .inl xl))]) [0, 1, 2, 3, 4, 5] (by decide) rfl
            have hFc15 := mu_free (wc := [(tA, .inr (2, [.ref tL, .ref tN, .ref tS, .int tz])), (tL, .inl (cC, 16, .inl (upd tl (Int32.toNatClampNeg row) (vp_nar .char (fS_at xl xz start))))), (tN, .inl (cI, 96, .inl tv)), (tS, .inl (cI, 16, .inl ts)), (xA, .inr (3, [.ref xL, .int xz])), (xL, .inl (cC, 300, .inl xl))]) hD [0, 1, 2, 3, 4, 5] rfl
            refine va_calli (va_runV (As := [.ref xA, .int row, .int (nI k), .int (pos + 1)]) (rest := []) ⟨hx, hb, hml, hown, hg⟩ (ct_T_fillNumber l dC dI cC cI cJ tA tL tN tS (upd tl (Int32.toNatClampNeg row) (vp_nar .char (fS_at xl xz start))) tv ts tz xA xL xl xz row (nI k) (pos + 1) hxp hch hrow (hrn _ k (by omega) rfl) (nx_m hrn)) (gw_cwV hg wd_151 mv_T_fillNumber rfl rfl ⟨Nat.le_of_ble_eq_true rfl, Nat.le_of_ble_eq_true rfl⟩) (mu_preV (ci := 2) (q0 := 0) pu_blT hK hPc13 hDc14 pu_e1 rfl rfl) rfl rfl hl.1 rfl (lv_room (Nat.le_of_ble_eq_true rfl)) md_T_fillRow_79 ⟨Nat.zero_le _, Nat.zero_le _⟩) hS (fun q _ h => hFc15 q h) hFc15 (fun r9 u9 t9 H locs ht hvm hw hB hz1 hk1 hS => ?_)
            have hw : (r9, u9) = (fT_fillNumber (upd tl (Int32.toNatClampNeg row) (vp_nar .char (fS_at xl xz start))) tv xl xz row (nI k) (pos + 1)) := hw
            have er : r9 = (fT_fillNumber (upd tl (Int32.toNatClampNeg row) (vp_nar .char (fS_at xl xz start))) tv xl xz row (nI k) (pos + 1)).1 := by rw [← hw]
            have hw : u9 = (fT_fillNumber (upd tl (Int32.toNatClampNeg row) (vp_nar .char (fS_at xl xz start))) tv xl xz row (nI k) (pos + 1)).2 := by rw [← hw]
            subst hw
            subst er
            have hB : va_P (dC, dI) mC [(tA, .inr (2, [.ref tL, .ref tN, .ref tS, .int tz])), (tL, .inl (cC, 16, .inl (upd tl (Int32.toNatClampNeg row) (vp_nar .char (fS_at xl xz start))))), (tN, .inl (cI, 96, .inl ((fT_fillNumber (upd tl (Int32.toNatClampNeg row) (vp_nar .char (fS_at xl xz start))) tv xl xz row (nI k) (pos + 1)).2))), (tS, .inl (cI, 16, .inl ts)), (xA, .inr (3, [.ref xL, .int xz])), (xL, .inl (cC, 300, .inl xl))] H := by rw [← ht]; exact hB
            have hP := mu_join (ws' := [(tA, .inr (2, [.ref tL, .ref tN, .ref tS, .int tz])), (tL, .inl (cC, 16, .inl (upd tl (Int32.toNatClampNeg row) (vp_nar .char (fS_at xl xz start))))), (tN, .inl (cI, 96, .inl ((fT_fillNumber (upd tl (Int32.toNatClampNeg row) (vp_nar .char (fS_at xl xz start))) tv xl xz row (nI k) (pos + 1)).2))), (tS, .inl (cI, 16, .inl ts)), (xA, .inr (3, [.ref xL, .int xz])), (xL, .inl (cC, 300, .inl xl))]) hP hD [0, 1, 2, 3, 4, 5] [.inl 0, .inl 1, .inl 2, .inl 3, .inl 4, .inl 5] rfl rfl rfl hk1 hB
            have hD : va_D A [(tA, .inr (2, [.ref tL, .ref tN, .ref tS, .int tz])), (tL, .inl (cC, 16, .inl (upd tl (Int32.toNatClampNeg row) (vp_nar .char (fS_at xl xz start))))), (tN, .inl (cI, 96, .inl ((fT_fillNumber (upd tl (Int32.toNatClampNeg row) (vp_nar .char (fS_at xl xz start))) tv xl xz row (nI k) (pos + 1)).2))), (tS, .inl (cI, 16, .inl ts)), (xA, .inr (3, [.ref xL, .int xz])), (xL, .inl (cC, 300, .inl xl))] := mu_D (ws := [(tA, .inr (2, [.ref tL, .ref tN, .ref tS, .int tz])), (tL, .inl (cC, 16, .inl (upd tl (Int32.toNatClampNeg row) (vp_nar .char (fS_at xl xz start))))), (tN, .inl (cI, 96, .inl tv)), (tS, .inl (cI, 16, .inl ts)), (xA, .inr (3, [.ref xL, .int xz])), (xL, .inl (cC, 300, .inl xl))]) rfl hD
            refine lv_istore (lv' := [(6, .int ((fT_fillNumber (upd tl (Int32.toNatClampNeg row) (vp_nar .char (fS_at xl xz start))) tv xl xz row (nI k) (pos + 1)).1)), (0, .ref tA), (1, .ref xA), (2, .int row), (3, .int start), (4, .int (fS_at xl xz start)), (5, .int (fK_numbersBehind (fS_at xl xz start))), (7, .int (nI k))]) hx hb md_T_fillRow_82 hl (by decide) rfl (fun ls hl => ?_)
            refine lv_iload hx hb md_T_fillRow_84 (lv_at hl 0 rfl) ?_
            refine lv_if_ge (tgt := 92) hx hb md_T_fillRow_86 (by decide) (fun c16 => ?_) (fun c16 => ?_)
            · refine lv_iinc (v := nI (k + 1)) (lv' := [(7, .int (nI (k + 1))), (6, .int ((fT_fillNumber (upd tl (Int32.toNatClampNeg row) (vp_nar .char (fS_at xl xz start))) tv xl xz row (nI k) (pos + 1)).1)), (0, .ref tA), (1, .ref xA), (2, .int row), (3, .int start), (4, .int (fS_at xl xz start)), (5, .int (fK_numbersBehind (fS_at xl xz start)))]) hx hb md_T_fillRow_92 hl (k := 7) rfl (by rw [nI_succ]; rfl) (by decide) rfl (fun ls hl => ?_)
              refine lv_goto (tgt := 40) hx hb md_T_fillRow_95 (by decide) ?_
              exact ih ((fT_fillNumber (upd tl (Int32.toNatClampNeg row) (vp_nar .char (fS_at xl xz start))) tv xl xz row (nI k) (pos + 1)).2) ((fT_fillNumber (upd tl (Int32.toNatClampNeg row) (vp_nar .char (fS_at xl xz start))) tv xl xz row (nI k) (pos + 1)).1) (k + 1) _ _ ls (by omega) (by omega) (by rw [hv, gT_fillRow, if_neg c5, if_neg c6, if_pos c12, if_pos c16]) hP hD hS (lv_sub hl [2, 3, 4, 5, 6, 7, 1, 0] rfl)
            · refine lv_iload hx hb md_T_fillRow_89 (lv_at hl 0 rfl) ?_
              exact W.iret (v := (fT_fillNumber (upd tl (Int32.toNatClampNeg row) (vp_nar .char (fS_at xl xz start))) tv xl xz row (nI k) (pos + 1)).1) hx hb hr (fun t ht hW => ⟨⟨(fT_fillNumber (upd tl (Int32.toNatClampNeg row) (vp_nar .char (fS_at xl xz start))) tv xl xz row (nI k) (pos + 1)).1, (upd tl (Int32.toNatClampNeg row) (vp_nar .char (fS_at xl xz start)), (fT_fillNumber (upd tl (Int32.toNatClampNeg row) (vp_nar .char (fS_at xl xz start))) tv xl xz row (nI k) (pos + 1)).2), rfl, (by rw [hv, gT_fillRow, if_neg c5, if_neg c6, if_pos c12, if_neg c16]), by have h9 := hP; rw [← ht] at h9; exact h9⟩, hS.F ht⟩) hS.2.2 md_T_fillRow_91 hlocks
          · refine lv_iload hx hb md_T_fillRow_63 (lv_at hl 6 rfl) ?_
            have hPc17 := hP.sub (ws' := []) [] rfl
            refine pu_i (W.runS (As := [.int pos]) (rest := []) ⟨hx, hb, hml, hown, hg⟩ (ct_T_fault l dC dI cC cI cJ pos) (gw_cwS hg wd_141 mv_T_fault rfl rfl ⟨Nat.le_of_ble_eq_true rfl, Nat.le_of_ble_eq_true rfl⟩) (pu_preS pu_blT hK hPc17 pu_e1) rfl rfl hl.1 rfl (lv_room (Nat.le_of_ble_eq_true rfl)) md_T_fillRow_65 ⟨Nat.zero_le _, Nat.zero_le _⟩) ?_
            exact W.iret (v := fT_fault pos) hx hb hr (fun t ht hW => ⟨⟨fT_fault pos, (upd tl (Int32.toNatClampNeg row) (vp_nar .char (fS_at xl xz start)), tv), rfl, (by rw [hv, gT_fillRow, if_neg c5, if_neg c6, if_neg c12]), by have h9 := hP; rw [← ht] at h9; exact h9⟩, hS.F ht⟩) hS.2.2 md_T_fillRow_68 hlocks
  refine lv_aload_n hx hb md_T_fillRow_0 rfl (lv_at hl 1 rfl) ?_
  refine lv_iload_n hx hb md_T_fillRow_1 rfl (lv_at hl 3 rfl) ?_
  have hPc1 := hP.sub (ws' := [(xA, .inr (3, [.ref xL, .int xz])), (xL, .inl (cC, 300, .inl xl))]) [4, 5] rfl
  refine pu_i (W.runV (As := [.int start]) (rest := []) ⟨hx, hb, hml, hown, hg⟩ (ct_S_at l dC dI cC cI cJ xA xL xl xz start (hxp _) hch) (gw_cwV hg wd_137 mv_S_at rfl rfl ⟨Nat.le_of_ble_eq_true rfl, Nat.le_of_ble_eq_true rfl⟩) (pu_preV (ci := 3) (q0 := 0) pu_blT hK hPc1 pu_e1 rfl rfl) rfl rfl hl.1 rfl (lv_room (Nat.le_of_ble_eq_true rfl)) md_T_fillRow_2 ⟨Nat.zero_le _, Nat.zero_le _⟩) ?_
  refine lv_istore (lv' := [(4, .int (fS_at xl xz start)), (0, .ref tA), (1, .ref xA), (2, .int row), (3, .int start)]) hx hb md_T_fillRow_5 hl (by decide) rfl (fun ls hl => ?_)
  refine lv_iload hx hb md_T_fillRow_7 (lv_at hl 0 rfl) ?_
  have hPc2 := hP.sub (ws' := []) [] rfl
  refine pu_i9 (va_runSN (As := [.int (fS_at xl xz start)]) (rest := []) ⟨hx, hb, hml, hown, hg⟩ (ct_K_numbersBehind l dC dI cC cI cJ (fS_at xl xz start)) (gw_cnS hg (nw_148 hE) mv_K_numbersBehind rfl rfl ⟨Nat.le_of_ble_eq_true rfl, Nat.le_of_ble_eq_true rfl⟩) (pu_preS pu_blT hK hPc2 pu_e1) rfl rfl hl.1 rfl (lv_room (Nat.le_of_ble_eq_true rfl)) md_T_fillRow_9 ⟨Nat.zero_le _, Nat.zero_le _⟩) ?_
  refine lv_istore (lv' := [(5, .int (fK_numbersBehind (fS_at xl xz start))), (4, .int (fS_at xl xz start)), (0, .ref tA), (1, .ref xA), (2, .int row), (3, .int start)]) hx hb md_T_fillRow_12 hl (by decide) rfl (fun ls hl => ?_)
  refine lv_iload hx hb md_T_fillRow_14 (lv_at hl 0 rfl) ?_
  refine lv_if_ne (tgt := 24) hx hb md_T_fillRow_16 (by decide) (fun c3 => ?_) (fun c3 => ?_)
  · refine lv_aload_n hx hb md_T_fillRow_24 rfl (lv_at hl 2 rfl) ?_
    refine va_get (D := (dC, dI)) (ci := 2) (v := .ref tL) (C := mR_T) (T := mT_T) (N := 4) hx hb hg gu_T hown hK hP 0 rfl rfl 0 (by decide) (hg _ wd_83) (fun _ h9 => h9) rfl md_T_fillRow_25 ?_
    refine lv_iload_n hx hb md_T_fillRow_28 rfl (lv_at hl 4 rfl) ?_
    refine lv_iload hx hb md_T_fillRow_29 (lv_at hl 1 rfl) ?_
    refine va_cast hx hb hK hP hD hS 1 0 rfl rfl hrow md_T_fillRow_31 (fun H locs hP hD hS => ?_)
    have hP : va_P (dC, dI) mC [(tA, .inr (2, [.ref tL, .ref tN, .ref tS, .int tz])), (tL, .inl (cC, 16, .inl (upd tl (Int32.toNatClampNeg row) (vp_nar .char (fS_at xl xz start))))), (tN, .inl (cI, 96, .inl tn)), (tS, .inl (cI, 16, .inl ts)), (xA, .inr (3, [.ref xL, .int xz])), (xL, .inl (cC, 300, .inl xl))] H := hP
    have hD : va_D A [(tA, .inr (2, [.ref tL, .ref tN, .ref tS, .int tz])), (tL, .inl (cC, 16, .inl (upd tl (Int32.toNatClampNeg row) (vp_nar .char (fS_at xl xz start))))), (tN, .inl (cI, 96, .inl tn)), (tS, .inl (cI, 16, .inl ts)), (xA, .inr (3, [.ref xL, .int xz])), (xL, .inl (cC, 300, .inl xl))] := hD
    refine lv_iload_n hx hb md_T_fillRow_32 rfl (lv_at hl 5 rfl) ?_
    refine lv_iconst (v := 1) hx hb md_T_fillRow_33 (by decide) ?_
    refine lv_iadd hx hb md_T_fillRow_34 ?_
    refine lv_istore (lv' := [(6, .int (start + 1)), (5, .int (fK_numbersBehind (fS_at xl xz start))), (4, .int (fS_at xl xz start)), (0, .ref tA), (1, .ref xA), (2, .int row), (3, .int start)]) hx hb md_T_fillRow_35 hl (by decide) rfl (fun ls hl => ?_)
    refine lv_iconst (v := 0) hx hb md_T_fillRow_37 (by decide) ?_
    refine lv_istore (lv' := [(7, .int 0), (6, .int (start + 1)), (5, .int (fK_numbersBehind (fS_at xl xz start))), (4, .int (fS_at xl xz start)), (0, .ref tA), (1, .ref xA), (2, .int row), (3, .int start)]) hx hb md_T_fillRow_38 hl (by decide) rfl (fun ls hl => ?_)
    exact loop 7 tn (start + 1) 0 _ _ ls (by omega) (by omega) (by rw [fT_fillRow, if_neg c3]) hP hD hS (lv_sub hl [4, 5, 6, 7, 3, 2, 1, 0] rfl)
  · refine lv_iload_n hx hb md_T_fillRow_19 rfl (lv_at hl 5 rfl) ?_
    have hPc4 := hP.sub (ws' := []) [] rfl
    refine pu_i (W.runS (As := [.int start]) (rest := []) ⟨hx, hb, hml, hown, hg⟩ (ct_T_fault l dC dI cC cI cJ start) (gw_cwS hg wd_141 mv_T_fault rfl rfl ⟨Nat.le_of_ble_eq_true rfl, Nat.le_of_ble_eq_true rfl⟩) (pu_preS pu_blT hK hPc4 pu_e1) rfl rfl hl.1 rfl (lv_room (Nat.le_of_ble_eq_true rfl)) md_T_fillRow_20 ⟨Nat.zero_le _, Nat.zero_le _⟩) ?_
    exact W.iret (v := fT_fault start) hx hb hr (fun t ht hW => ⟨⟨fT_fault start, (tl, tn), rfl, (by rw [fT_fillRow, if_pos c3]), by have h9 := hP; rw [← ht] at h9; exact h9⟩, hS.F ht⟩) hS.2.2 md_T_fillRow_23 hlocks

def gT_fill (tl : Nat → Int32) (tn : Nat → Int32) (ts : Nat → Int32) (xl : Nat → Int32) (xz : Int32) : Nat → (Nat → Int32) → (Nat → Int32) → Int32 → Nat → Int32 × (Nat → Int32) × (Nat → Int32) × (Nat → Int32) × Int32
  | 0, _, _, _, _ => (0, (fun _ => 0), (fun _ => 0), (fun _ => 0), 0)
  | n + 1, lw, tv, pos, r => if 16 ≤ (nI r) then (if (fS_endsAt xz pos) = 0 then (fT_fault pos, lw, tv, ts, 0) else ((fT_finish ts 16).1, lw, tv, (fT_finish ts 16).2.1, (fT_finish ts 16).2.2)) else (if (nI r) ≤ 0 then (if 0 ≤ ((fT_fillRow lw tv xl xz (nI r) pos).1) then (gT_fill tl tn ts xl xz n ((fT_fillRow lw tv xl xz (nI r) pos).2.1) ((fT_fillRow lw tv xl xz (nI r) pos).2.2) ((fT_fillRow lw tv xl xz (nI r) pos).1) (r + 1)) else ((fT_fillRow lw tv xl xz (nI r) pos).1, (fT_fillRow lw tv xl xz (nI r) pos).2.1, (fT_fillRow lw tv xl xz (nI r) pos).2.2, ts, 0)) else (if (fS_endsAt xz pos) = 0 then (if (fS_at xl xz pos) = 59 then (if 0 ≤ ((fT_fillRow lw tv xl xz (nI r) (pos + 1)).1) then (gT_fill tl tn ts xl xz n ((fT_fillRow lw tv xl xz (nI r) (pos + 1)).2.1) ((fT_fillRow lw tv xl xz (nI r) (pos + 1)).2.2) ((fT_fillRow lw tv xl xz (nI r) (pos + 1)).1) (r + 1)) else ((fT_fillRow lw tv xl xz (nI r) (pos + 1)).1, (fT_fillRow lw tv xl xz (nI r) (pos + 1)).2.1, (fT_fillRow lw tv xl xz (nI r) (pos + 1)).2.2, ts, 0)) else (fT_fault pos, lw, tv, ts, 0)) else ((fT_finish ts (nI r)).1, lw, tv, (fT_finish ts (nI r)).2.1, (fT_finish ts (nI r)).2.2)))
def fT_fill (tl : Nat → Int32) (tn : Nat → Int32) (ts : Nat → Int32) (xl : Nat → Int32) (xz : Int32) : Int32 × (Nat → Int32) × (Nat → Int32) × (Nat → Int32) × Int32 := gT_fill tl tn ts xl xz 17 tl tn 0 0
set_option maxHeartbeats 1000000 in
set_option maxRecDepth 100000 in
theorem ct_T_fill (l : Launch) (dC : Nat → ClassId) (dI : Nat → Nat → Nat) (cC cI cJ : ClassId) (tA : Nat) (tL : Nat) (tN : Nat) (tS : Nat) (tl : Nat → Int32) (tn : Nat → Int32) (ts : Nat → Int32) (tz : Int32) (xA : Nat) (xL : Nat) (xl : Nat → Int32) (xz : Int32)   (hxp : ∀ q : Int32, ¬ q < 0 → ¬ xz ≤ q → vp_in q 300) (hch : ∀ j, narrow .char (.int (xl j)) = .int (xl j)) : Met l my_T_fill (.code my_T_fill mb_T_fill 4 (some .int) :: gw_l) ({ frames := 4, cells := 0, slots := 0, locals := 99 }) (mu_Pc (dC, dI) mC [(cC, .char), (cI, .int), (cJ, .long)] [(tA, .inr (2, [.ref tL, .ref tN, .ref tS, .int tz])), (tL, .inl (cC, 16, .inl tl)), (tN, .inl (cI, 96, .inl tn)), (tS, .inl (cI, 16, .inl ts)), (xA, .inr (3, [.ref xL, .int xz])), (xL, .inl (cC, 300, .inl xl))] nw_all [.ref tA, .ref xA]) (va_Qi (fun (r : Int32) (u : (Nat → Int32) × (Nat → Int32) × (Nat → Int32) × Int32) => (r, u) = fT_fill tl tn ts xl xz) (fun u t => va_P (dC, dI) mC [(tA, .inr (2, [.ref tL, .ref tN, .ref tS, .int u.2.2.2])), (tL, .inl (cC, 16, .inl u.1)), (tN, .inl (cI, 96, .inl u.2.1)), (tS, .inl (cI, 16, .inl u.2.2.1)), (xA, .inr (3, [.ref xL, .int xz])), (xL, .inl (cC, 300, .inl xl))] t.heap) (mu_A [(tA, .inr (2, [.ref tL, .ref tN, .ref tS, .int tz])), (tL, .inl (cC, 16, .inl tl)), (tN, .inl (cI, 96, .inl tn)), (tS, .inl (cI, 16, .inl ts)), (xA, .inr (3, [.ref xL, .int xz])), (xL, .inl (cC, 300, .inl xl))])) 0 0 (mu_A [(tA, .inr (2, [.ref tL, .ref tN, .ref tS, .int tz])), (tL, .inl (cC, 16, .inl tl)), (tN, .inl (cI, 96, .inl tn)), (tS, .inl (cI, 16, .inl ts)), (xA, .inr (3, [.ref xL, .int xz])), (xL, .inl (cC, 300, .inl xl))]) := by
  refine Met.ofW (cc := mb_T_fill) (maxL := 4) (ret := (some .int)) (by decide) rfl ?_
  intro p e s m args below meth c s₁ B hml hv
  obtain ⟨rfl, hP, hK, hD0, hE⟩ := hv
  have hx := B.exec
  have hb := B.bytes
  have hr := B.returns
  have hts := atoms_spec (ws := (.code my_T_fill mb_T_fill 4 (some .int) :: gw_l)) B.pre
  have hg : ∀ w ∈ gw_l, w.before _ s = true := fun w h => hts w (List.mem_cons_of_mem _ h)
  have hown : s.vm.findClass mR_T = some m.cls := findClass_of_methodNamed B.named
  have hlocks := B.notSynchronized
  have hD := mu_self hD0
  have hS : va_S (mu_A [(tA, .inr (2, [.ref tL, .ref tN, .ref tS, .int tz])), (tL, .inl (cC, 16, .inl tl)), (tN, .inl (cI, 96, .inl tn)), (tS, .inl (cI, 16, .inl ts)), (xA, .inr (3, [.ref xL, .int xz])), (xL, .inl (cC, 300, .inl xl))]) s.heap s.heap [] := va_S.rf
  generalize hAe : mu_A [(tA, .inr (2, [.ref tL, .ref tN, .ref tS, .int tz])), (tL, .inl (cC, 16, .inl tl)), (tN, .inl (cI, 96, .inl tn)), (tS, .inl (cI, 16, .inl ts)), (xA, .inr (3, [.ref xL, .int xz])), (xL, .inl (cC, 300, .inl xl))] = A at hD hS ⊢
  have hl := lv_entry ([.ref tA, .ref xA]) (n := 4) (Nat.le_of_ble_eq_true rfl)
  rw [lg_entry_eq]
  generalize (lg_sl ([.ref tA, .ref xA]) ++ List.replicate (4 - (lg_sl ([.ref tA, .ref xA])).length) Slot.unset).toArray = ls at hl ⊢
  have hl : lv_has ls 4 [(0, .ref tA), (1, .ref xA)] := hl
  have loop : ∀ (n : Nat) (lw : Nat → Int32) (tv : Nat → Int32) (pos : Int32) (r : Nat) (H : Heap) (locs : List Loc) (ls : Array Slot), (r ≤ 16) → 16 - r < n → fT_fill tl tn ts xl xz = gT_fill tl tn ts xl xz n lw tv pos r → va_P (dC, dI) mC [(tA, .inr (2, [.ref tL, .ref tN, .ref tS, .int 0])), (tL, .inl (cC, 16, .inl lw)), (tN, .inl (cI, 96, .inl tv)), (tS, .inl (cI, 16, .inl ts)), (xA, .inr (3, [.ref xL, .int xz])), (xL, .inl (cC, 300, .inl xl))] H → va_D A [(tA, .inr (2, [.ref tL, .ref tN, .ref tS, .int 0])), (tL, .inl (cC, 16, .inl lw)), (tN, .inl (cI, 96, .inl tv)), (tS, .inl (cI, 16, .inl ts)), (xA, .inr (3, [.ref xL, .int xz])), (xL, .inl (cC, 300, .inl xl))] → va_S A s.heap H locs → lv_has ls 4 [(0, .ref tA), (1, .ref xA), (2, .int pos), (3, .int (nI r))] → W p l e (headSpec (.code my_T_fill mb_T_fill 4 (some .int) :: gw_l) ({ frames := 4, cells := 0, slots := 0, locals := 99 })).room s m ([.ref tA, .ref xA] : List Value).toArray below meth c H locs 0 0 (MQ below (va_Qi (fun (r : Int32) (u : (Nat → Int32) × (Nat → Int32) × (Nat → Int32) × Int32) => (r, u) = fT_fill tl tn ts xl xz) (fun u t => va_P (dC, dI) mC [(tA, .inr (2, [.ref tL, .ref tN, .ref tS, .int u.2.2.2])), (tL, .inl (cC, 16, .inl u.1)), (tN, .inl (cI, 96, .inl u.2.1)), (tS, .inl (cI, 16, .inl u.2.2.1)), (xA, .inr (3, [.ref xL, .int xz])), (xL, .inl (cC, 300, .inl xl))] t.heap) A) ([.ref tA, .ref xA] : List Value).toArray s 0 0 A) (F0 m 9 ls []) := by
    intro n
    induction n with
    | zero =>
      intro lw tv pos r H locs ls h1 hm
      exact absurd hm (Nat.not_lt_zero _)
    | succ n ih =>
      intro lw tv pos r H locs ls h1 hm hv hP hD hS hl
      refine lv_iload_n hx hb md_T_fill_9 rfl (lv_at hl 3 rfl) ?_
      refine lv_bipush (v := 16) hx hb md_T_fill_10 (by decide) ?_
      refine lv_icmp_ge (tgt := 71) hx hb md_T_fill_12 (by decide) (fun c1 => ?_) (fun c1 => ?_)
      · refine lv_aload_n hx hb md_T_fill_71 rfl (lv_at hl 1 rfl) ?_
        refine lv_iload_n hx hb md_T_fill_72 rfl (lv_at hl 2 rfl) ?_
        have hPc2 := hP.sub (ws' := [(xA, .inr (3, [.ref xL, .int xz])), (xL, .inl (cC, 300, .inl xl))]) [4, 5] rfl
        refine pu_i (W.runV (As := [.int pos]) (rest := []) ⟨hx, hb, hml, hown, hg⟩ (ct_S_endsAt l dC dI cC cI cJ xA xL xl xz pos) (gw_cwV hg wd_129 mv_S_endsAt rfl rfl ⟨Nat.le_of_ble_eq_true rfl, Nat.le_of_ble_eq_true rfl⟩) (pu_preV (ci := 3) (q0 := 0) pu_blT hK hPc2 pu_e1 rfl rfl) rfl rfl hl.1 rfl (lv_room (Nat.le_of_ble_eq_true rfl)) md_T_fill_73 ⟨Nat.zero_le _, Nat.zero_le _⟩) ?_
        refine lv_if_eq (tgt := 88) hx hb md_T_fill_76 (by decide) (fun c3 => ?_) (fun c3 => ?_)
        · refine lv_iload_n hx hb md_T_fill_88 rfl (lv_at hl 2 rfl) ?_
          have hPc4 := hP.sub (ws' := []) [] rfl
          refine pu_i (W.runS (As := [.int pos]) (rest := []) ⟨hx, hb, hml, hown, hg⟩ (ct_T_fault l dC dI cC cI cJ pos) (gw_cwS hg wd_141 mv_T_fault rfl rfl ⟨Nat.le_of_ble_eq_true rfl, Nat.le_of_ble_eq_true rfl⟩) (pu_preS pu_blT hK hPc4 pu_e1) rfl rfl hl.1 rfl (lv_room (Nat.le_of_ble_eq_true rfl)) md_T_fill_89 ⟨Nat.zero_le _, Nat.zero_le _⟩) ?_
          exact W.iret (v := fT_fault pos) hx hb hr (fun t ht hW => ⟨⟨fT_fault pos, (lw, tv, ts, 0), rfl, (by rw [hv, gT_fill, if_pos c1, if_pos c3]), by have h9 := hP; rw [← ht] at h9; exact h9⟩, hS.F ht⟩) hS.2.2 md_T_fill_92 hlocks
        · refine lv_aload_n hx hb md_T_fill_79 rfl (lv_at hl 0 rfl) ?_
          refine lv_bipush (v := 16) hx hb md_T_fill_80 (by decide) ?_
          have hPc5 := hP.sub (ws' := [(tA, .inr (2, [.ref tL, .ref tN, .ref tS, .int 0])), (tL, .inl (cC, 16, .inl lw)), (tN, .inl (cI, 96, .inl tv)), (tS, .inl (cI, 16, .inl ts))]) [0, 1, 2, 3] rfl
          have hDc6 := hD.sub (ws' := [(tA, .inr (2, [.ref tL, .ref tN, .ref tS, .int 0])), (tL, .inl (cC, 16, .inl lw)), (tN, .inl (cI, 96, .inl tv)), (tS, .inl (cI, 16, .inl ts))]) [0, 1, 2, 3] (by decide) rfl
          have hFc7 := mu_free (wc := [(tA, .inr (2, [.ref tL, .ref tN, .ref tS, .int 0])), (tL, .inl (cC, 16, .inl lw)), (tN, .inl (cI, 96, .inl tv)), (tS, .inl (cI, 16, .inl ts))]) hD [0, 1, 2, 3] rfl
          refine va_calli (va_runV (As := [.int 16]) (rest := []) ⟨hx, hb, hml, hown, hg⟩ (ct_T_finish l dC dI cC cI cJ tA tL tN tS lw tv ts 0 16) (gw_cwV hg wd_133 mv_T_finish rfl rfl ⟨Nat.le_of_ble_eq_true rfl, Nat.le_of_ble_eq_true rfl⟩) (mu_preV (ci := 2) (q0 := 0) pu_blT hK hPc5 hDc6 pu_e1 rfl rfl) rfl rfl hl.1 rfl (lv_room (Nat.le_of_ble_eq_true rfl)) md_T_fill_82 ⟨Nat.zero_le _, Nat.zero_le _⟩) hS (fun q _ h => hFc7 q h) hFc7 (fun r9 u9 t9 H locs ht hvm hw hB hz1 hk1 hS => ?_)
          have hw : (r9, u9) = (fT_finish ts 16) := hw
          have er : r9 = (fT_finish ts 16).1 := by rw [← hw]
          have hw : u9 = (fT_finish ts 16).2 := by rw [← hw]
          subst hw
          subst er
          have hB : va_P (dC, dI) mC [(tA, .inr (2, [.ref tL, .ref tN, .ref tS, .int ((fT_finish ts 16).2.2)])), (tL, .inl (cC, 16, .inl lw)), (tN, .inl (cI, 96, .inl tv)), (tS, .inl (cI, 16, .inl ((fT_finish ts 16).2.1)))] H := by rw [← ht]; exact hB
          have hP := mu_join (ws' := [(tA, .inr (2, [.ref tL, .ref tN, .ref tS, .int ((fT_finish ts 16).2.2)])), (tL, .inl (cC, 16, .inl lw)), (tN, .inl (cI, 96, .inl tv)), (tS, .inl (cI, 16, .inl ((fT_finish ts 16).2.1))), (xA, .inr (3, [.ref xL, .int xz])), (xL, .inl (cC, 300, .inl xl))]) hP hD [0, 1, 2, 3] [.inl 0, .inl 1, .inl 2, .inl 3, .inr 4, .inr 5] rfl rfl rfl hk1 hB
          have hD : va_D A [(tA, .inr (2, [.ref tL, .ref tN, .ref tS, .int ((fT_finish ts 16).2.2)])), (tL, .inl (cC, 16, .inl lw)), (tN, .inl (cI, 96, .inl tv)), (tS, .inl (cI, 16, .inl ((fT_finish ts 16).2.1))), (xA, .inr (3, [.ref xL, .int xz])), (xL, .inl (cC, 300, .inl xl))] := mu_D (ws := [(tA, .inr (2, [.ref tL, .ref tN, .ref tS, .int 0])), (tL, .inl (cC, 16, .inl lw)), (tN, .inl (cI, 96, .inl tv)), (tS, .inl (cI, 16, .inl ts)), (xA, .inr (3, [.ref xL, .int xz])), (xL, .inl (cC, 300, .inl xl))]) rfl hD
          refine lv_goto (tgt := 92) hx hb md_T_fill_85 (by decide) ?_
          exact W.iret (v := (fT_finish ts 16).1) hx hb hr (fun t ht hW => ⟨⟨(fT_finish ts 16).1, (lw, tv, (fT_finish ts 16).2.1, (fT_finish ts 16).2.2), rfl, (by rw [hv, gT_fill, if_pos c1, if_neg c3]), by have h9 := hP; rw [← ht] at h9; exact h9⟩, hS.F ht⟩) hS.2.2 md_T_fill_92 hlocks
      · have hlt : r < 16 := nx_lt (a := r) (b := 16) (by omega) (by omega) c1
        refine lv_iload_n hx hb md_T_fill_15 rfl (lv_at hl 3 rfl) ?_
        refine lv_if_le (tgt := 51) hx hb md_T_fill_16 (by decide) (fun c8 => ?_) (fun c8 => ?_)
        · refine lv_aload_n hx hb md_T_fill_51 rfl (lv_at hl 0 rfl) ?_
          refine lv_aload_n hx hb md_T_fill_52 rfl (lv_at hl 1 rfl) ?_
          refine lv_iload_n hx hb md_T_fill_53 rfl (lv_at hl 3 rfl) ?_
          refine lv_iload_n hx hb md_T_fill_54 rfl (lv_at hl 2 rfl) ?_
          have hPc9 := hP.sub (ws' := [(tA, .inr (2, [.ref tL, .ref tN, .ref tS, .int 0])), (tL, .inl (cC, 16, .inl lw)), (tN, .inl (cI, 96, .inl tv)), (tS, .inl (cI, 16, .inl ts)), (xA, .inr (3, [.ref xL, .int xz])), (xL, .inl (cC, 300, .inl xl))]) [0, 1, 2, 3, 4, 5] rfl
          have hDc10 := hD.sub (ws' := [(tA, .inr (2, [.ref tL, .ref tN, .ref tS, .int 0])), (tL, .inl (cC, 16, .inl lw)), (tN, .inl (cI, 96, .inl tv)), (tS, .inl (cI, 16, .inl ts)), (xA, .inr (3, [.ref xL, .int xz])), (xL, .inl (cC, 300, .inl xl))]) [0, 1, 2, 3, 4, 5] (by decide) rfl
          have hFc11 := mu_free (wc := [(tA, .inr (2, [.ref tL, .ref tN, .ref tS, .int 0])), (tL, .inl (cC, 16, .inl lw)), (tN, .inl (cI, 96, .inl tv)), (tS, .inl (cI, 16, .inl ts)), (xA, .inr (3, [.ref xL, .int xz])), (xL, .inl (cC, 300, .inl xl))]) hD [0, 1, 2, 3, 4, 5] rfl
          refine va_calli (va_runV (As := [.ref xA, .int (nI r), .int pos]) (rest := []) ⟨hx, hb, hml, hown, hg⟩ (ct_T_fillRow l dC dI cC cI cJ tA tL tN tS lw tv ts 0 xA xL xl xz (nI r) pos hxp hch (nx_16 hlt) (fun x k hk e => nx_6e k hlt hk e)) (gw_cwV hg wd_144 mv_T_fillRow rfl rfl ⟨Nat.le_of_ble_eq_true rfl, Nat.le_of_ble_eq_true rfl⟩) (mu_preV (ci := 2) (q0 := 0) nw_all_bl hK hPc9 hDc10 (fun U _ hW => nw_warm hW hE) rfl rfl) rfl rfl hl.1 rfl (lv_room (Nat.le_of_ble_eq_true rfl)) md_T_fill_55 ⟨Nat.zero_le _, Nat.zero_le _⟩) hS (fun q _ h => hFc11 q h) hFc11 (fun r9 u9 t9 H locs ht hvm hw hB hz1 hk1 hS => ?_)
          have hw : (r9, u9) = (fT_fillRow lw tv xl xz (nI r) pos) := hw
          have er : r9 = (fT_fillRow lw tv xl xz (nI r) pos).1 := by rw [← hw]
          have hw : u9 = (fT_fillRow lw tv xl xz (nI r) pos).2 := by rw [← hw]
          subst hw
          subst er
          have hB : va_P (dC, dI) mC [(tA, .inr (2, [.ref tL, .ref tN, .ref tS, .int 0])), (tL, .inl (cC, 16, .inl ((fT_fillRow lw tv xl xz (nI r) pos).2.1))), (tN, .inl (cI, 96, .inl ((fT_fillRow lw tv xl xz (nI r) pos).2.2))), (tS, .inl (cI, 16, .inl ts)), (xA, .inr (3, [.ref xL, .int xz])), (xL, .inl (cC, 300, .inl xl))] H := by rw [← ht]; exact hB
          have hP := mu_join (ws' := [(tA, .inr (2, [.ref tL, .ref tN, .ref tS, .int 0])), (tL, .inl (cC, 16, .inl ((fT_fillRow lw tv xl xz (nI r) pos).2.1))), (tN, .inl (cI, 96, .inl ((fT_fillRow lw tv xl xz (nI r) pos).2.2))), (tS, .inl (cI, 16, .inl ts)), (xA, .inr (3, [.ref xL, .int xz])), (xL, .inl (cC, 300, .inl xl))]) hP hD [0, 1, 2, 3, 4, 5] [.inl 0, .inl 1, .inl 2, .inl 3, .inl 4, .inl 5] rfl rfl rfl hk1 hB
          have hD : va_D A [(tA, .inr (2, [.ref tL, .ref tN, .ref tS, .int 0])), (tL, .inl (cC, 16, .inl ((fT_fillRow lw tv xl xz (nI r) pos).2.1))), (tN, .inl (cI, 96, .inl ((fT_fillRow lw tv xl xz (nI r) pos).2.2))), (tS, .inl (cI, 16, .inl ts)), (xA, .inr (3, [.ref xL, .int xz])), (xL, .inl (cC, 300, .inl xl))] := mu_D (ws := [(tA, .inr (2, [.ref tL, .ref tN, .ref tS, .int 0])), (tL, .inl (cC, 16, .inl lw)), (tN, .inl (cI, 96, .inl tv)), (tS, .inl (cI, 16, .inl ts)), (xA, .inr (3, [.ref xL, .int xz])), (xL, .inl (cC, 300, .inl xl))]) rfl hD
          refine lv_istore_n (lv' := [(2, .int ((fT_fillRow lw tv xl xz (nI r) pos).1)), (0, .ref tA), (1, .ref xA), (3, .int (nI r))]) hx hb md_T_fill_58 rfl hl (by decide) rfl (fun ls hl => ?_)
          refine lv_iload_n hx hb md_T_fill_59 rfl (lv_at hl 0 rfl) ?_
          refine lv_if_ge (tgt := 65) hx hb md_T_fill_60 (by decide) (fun c12 => ?_) (fun c12 => ?_)
          · refine lv_iinc (v := nI (r + 1)) (lv' := [(3, .int (nI (r + 1))), (2, .int ((fT_fillRow lw tv xl xz (nI r) pos).1)), (0, .ref tA), (1, .ref xA)]) hx hb md_T_fill_65 hl (k := 3) rfl (by rw [nI_succ]; rfl) (by decide) rfl (fun ls hl => ?_)
            refine lv_goto (tgt := 9) hx hb md_T_fill_68 (by decide) ?_
            exact ih ((fT_fillRow lw tv xl xz (nI r) pos).2.1) ((fT_fillRow lw tv xl xz (nI r) pos).2.2) ((fT_fillRow lw tv xl xz (nI r) pos).1) (r + 1) _ _ ls (by omega) (by omega) (by rw [hv, gT_fill, if_neg c1, if_pos c8, if_pos c12]) hP hD hS (lv_sub hl [2, 3, 1, 0] rfl)
          · refine lv_iload_n hx hb md_T_fill_63 rfl (lv_at hl 0 rfl) ?_
            exact W.iret (v := (fT_fillRow lw tv xl xz (nI r) pos).1) hx hb hr (fun t ht hW => ⟨⟨(fT_fillRow lw tv xl xz (nI r) pos).1, ((fT_fillRow lw tv xl xz (nI r) pos).2.1, (fT_fillRow lw tv xl xz (nI r) pos).2.2, ts, 0), rfl, (by rw [hv, gT_fill, if_neg c1, if_pos c8, if_neg c12]), by have h9 := hP; rw [← ht] at h9; exact h9⟩, hS.F ht⟩) hS.2.2 md_T_fill_64 hlocks
        · refine lv_aload_n hx hb md_T_fill_19 rfl (lv_at hl 1 rfl) ?_
          refine lv_iload_n hx hb md_T_fill_20 rfl (lv_at hl 2 rfl) ?_
          have hPc13 := hP.sub (ws' := [(xA, .inr (3, [.ref xL, .int xz])), (xL, .inl (cC, 300, .inl xl))]) [4, 5] rfl
          refine pu_i (W.runV (As := [.int pos]) (rest := []) ⟨hx, hb, hml, hown, hg⟩ (ct_S_endsAt l dC dI cC cI cJ xA xL xl xz pos) (gw_cwV hg wd_129 mv_S_endsAt rfl rfl ⟨Nat.le_of_ble_eq_true rfl, Nat.le_of_ble_eq_true rfl⟩) (pu_preV (ci := 3) (q0 := 0) pu_blT hK hPc13 pu_e1 rfl rfl) rfl rfl hl.1 rfl (lv_room (Nat.le_of_ble_eq_true rfl)) md_T_fill_21 ⟨Nat.zero_le _, Nat.zero_le _⟩) ?_
          refine lv_if_eq (tgt := 33) hx hb md_T_fill_24 (by decide) (fun c14 => ?_) (fun c14 => ?_)
          · refine lv_aload_n hx hb md_T_fill_33 rfl (lv_at hl 1 rfl) ?_
            refine lv_iload_n hx hb md_T_fill_34 rfl (lv_at hl 2 rfl) ?_
            have hPc15 := hP.sub (ws' := [(xA, .inr (3, [.ref xL, .int xz])), (xL, .inl (cC, 300, .inl xl))]) [4, 5] rfl
            refine pu_i (W.runV (As := [.int pos]) (rest := []) ⟨hx, hb, hml, hown, hg⟩ (ct_S_at l dC dI cC cI cJ xA xL xl xz pos (hxp _) hch) (gw_cwV hg wd_137 mv_S_at rfl rfl ⟨Nat.le_of_ble_eq_true rfl, Nat.le_of_ble_eq_true rfl⟩) (pu_preV (ci := 3) (q0 := 0) pu_blT hK hPc15 pu_e1 rfl rfl) rfl rfl hl.1 rfl (lv_room (Nat.le_of_ble_eq_true rfl)) md_T_fill_35 ⟨Nat.zero_le _, Nat.zero_le _⟩) ?_
            refine lv_bipush (v := 59) hx hb md_T_fill_38 (by decide) ?_
            refine lv_icmp_eq (tgt := 48) hx hb md_T_fill_40 (by decide) (fun c16 => ?_) (fun c16 => ?_)
            · refine lv_iinc (v := pos + 1) (lv' := [(2, .int (pos + 1)), (0, .ref tA), (1, .ref xA), (3, .int (nI r))]) hx hb md_T_fill_48 hl (k := 2) rfl rfl (by decide) rfl (fun ls hl => ?_)
              refine lv_aload_n hx hb md_T_fill_51 rfl (lv_at hl 1 rfl) ?_
              refine lv_aload_n hx hb md_T_fill_52 rfl (lv_at hl 2 rfl) ?_
              refine lv_iload_n hx hb md_T_fill_53 rfl (lv_at hl 3 rfl) ?_
              refine lv_iload_n hx hb md_T_fill_54 rfl (lv_at hl 0 rfl) ?_
              have hPc17 := hP.sub (ws' := [(tA, .inr (2, [.ref tL, .ref tN, .ref tS, .int 0])), (tL, .inl (cC, 16, .inl lw)), (tN, .inl (cI, 96, .inl tv)), (tS, .inl (cI, 16, .inl ts)), (xA, .inr (3, [.ref xL, .int xz])), (xL, .inl (cC, 300, .inl xl))]) [0, 1, 2, 3, 4, 5] rfl
              have hDc18 := hD.sub (ws' := [(tA, .inr (2, [.ref tL, .ref tN, .ref tS, .int 0])), (tL, .inl (cC, 16, .inl lw)), (tN, .inl (cI, 96, .inl tv)), (tS, .inl (cI, 16, .inl ts)), (xA, .inr (3, [.ref xL, .int xz])), (xL, .inl (cC, 300, .inl xl))]) [0, 1, 2, 3, 4, 5] (by decide) rfl
              have hFc19 := mu_free (wc := [(tA, .inr (2, [.ref tL, .ref tN, .ref tS, .int 0])), (tL, .inl (cC, 16, .inl lw)), (tN, .inl (cI, 96, .inl tv)), (tS, .inl (cI, 16, .inl ts)), (xA, .inr (3, [.ref xL, .int xz])), (xL, .inl (cC, 300, .inl xl))]) hD [0, 1, 2, 3, 4, 5] rfl
              refine va_calli (va_runV (As := [.ref xA, .int (nI r), .int (pos + 1)]) (rest := []) ⟨hx, hb, hml, hown, hg⟩ (ct_T_fillRow l dC dI cC cI cJ tA tL tN tS lw tv ts 0 xA xL xl xz (nI r) (pos + 1) hxp hch (nx_16 hlt) (fun x k hk e => nx_6e k hlt hk e)) (gw_cwV hg wd_144 mv_T_fillRow rfl rfl ⟨Nat.le_of_ble_eq_true rfl, Nat.le_of_ble_eq_true rfl⟩) (mu_preV (ci := 2) (q0 := 0) nw_all_bl hK hPc17 hDc18 (fun U _ hW => nw_warm hW hE) rfl rfl) rfl rfl hl.1 rfl (lv_room (Nat.le_of_ble_eq_true rfl)) md_T_fill_55 ⟨Nat.zero_le _, Nat.zero_le _⟩) hS (fun q _ h => hFc19 q h) hFc19 (fun r9 u9 t9 H locs ht hvm hw hB hz1 hk1 hS => ?_)
              have hw : (r9, u9) = (fT_fillRow lw tv xl xz (nI r) (pos + 1)) := hw
              have er : r9 = (fT_fillRow lw tv xl xz (nI r) (pos + 1)).1 := by rw [← hw]
              have hw : u9 = (fT_fillRow lw tv xl xz (nI r) (pos + 1)).2 := by rw [← hw]
              subst hw
              subst er
              have hB : va_P (dC, dI) mC [(tA, .inr (2, [.ref tL, .ref tN, .ref tS, .int 0])), (tL, .inl (cC, 16, .inl ((fT_fillRow lw tv xl xz (nI r) (pos + 1)).2.1))), (tN, .inl (cI, 96, .inl ((fT_fillRow lw tv xl xz (nI r) (pos + 1)).2.2))), (tS, .inl (cI, 16, .inl ts)), (xA, .inr (3, [.ref xL, .int xz])), (xL, .inl (cC, 300, .inl xl))] H := by rw [← ht]; exact hB
              have hP := mu_join (ws' := [(tA, .inr (2, [.ref tL, .ref tN, .ref tS, .int 0])), (tL, .inl (cC, 16, .inl ((fT_fillRow lw tv xl xz (nI r) (pos + 1)).2.1))), (tN, .inl (cI, 96, .inl ((fT_fillRow lw tv xl xz (nI r) (pos + 1)).2.2))), (tS, .inl (cI, 16, .inl ts)), (xA, .inr (3, [.ref xL, .int xz])), (xL, .inl (cC, 300, .inl xl))]) hP hD [0, 1, 2, 3, 4, 5] [.inl 0, .inl 1, .inl 2, .inl 3, .inl 4, .inl 5] rfl rfl rfl hk1 hB
              have hD : va_D A [(tA, .inr (2, [.ref tL, .ref tN, .ref tS, .int 0])), (tL, .inl (cC, 16, .inl ((fT_fillRow lw tv xl xz (nI r) (pos + 1)).2.1))), (tN, .inl (cI, 96, .inl ((fT_fillRow lw tv xl xz (nI r) (pos + 1)).2.2))), (tS, .inl (cI, 16, .inl ts)), (xA, .inr (3, [.ref xL, .int xz])), (xL, .inl (cC, 300, .inl xl))] := mu_D (ws := [(tA, .inr (2, [.ref tL, .ref tN, .ref tS, .int 0])), (tL, .inl (cC, 16, .inl lw)), (tN, .inl (cI, 96, .inl tv)), (tS, .inl (cI, 16, .inl ts)), (xA, .inr (3, [.ref xL, .int xz])), (xL, .inl (cC, 300, .inl xl))]) rfl hD
              refine lv_istore_n (lv' := [(2, .int ((fT_fillRow lw tv xl xz (nI r) (pos + 1)).1)), (0, .ref tA), (1, .ref xA), (3, .int (nI r))]) hx hb md_T_fill_58 rfl hl (by decide) rfl (fun ls hl => ?_)
              refine lv_iload_n hx hb md_T_fill_59 rfl (lv_at hl 0 rfl) ?_
              refine lv_if_ge (tgt := 65) hx hb md_T_fill_60 (by decide) (fun c20 => ?_) (fun c20 => ?_)
              · refine lv_iinc (v := nI (r + 1)) (lv' := [(3, .int (nI (r + 1))), (2, .int ((fT_fillRow lw tv xl xz (nI r) (pos + 1)).1)), (0, .ref tA), (1, .ref xA)]) hx hb md_T_fill_65 hl (k := 3) rfl (by rw [nI_succ]; rfl) (by decide) rfl (fun ls hl => ?_)
                refine lv_goto (tgt := 9) hx hb md_T_fill_68 (by decide) ?_
                exact ih ((fT_fillRow lw tv xl xz (nI r) (pos + 1)).2.1) ((fT_fillRow lw tv xl xz (nI r) (pos + 1)).2.2) ((fT_fillRow lw tv xl xz (nI r) (pos + 1)).1) (r + 1) _ _ ls (by omega) (by omega) (by rw [hv, gT_fill, if_neg c1, if_neg c8, if_pos c14, if_pos c16, if_pos c20]) hP hD hS (lv_sub hl [2, 3, 1, 0] rfl)
              · refine lv_iload_n hx hb md_T_fill_63 rfl (lv_at hl 0 rfl) ?_
                exact W.iret (v := (fT_fillRow lw tv xl xz (nI r) (pos + 1)).1) hx hb hr (fun t ht hW => ⟨⟨(fT_fillRow lw tv xl xz (nI r) (pos + 1)).1, ((fT_fillRow lw tv xl xz (nI r) (pos + 1)).2.1, (fT_fillRow lw tv xl xz (nI r) (pos + 1)).2.2, ts, 0), rfl, (by rw [hv, gT_fill, if_neg c1, if_neg c8, if_pos c14, if_pos c16, if_neg c20]), by have h9 := hP; rw [← ht] at h9; exact h9⟩, hS.F ht⟩) hS.2.2 md_T_fill_64 hlocks
            · refine lv_iload_n hx hb md_T_fill_43 rfl (lv_at hl 2 rfl) ?_
              have hPc21 := hP.sub (ws' := []) [] rfl
              refine pu_i (W.runS (As := [.int pos]) (rest := []) ⟨hx, hb, hml, hown, hg⟩ (ct_T_fault l dC dI cC cI cJ pos) (gw_cwS hg wd_141 mv_T_fault rfl rfl ⟨Nat.le_of_ble_eq_true rfl, Nat.le_of_ble_eq_true rfl⟩) (pu_preS pu_blT hK hPc21 pu_e1) rfl rfl hl.1 rfl (lv_room (Nat.le_of_ble_eq_true rfl)) md_T_fill_44 ⟨Nat.zero_le _, Nat.zero_le _⟩) ?_
              exact W.iret (v := fT_fault pos) hx hb hr (fun t ht hW => ⟨⟨fT_fault pos, (lw, tv, ts, 0), rfl, (by rw [hv, gT_fill, if_neg c1, if_neg c8, if_pos c14, if_neg c16]), by have h9 := hP; rw [← ht] at h9; exact h9⟩, hS.F ht⟩) hS.2.2 md_T_fill_47 hlocks
          · refine lv_aload_n hx hb md_T_fill_27 rfl (lv_at hl 0 rfl) ?_
            refine lv_iload_n hx hb md_T_fill_28 rfl (lv_at hl 3 rfl) ?_
            have hPc22 := hP.sub (ws' := [(tA, .inr (2, [.ref tL, .ref tN, .ref tS, .int 0])), (tL, .inl (cC, 16, .inl lw)), (tN, .inl (cI, 96, .inl tv)), (tS, .inl (cI, 16, .inl ts))]) [0, 1, 2, 3] rfl
            have hDc23 := hD.sub (ws' := [(tA, .inr (2, [.ref tL, .ref tN, .ref tS, .int 0])), (tL, .inl (cC, 16, .inl lw)), (tN, .inl (cI, 96, .inl tv)), (tS, .inl (cI, 16, .inl ts))]) [0, 1, 2, 3] (by decide) rfl
            have hFc24 := mu_free (wc := [(tA, .inr (2, [.ref tL, .ref tN, .ref tS, .int 0])), (tL, .inl (cC, 16, .inl lw)), (tN, .inl (cI, 96, .inl tv)), (tS, .inl (cI, 16, .inl ts))]) hD [0, 1, 2, 3] rfl
            refine va_calli (va_runV (As := [.int (nI r)]) (rest := []) ⟨hx, hb, hml, hown, hg⟩ (ct_T_finish l dC dI cC cI cJ tA tL tN tS lw tv ts 0 (nI r)) (gw_cwV hg wd_133 mv_T_finish rfl rfl ⟨Nat.le_of_ble_eq_true rfl, Nat.le_of_ble_eq_true rfl⟩) (mu_preV (ci := 2) (q0 := 0) pu_blT hK hPc22 hDc23 pu_e1 rfl rfl) rfl rfl hl.1 rfl (lv_room (Nat.le_of_ble_eq_true rfl)) md_T_fill_29 ⟨Nat.zero_le _, Nat.zero_le _⟩) hS (fun q _ h => hFc24 q h) hFc24 (fun r9 u9 t9 H locs ht hvm hw hB hz1 hk1 hS => ?_)
            have hw : (r9, u9) = (fT_finish ts (nI r)) := hw
            have er : r9 = (fT_finish ts (nI r)).1 := by rw [← hw]
            have hw : u9 = (fT_finish ts (nI r)).2 := by rw [← hw]
            subst hw
            subst er
            have hB : va_P (dC, dI) mC [(tA, .inr (2, [.ref tL, .ref tN, .ref tS, .int ((fT_finish ts (nI r)).2.2)])), (tL, .inl (cC, 16, .inl lw)), (tN, .inl (cI, 96, .inl tv)), (tS, .inl (cI, 16, .inl ((fT_finish ts (nI r)).2.1)))] H := by rw [← ht]; exact hB
            have hP := mu_join (ws' := [(tA, .inr (2, [.ref tL, .ref tN, .ref tS, .int ((fT_finish ts (nI r)).2.2)])), (tL, .inl (cC, 16, .inl lw)), (tN, .inl (cI, 96, .inl tv)), (tS, .inl (cI, 16, .inl ((fT_finish ts (nI r)).2.1))), (xA, .inr (3, [.ref xL, .int xz])), (xL, .inl (cC, 300, .inl xl))]) hP hD [0, 1, 2, 3] [.inl 0, .inl 1, .inl 2, .inl 3, .inr 4, .inr 5] rfl rfl rfl hk1 hB
            have hD : va_D A [(tA, .inr (2, [.ref tL, .ref tN, .ref tS, .int ((fT_finish ts (nI r)).2.2)])), (tL, .inl (cC, 16, .inl lw)), (tN, .inl (cI, 96, .inl tv)), (tS, .inl (cI, 16, .inl ((fT_finish ts (nI r)).2.1))), (xA, .inr (3, [.ref xL, .int xz])), (xL, .inl (cC, 300, .inl xl))] := mu_D (ws := [(tA, .inr (2, [.ref tL, .ref tN, .ref tS, .int 0])), (tL, .inl (cC, 16, .inl lw)), (tN, .inl (cI, 96, .inl tv)), (tS, .inl (cI, 16, .inl ts)), (xA, .inr (3, [.ref xL, .int xz])), (xL, .inl (cC, 300, .inl xl))]) rfl hD
            exact W.iret (v := (fT_finish ts (nI r)).1) hx hb hr (fun t ht hW => ⟨⟨(fT_finish ts (nI r)).1, (lw, tv, (fT_finish ts (nI r)).2.1, (fT_finish ts (nI r)).2.2), rfl, (by rw [hv, gT_fill, if_neg c1, if_neg c8, if_neg c14]), by have h9 := hP; rw [← ht] at h9; exact h9⟩, hS.F ht⟩) hS.2.2 md_T_fill_32 hlocks
  refine lv_aload_n hx hb md_T_fill_0 rfl (lv_at hl 0 rfl) ?_
  refine lv_iconst (v := 0) hx hb md_T_fill_1 (by decide) ?_
  refine va_put (D := (dC, dI)) (ci := 2) (v := .int 0) (ty := .int) (C := mR_T) (T := mT_T) (N := 4) hx hb hg gu_T mF_T mO_T mN_T hown hK hP hD hS 0 rfl rfl 3 (by decide) (hg _ wd_86) (fun _ h9 => h9) rfl (by decide +kernel) rfl rfl (Nat.le_of_ble_eq_true rfl) md_T_fill_2 (fun H locs hP hD hS => ?_)
  have hP : va_P (dC, dI) mC [(tA, .inr (2, [.ref tL, .ref tN, .ref tS, .int 0])), (tL, .inl (cC, 16, .inl tl)), (tN, .inl (cI, 96, .inl tn)), (tS, .inl (cI, 16, .inl ts)), (xA, .inr (3, [.ref xL, .int xz])), (xL, .inl (cC, 300, .inl xl))] H := hP
  have hD : va_D A [(tA, .inr (2, [.ref tL, .ref tN, .ref tS, .int 0])), (tL, .inl (cC, 16, .inl tl)), (tN, .inl (cI, 96, .inl tn)), (tS, .inl (cI, 16, .inl ts)), (xA, .inr (3, [.ref xL, .int xz])), (xL, .inl (cC, 300, .inl xl))] := hD
  refine lv_iconst (v := 0) hx hb md_T_fill_5 (by decide) ?_
  refine lv_istore_n (lv' := [(2, .int 0), (0, .ref tA), (1, .ref xA)]) hx hb md_T_fill_6 rfl hl (by decide) rfl (fun ls hl => ?_)
  refine lv_iconst (v := 0) hx hb md_T_fill_7 (by decide) ?_
  refine lv_istore_n (lv' := [(3, .int 0), (2, .int 0), (0, .ref tA), (1, .ref xA)]) hx hb md_T_fill_8 rfl hl (by decide) rfl (fun ls hl => ?_)
  exact loop 17 tl tn 0 0 _ _ ls (by omega) (by omega) (by rw [fT_fill]) hP hD hS (lv_sub hl [2, 3, 1, 0] rfl)

def fK_unit (xl : Nat → Int32) (xz : Int32) (u0 : Int32) : Int32 × (Nat → Int32) × Int32 := ((fS_add xl xz u0).1, (fS_add xl xz u0).2.1, (fS_add xl xz u0).2.2)
set_option maxHeartbeats 1000000 in
set_option maxRecDepth 100000 in
theorem ct_K_unit (l : Launch) (dC : Nat → ClassId) (dI : Nat → Nat → Nat) (cC cI cJ : ClassId) (kA : Nat) (dA : Nat) (oA : Nat) (tA : Nat) (uA : Nat) (xA : Nat) (xL : Nat) (xl : Nat → Int32) (xz : Int32) (u0 : Int32)  (hin : xz < 300 → vp_in xz 300) : Met l my_K_unit (.code my_K_unit mb_K_unit 2 (some .boolean) :: gw_l) ({ frames := 1, cells := 0, slots := 0, locals := 21 }) (mu_Pc (dC, dI) mC [(cC, .char), (cI, .int), (cJ, .long)] [(kA, .inr (4, [.ref xA, .ref dA, .ref oA, .ref tA, .ref uA])), (xA, .inr (3, [.ref xL, .int xz])), (xL, .inl (cC, 300, .inl xl))] (fun _ => True) [.ref kA, .int u0]) (va_Qi (fun (r : Int32) (u : (Nat → Int32) × Int32) => (r, u) = fK_unit xl xz u0) (fun u t => va_P (dC, dI) mC [(kA, .inr (4, [.ref xA, .ref dA, .ref oA, .ref tA, .ref uA])), (xA, .inr (3, [.ref xL, .int u.2])), (xL, .inl (cC, 300, .inl u.1))] t.heap) (mu_A [(kA, .inr (4, [.ref xA, .ref dA, .ref oA, .ref tA, .ref uA])), (xA, .inr (3, [.ref xL, .int xz])), (xL, .inl (cC, 300, .inl xl))])) 0 0 (mu_A [(kA, .inr (4, [.ref xA, .ref dA, .ref oA, .ref tA, .ref uA])), (xA, .inr (3, [.ref xL, .int xz])), (xL, .inl (cC, 300, .inl xl))]) := by
  refine Met.ofW (cc := mb_K_unit) (maxL := 2) (ret := (some .boolean)) (by decide) rfl ?_
  intro p e s m args below meth c s₁ B hml hv
  obtain ⟨rfl, hP, hK, hD0, hE⟩ := hv
  have hx := B.exec
  have hb := B.bytes
  have hr := B.returns
  have hts := atoms_spec (ws := (.code my_K_unit mb_K_unit 2 (some .boolean) :: gw_l)) B.pre
  have hg : ∀ w ∈ gw_l, w.before _ s = true := fun w h => hts w (List.mem_cons_of_mem _ h)
  have hown : s.vm.findClass mR_K = some m.cls := findClass_of_methodNamed B.named
  have hlocks := B.notSynchronized
  have hD := mu_self hD0
  have hS : va_S (mu_A [(kA, .inr (4, [.ref xA, .ref dA, .ref oA, .ref tA, .ref uA])), (xA, .inr (3, [.ref xL, .int xz])), (xL, .inl (cC, 300, .inl xl))]) s.heap s.heap [] := va_S.rf
  generalize hAe : mu_A [(kA, .inr (4, [.ref xA, .ref dA, .ref oA, .ref tA, .ref uA])), (xA, .inr (3, [.ref xL, .int xz])), (xL, .inl (cC, 300, .inl xl))] = A at hD hS ⊢
  have hl := lv_entry ([.ref kA, .int u0]) (n := 2) (Nat.le_of_ble_eq_true rfl)
  rw [lg_entry_eq]
  generalize (lg_sl ([.ref kA, .int u0]) ++ List.replicate (2 - (lg_sl ([.ref kA, .int u0])).length) Slot.unset).toArray = ls at hl ⊢
  have hl : lv_has ls 2 [(0, .ref kA), (1, .int u0)] := hl
  refine lv_aload_n hx hb md_K_unit_0 rfl (lv_at hl 0 rfl) ?_
  refine va_get (D := (dC, dI)) (ci := 4) (v := .ref xA) (C := mR_K) (T := mT_K) (N := 5) hx hb hg gu_K hown hK hP 0 rfl rfl 0 (by decide) (hg _ wd_97) (fun _ h9 => h9) rfl md_K_unit_1 ?_
  refine lv_iload_n hx hb md_K_unit_4 rfl (lv_at hl 1 rfl) ?_
  have hPc1 := hP.sub (ws' := [(xA, .inr (3, [.ref xL, .int xz])), (xL, .inl (cC, 300, .inl xl))]) [1, 2] rfl
  have hDc2 := hD.sub (ws' := [(xA, .inr (3, [.ref xL, .int xz])), (xL, .inl (cC, 300, .inl xl))]) [1, 2] (by decide) rfl
  have hFc3 := mu_free (wc := [(xA, .inr (3, [.ref xL, .int xz])), (xL, .inl (cC, 300, .inl xl))]) hD [1, 2] rfl
  refine va_calli (va_runV (As := [.int u0]) (rest := []) ⟨hx, hb, hml, hown, hg⟩ (ct_S_add l dC dI cC cI cJ xA xL xl xz u0 hin) (gw_cwV hg wd_117 mv_S_add rfl rfl ⟨Nat.le_of_ble_eq_true rfl, Nat.le_of_ble_eq_true rfl⟩) (mu_preV (ci := 3) (q0 := 0) pu_blT hK hPc1 hDc2 pu_e1 rfl rfl) rfl rfl hl.1 rfl (lv_room (Nat.le_of_ble_eq_true rfl)) md_K_unit_5 ⟨Nat.zero_le _, Nat.zero_le _⟩) hS (fun q _ h => hFc3 q h) hFc3 (fun r9 u9 t9 H locs ht hvm hw hB hz1 hk1 hS => ?_)
  have hw : (r9, u9) = (fS_add xl xz u0) := hw
  have er : r9 = (fS_add xl xz u0).1 := by rw [← hw]
  have hw : u9 = (fS_add xl xz u0).2 := by rw [← hw]
  subst hw
  subst er
  have hB : va_P (dC, dI) mC [(xA, .inr (3, [.ref xL, .int ((fS_add xl xz u0).2.2)])), (xL, .inl (cC, 300, .inl ((fS_add xl xz u0).2.1)))] H := by rw [← ht]; exact hB
  have hP := mu_join (ws' := [(kA, .inr (4, [.ref xA, .ref dA, .ref oA, .ref tA, .ref uA])), (xA, .inr (3, [.ref xL, .int ((fS_add xl xz u0).2.2)])), (xL, .inl (cC, 300, .inl ((fS_add xl xz u0).2.1)))]) hP hD [1, 2] [.inr 0, .inl 0, .inl 1] rfl rfl rfl hk1 hB
  have hD : va_D A [(kA, .inr (4, [.ref xA, .ref dA, .ref oA, .ref tA, .ref uA])), (xA, .inr (3, [.ref xL, .int ((fS_add xl xz u0).2.2)])), (xL, .inl (cC, 300, .inl ((fS_add xl xz u0).2.1)))] := mu_D (ws := [(kA, .inr (4, [.ref xA, .ref dA, .ref oA, .ref tA, .ref uA])), (xA, .inr (3, [.ref xL, .int xz])), (xL, .inl (cC, 300, .inl xl))]) rfl hD
  exact W.zret (v := (fS_add xl xz u0).1) hx hb hr (zS_add _ _ _) (fun t ht hW => ⟨⟨(fS_add xl xz u0).1, ((fS_add xl xz u0).2.1, (fS_add xl xz u0).2.2), rfl, rfl, by have h9 := hP; rw [← ht] at h9; exact h9⟩, hS.F ht⟩) hS.2.2 md_K_unit_8 hlocks

def fK_read (tA : Nat) (xl : Nat → Int32) (xz : Int32) (uA : Nat) (ul : Nat → Int32) (un : Nat → Int32) (us : Nat → Int32) : Int32 × (Nat → Int32) × (Nat → Int32) × (Nat → Int32) × Int32 × Int32 × Nat × Nat := if ((fT_fill ul un us xl xz).1) ≤ 0 then ((fT_fill ul un us xl xz).1, (fT_fill ul un us xl xz).2.1, (fT_fill ul un us xl xz).2.2.1, (fT_fill ul un us xl xz).2.2.2.1, (fT_fill ul un us xl xz).2.2.2.2, (fS_clear), tA, uA) else ((fT_fill ul un us xl xz).1, (fT_fill ul un us xl xz).2.1, (fT_fill ul un us xl xz).2.2.1, (fT_fill ul un us xl xz).2.2.2.1, (fT_fill ul un us xl xz).2.2.2.2, (fS_clear), uA, tA)
set_option maxHeartbeats 1000000 in
set_option maxRecDepth 100000 in
theorem ct_K_read (l : Launch) (dC : Nat → ClassId) (dI : Nat → Nat → Nat) (cC cI cJ : ClassId) (kA : Nat) (dA : Nat) (oA : Nat) (tA : Nat) (xA : Nat) (xL : Nat) (xl : Nat → Int32) (xz : Int32) (uA : Nat) (uL : Nat) (uN : Nat) (uS : Nat) (ul : Nat → Int32) (un : Nat → Int32) (us : Nat → Int32) (uz : Int32)   (hxp : ∀ q : Int32, ¬ q < 0 → ¬ xz ≤ q → vp_in q 300) (hch : ∀ j, narrow .char (.int (xl j)) = .int (xl j)) : Met l my_K_read (.code my_K_read mb_K_read 3 (some .int) :: gw_l) ({ frames := 5, cells := 0, slots := 0, locals := 122 }) (mu_Pc (dC, dI) mC [(cC, .char), (cI, .int), (cJ, .long)] [(kA, .inr (4, [.ref xA, .ref dA, .ref oA, .ref tA, .ref uA])), (xA, .inr (3, [.ref xL, .int xz])), (xL, .inl (cC, 300, .inl xl)), (uA, .inr (2, [.ref uL, .ref uN, .ref uS, .int uz])), (uL, .inl (cC, 16, .inl ul)), (uN, .inl (cI, 96, .inl un)), (uS, .inl (cI, 16, .inl us))] nw_all [.ref kA]) (va_Qi (fun (r : Int32) (u : (Nat → Int32) × (Nat → Int32) × (Nat → Int32) × Int32 × Int32 × Nat × Nat) => (r, u) = fK_read tA xl xz uA ul un us) (fun u t => va_P (dC, dI) mC [(kA, .inr (4, [.ref xA, .ref dA, .ref oA, .ref u.2.2.2.2.2.1, .ref u.2.2.2.2.2.2])), (xA, .inr (3, [.ref xL, .int u.2.2.2.2.1])), (xL, .inl (cC, 300, .inl xl)), (uA, .inr (2, [.ref uL, .ref uN, .ref uS, .int u.2.2.2.1])), (uL, .inl (cC, 16, .inl u.1)), (uN, .inl (cI, 96, .inl u.2.1)), (uS, .inl (cI, 16, .inl u.2.2.1))] t.heap) (mu_A [(kA, .inr (4, [.ref xA, .ref dA, .ref oA, .ref tA, .ref uA])), (xA, .inr (3, [.ref xL, .int xz])), (xL, .inl (cC, 300, .inl xl)), (uA, .inr (2, [.ref uL, .ref uN, .ref uS, .int uz])), (uL, .inl (cC, 16, .inl ul)), (uN, .inl (cI, 96, .inl un)), (uS, .inl (cI, 16, .inl us))])) 0 0 (mu_A [(kA, .inr (4, [.ref xA, .ref dA, .ref oA, .ref tA, .ref uA])), (xA, .inr (3, [.ref xL, .int xz])), (xL, .inl (cC, 300, .inl xl)), (uA, .inr (2, [.ref uL, .ref uN, .ref uS, .int uz])), (uL, .inl (cC, 16, .inl ul)), (uN, .inl (cI, 96, .inl un)), (uS, .inl (cI, 16, .inl us))]) := by
  refine Met.ofW (cc := mb_K_read) (maxL := 3) (ret := (some .int)) (by decide) rfl ?_
  intro p e s m args below meth c s₁ B hml hv
  obtain ⟨rfl, hP, hK, hD0, hE⟩ := hv
  have hx := B.exec
  have hb := B.bytes
  have hr := B.returns
  have hts := atoms_spec (ws := (.code my_K_read mb_K_read 3 (some .int) :: gw_l)) B.pre
  have hg : ∀ w ∈ gw_l, w.before _ s = true := fun w h => hts w (List.mem_cons_of_mem _ h)
  have hown : s.vm.findClass mR_K = some m.cls := findClass_of_methodNamed B.named
  have hlocks := B.notSynchronized
  have hD := mu_self hD0
  have hS : va_S (mu_A [(kA, .inr (4, [.ref xA, .ref dA, .ref oA, .ref tA, .ref uA])), (xA, .inr (3, [.ref xL, .int xz])), (xL, .inl (cC, 300, .inl xl)), (uA, .inr (2, [.ref uL, .ref uN, .ref uS, .int uz])), (uL, .inl (cC, 16, .inl ul)), (uN, .inl (cI, 96, .inl un)), (uS, .inl (cI, 16, .inl us))]) s.heap s.heap [] := va_S.rf
  generalize hAe : mu_A [(kA, .inr (4, [.ref xA, .ref dA, .ref oA, .ref tA, .ref uA])), (xA, .inr (3, [.ref xL, .int xz])), (xL, .inl (cC, 300, .inl xl)), (uA, .inr (2, [.ref uL, .ref uN, .ref uS, .int uz])), (uL, .inl (cC, 16, .inl ul)), (uN, .inl (cI, 96, .inl un)), (uS, .inl (cI, 16, .inl us))] = A at hD hS ⊢
  have hl := lv_entry ([.ref kA]) (n := 3) (Nat.le_of_ble_eq_true rfl)
  rw [lg_entry_eq]
  generalize (lg_sl ([.ref kA]) ++ List.replicate (3 - (lg_sl ([.ref kA])).length) Slot.unset).toArray = ls at hl ⊢
  have hl : lv_has ls 3 [(0, .ref kA)] := hl
  refine lv_aload_n hx hb md_K_read_0 rfl (lv_at hl 0 rfl) ?_
  refine va_get (D := (dC, dI)) (ci := 4) (v := .ref uA) (C := mR_K) (T := mT_K) (N := 5) hx hb hg gu_K hown hK hP 0 rfl rfl 4 (by decide) (hg _ wd_101) (fun _ h9 => h9) rfl md_K_read_1 ?_
  refine lv_aload_n hx hb md_K_read_4 rfl (lv_at hl 0 rfl) ?_
  refine va_get (D := (dC, dI)) (ci := 4) (v := .ref xA) (C := mR_K) (T := mT_K) (N := 5) hx hb hg gu_K hown hK hP 0 rfl rfl 0 (by decide) (hg _ wd_97) (fun _ h9 => h9) rfl md_K_read_5 ?_
  have hPc1 := hP.sub (ws' := [(uA, .inr (2, [.ref uL, .ref uN, .ref uS, .int uz])), (uL, .inl (cC, 16, .inl ul)), (uN, .inl (cI, 96, .inl un)), (uS, .inl (cI, 16, .inl us)), (xA, .inr (3, [.ref xL, .int xz])), (xL, .inl (cC, 300, .inl xl))]) [3, 4, 5, 6, 1, 2] rfl
  have hDc2 := hD.sub (ws' := [(uA, .inr (2, [.ref uL, .ref uN, .ref uS, .int uz])), (uL, .inl (cC, 16, .inl ul)), (uN, .inl (cI, 96, .inl un)), (uS, .inl (cI, 16, .inl us)), (xA, .inr (3, [.ref xL, .int xz])), (xL, .inl (cC, 300, .inl xl))]) [3, 4, 5, 6, 1, 2] (by decide) rfl
  have hFc3 := mu_free (wc := [(uA, .inr (2, [.ref uL, .ref uN, .ref uS, .int uz])), (uL, .inl (cC, 16, .inl ul)), (uN, .inl (cI, 96, .inl un)), (uS, .inl (cI, 16, .inl us)), (xA, .inr (3, [.ref xL, .int xz])), (xL, .inl (cC, 300, .inl xl))]) hD [3, 4, 5, 6, 1, 2] rfl
  refine va_calli (va_runV (As := [.ref xA]) (rest := []) ⟨hx, hb, hml, hown, hg⟩ (ct_T_fill l dC dI cC cI cJ uA uL uN uS ul un us uz xA xL xl xz hxp hch) (gw_cwV hg wd_125 mv_T_fill rfl rfl ⟨Nat.le_of_ble_eq_true rfl, Nat.le_of_ble_eq_true rfl⟩) (mu_preV (ci := 2) (q0 := 0) nw_all_bl hK hPc1 hDc2 (fun U _ hW => nw_warm hW hE) rfl rfl) rfl rfl hl.1 rfl (lv_room (Nat.le_of_ble_eq_true rfl)) md_K_read_8 ⟨Nat.zero_le _, Nat.zero_le _⟩) hS (fun q _ h => hFc3 q h) hFc3 (fun r9 u9 t9 H locs ht hvm hw hB hz1 hk1 hS => ?_)
  have hw : (r9, u9) = (fT_fill ul un us xl xz) := hw
  have er : r9 = (fT_fill ul un us xl xz).1 := by rw [← hw]
  have hw : u9 = (fT_fill ul un us xl xz).2 := by rw [← hw]
  subst hw
  subst er
  have hB : va_P (dC, dI) mC [(uA, .inr (2, [.ref uL, .ref uN, .ref uS, .int ((fT_fill ul un us xl xz).2.2.2.2)])), (uL, .inl (cC, 16, .inl ((fT_fill ul un us xl xz).2.1))), (uN, .inl (cI, 96, .inl ((fT_fill ul un us xl xz).2.2.1))), (uS, .inl (cI, 16, .inl ((fT_fill ul un us xl xz).2.2.2.1))), (xA, .inr (3, [.ref xL, .int xz])), (xL, .inl (cC, 300, .inl xl))] H := by rw [← ht]; exact hB
  have hP := mu_join (ws' := [(kA, .inr (4, [.ref xA, .ref dA, .ref oA, .ref tA, .ref uA])), (xA, .inr (3, [.ref xL, .int xz])), (xL, .inl (cC, 300, .inl xl)), (uA, .inr (2, [.ref uL, .ref uN, .ref uS, .int ((fT_fill ul un us xl xz).2.2.2.2)])), (uL, .inl (cC, 16, .inl ((fT_fill ul un us xl xz).2.1))), (uN, .inl (cI, 96, .inl ((fT_fill ul un us xl xz).2.2.1))), (uS, .inl (cI, 16, .inl ((fT_fill ul un us xl xz).2.2.2.1)))]) hP hD [3, 4, 5, 6, 1, 2] [.inr 0, .inl 4, .inl 5, .inl 0, .inl 1, .inl 2, .inl 3] rfl rfl rfl hk1 hB
  have hD : va_D A [(kA, .inr (4, [.ref xA, .ref dA, .ref oA, .ref tA, .ref uA])), (xA, .inr (3, [.ref xL, .int xz])), (xL, .inl (cC, 300, .inl xl)), (uA, .inr (2, [.ref uL, .ref uN, .ref uS, .int ((fT_fill ul un us xl xz).2.2.2.2)])), (uL, .inl (cC, 16, .inl ((fT_fill ul un us xl xz).2.1))), (uN, .inl (cI, 96, .inl ((fT_fill ul un us xl xz).2.2.1))), (uS, .inl (cI, 16, .inl ((fT_fill ul un us xl xz).2.2.2.1)))] := mu_D (ws := [(kA, .inr (4, [.ref xA, .ref dA, .ref oA, .ref tA, .ref uA])), (xA, .inr (3, [.ref xL, .int xz])), (xL, .inl (cC, 300, .inl xl)), (uA, .inr (2, [.ref uL, .ref uN, .ref uS, .int uz])), (uL, .inl (cC, 16, .inl ul)), (uN, .inl (cI, 96, .inl un)), (uS, .inl (cI, 16, .inl us))]) rfl hD
  refine lv_istore_n (lv' := [(1, .int ((fT_fill ul un us xl xz).1)), (0, .ref kA)]) hx hb md_K_read_11 rfl hl (by decide) rfl (fun ls hl => ?_)
  refine lv_aload_n hx hb md_K_read_12 rfl (lv_at hl 1 rfl) ?_
  refine va_get (D := (dC, dI)) (ci := 4) (v := .ref xA) (C := mR_K) (T := mT_K) (N := 5) hx hb hg gu_K hown hK hP 0 rfl rfl 0 (by decide) (hg _ wd_97) (fun _ h9 => h9) rfl md_K_read_13 ?_
  have hPc4 := hP.sub (ws' := [(xA, .inr (3, [.ref xL, .int xz])), (xL, .inl (cC, 300, .inl xl))]) [1, 2] rfl
  have hDc5 := hD.sub (ws' := [(xA, .inr (3, [.ref xL, .int xz])), (xL, .inl (cC, 300, .inl xl))]) [1, 2] (by decide) rfl
  have hFc6 := mu_free (wc := [(xA, .inr (3, [.ref xL, .int xz])), (xL, .inl (cC, 300, .inl xl))]) hD [1, 2] rfl
  refine va_callv (va_runV (As := []) (rest := []) ⟨hx, hb, hml, hown, hg⟩ (ct_S_clear l dC dI cC cI cJ xA xL xl xz) (gw_cwV hg wd_166 mv_S_clear rfl rfl ⟨Nat.le_of_ble_eq_true rfl, Nat.le_of_ble_eq_true rfl⟩) (mu_preV (ci := 3) (q0 := 0) pu_blT hK hPc4 hDc5 pu_e1 rfl rfl) rfl rfl hl.1 rfl (lv_room (Nat.le_of_ble_eq_true rfl)) md_K_read_16 ⟨Nat.zero_le _, Nat.zero_le _⟩) hS (fun q _ h => hFc6 q h) hFc6 (fun u9 t9 H locs ht hvm hw hB hz1 hk1 hS => ?_)
  have hw : u9 = (fS_clear) := hw
  subst hw
  have hB : va_P (dC, dI) mC [(xA, .inr (3, [.ref xL, .int (fS_clear)])), (xL, .inl (cC, 300, .inl xl))] H := by rw [← ht]; exact hB
  have hP := mu_join (ws' := [(kA, .inr (4, [.ref xA, .ref dA, .ref oA, .ref tA, .ref uA])), (xA, .inr (3, [.ref xL, .int (fS_clear)])), (xL, .inl (cC, 300, .inl xl)), (uA, .inr (2, [.ref uL, .ref uN, .ref uS, .int ((fT_fill ul un us xl xz).2.2.2.2)])), (uL, .inl (cC, 16, .inl ((fT_fill ul un us xl xz).2.1))), (uN, .inl (cI, 96, .inl ((fT_fill ul un us xl xz).2.2.1))), (uS, .inl (cI, 16, .inl ((fT_fill ul un us xl xz).2.2.2.1)))]) hP hD [1, 2] [.inr 0, .inl 0, .inl 1, .inr 3, .inr 4, .inr 5, .inr 6] rfl rfl rfl hk1 hB
  have hD : va_D A [(kA, .inr (4, [.ref xA, .ref dA, .ref oA, .ref tA, .ref uA])), (xA, .inr (3, [.ref xL, .int (fS_clear)])), (xL, .inl (cC, 300, .inl xl)), (uA, .inr (2, [.ref uL, .ref uN, .ref uS, .int ((fT_fill ul un us xl xz).2.2.2.2)])), (uL, .inl (cC, 16, .inl ((fT_fill ul un us xl xz).2.1))), (uN, .inl (cI, 96, .inl ((fT_fill ul un us xl xz).2.2.1))), (uS, .inl (cI, 16, .inl ((fT_fill ul un us xl xz).2.2.2.1)))] := mu_D (ws := [(kA, .inr (4, [.ref xA, .ref dA, .ref oA, .ref tA, .ref uA])), (xA, .inr (3, [.ref xL, .int xz])), (xL, .inl (cC, 300, .inl xl)), (uA, .inr (2, [.ref uL, .ref uN, .ref uS, .int ((fT_fill ul un us xl xz).2.2.2.2)])), (uL, .inl (cC, 16, .inl ((fT_fill ul un us xl xz).2.1))), (uN, .inl (cI, 96, .inl ((fT_fill ul un us xl xz).2.2.1))), (uS, .inl (cI, 16, .inl ((fT_fill ul un us xl xz).2.2.2.1)))]) rfl hD
  refine lv_iload_n hx hb md_K_read_19 rfl (lv_at hl 0 rfl) ?_
  refine lv_if_le (tgt := 41) hx hb md_K_read_20 (by decide) (fun c7 => ?_) (fun c7 => ?_)
  · refine lv_iload_n hx hb md_K_read_41 rfl (lv_at hl 0 rfl) ?_
    exact W.iret (v := (fT_fill ul un us xl xz).1) hx hb hr (fun t ht hW => ⟨⟨(fT_fill ul un us xl xz).1, ((fT_fill ul un us xl xz).2.1, (fT_fill ul un us xl xz).2.2.1, (fT_fill ul un us xl xz).2.2.2.1, (fT_fill ul un us xl xz).2.2.2.2, (fS_clear), tA, uA), rfl, (by rw [fK_read, if_pos c7]), by have h9 := hP; rw [← ht] at h9; exact h9⟩, hS.F ht⟩) hS.2.2 md_K_read_42 hlocks
  · refine lv_aload_n hx hb md_K_read_23 rfl (lv_at hl 1 rfl) ?_
    refine va_get (D := (dC, dI)) (ci := 4) (v := .ref uA) (C := mR_K) (T := mT_K) (N := 5) hx hb hg gu_K hown hK hP 0 rfl rfl 4 (by decide) (hg _ wd_101) (fun _ h9 => h9) rfl md_K_read_24 ?_
    refine lv_astore_n (lv' := [(2, .ref uA), (1, .int ((fT_fill ul un us xl xz).1)), (0, .ref kA)]) hx hb md_K_read_27 rfl hl (by decide) rfl (fun ls hl => ?_)
    refine lv_aload_n hx hb md_K_read_28 rfl (lv_at hl 2 rfl) ?_
    refine lv_aload_n hx hb md_K_read_29 rfl (lv_at hl 2 rfl) ?_
    refine va_get (D := (dC, dI)) (ci := 4) (v := .ref tA) (C := mR_K) (T := mT_K) (N := 5) hx hb hg gu_K hown hK hP 0 rfl rfl 3 (by decide) (hg _ wd_100) (fun _ h9 => h9) rfl md_K_read_30 ?_
    refine va_put (D := (dC, dI)) (ci := 4) (v := .ref tA) (ty := (.object "HingeTables$Table")) (C := mR_K) (T := mT_K) (N := 5) hx hb hg gu_K mF_K mO_K mN_K hown hK hP hD hS 0 rfl rfl 4 (by decide) (hg _ wd_101) (fun _ h9 => h9) rfl (by decide +kernel) rfl rfl (Nat.le_of_ble_eq_true rfl) md_K_read_33 (fun H locs hP hD hS => ?_)
    have hP : va_P (dC, dI) mC [(kA, .inr (4, [.ref xA, .ref dA, .ref oA, .ref tA, .ref tA])), (xA, .inr (3, [.ref xL, .int (fS_clear)])), (xL, .inl (cC, 300, .inl xl)), (uA, .inr (2, [.ref uL, .ref uN, .ref uS, .int ((fT_fill ul un us xl xz).2.2.2.2)])), (uL, .inl (cC, 16, .inl ((fT_fill ul un us xl xz).2.1))), (uN, .inl (cI, 96, .inl ((fT_fill ul un us xl xz).2.2.1))), (uS, .inl (cI, 16, .inl ((fT_fill ul un us xl xz).2.2.2.1)))] H := hP
    have hD : va_D A [(kA, .inr (4, [.ref xA, .ref dA, .ref oA, .ref tA, .ref tA])), (xA, .inr (3, [.ref xL, .int (fS_clear)])), (xL, .inl (cC, 300, .inl xl)), (uA, .inr (2, [.ref uL, .ref uN, .ref uS, .int ((fT_fill ul un us xl xz).2.2.2.2)])), (uL, .inl (cC, 16, .inl ((fT_fill ul un us xl xz).2.1))), (uN, .inl (cI, 96, .inl ((fT_fill ul un us xl xz).2.2.1))), (uS, .inl (cI, 16, .inl ((fT_fill ul un us xl xz).2.2.2.1)))] := hD
    refine lv_aload_n hx hb md_K_read_36 rfl (lv_at hl 2 rfl) ?_
    refine lv_aload_n hx hb md_K_read_37 rfl (lv_at hl 0 rfl) ?_
    refine va_put (D := (dC, dI)) (ci := 4) (v := .ref uA) (ty := (.object "HingeTables$Table")) (C := mR_K) (T := mT_K) (N := 5) hx hb hg gu_K mF_K mO_K mN_K hown hK hP hD hS 0 rfl rfl 3 (by decide) (hg _ wd_100) (fun _ h9 => h9) rfl (by decide +kernel) rfl rfl (Nat.le_of_ble_eq_true rfl) md_K_read_38 (fun H locs hP hD hS => ?_)
    have hP : va_P (dC, dI) mC [(kA, .inr (4, [.ref xA, .ref dA, .ref oA, .ref uA, .ref tA])), (xA, .inr (3, [.ref xL, .int (fS_clear)])), (xL, .inl (cC, 300, .inl xl)), (uA, .inr (2, [.ref uL, .ref uN, .ref uS, .int ((fT_fill ul un us xl xz).2.2.2.2)])), (uL, .inl (cC, 16, .inl ((fT_fill ul un us xl xz).2.1))), (uN, .inl (cI, 96, .inl ((fT_fill ul un us xl xz).2.2.1))), (uS, .inl (cI, 16, .inl ((fT_fill ul un us xl xz).2.2.2.1)))] H := hP
    have hD : va_D A [(kA, .inr (4, [.ref xA, .ref dA, .ref oA, .ref uA, .ref tA])), (xA, .inr (3, [.ref xL, .int (fS_clear)])), (xL, .inl (cC, 300, .inl xl)), (uA, .inr (2, [.ref uL, .ref uN, .ref uS, .int ((fT_fill ul un us xl xz).2.2.2.2)])), (uL, .inl (cC, 16, .inl ((fT_fill ul un us xl xz).2.1))), (uN, .inl (cI, 96, .inl ((fT_fill ul un us xl xz).2.2.1))), (uS, .inl (cI, 16, .inl ((fT_fill ul un us xl xz).2.2.2.1)))] := hD
    refine lv_iload_n hx hb md_K_read_41 rfl (lv_at hl 1 rfl) ?_
    exact W.iret (v := (fT_fill ul un us xl xz).1) hx hb hr (fun t ht hW => ⟨⟨(fT_fill ul un us xl xz).1, ((fT_fill ul un us xl xz).2.1, (fT_fill ul un us xl xz).2.2.1, (fT_fill ul un us xl xz).2.2.2.1, (fT_fill ul un us xl xz).2.2.2.2, (fS_clear), uA, tA), rfl, (by rw [fK_read, if_neg c7]), by have h9 := hP; rw [← ht] at h9; exact h9⟩, hS.F ht⟩) hS.2.2 md_K_read_42 hlocks
