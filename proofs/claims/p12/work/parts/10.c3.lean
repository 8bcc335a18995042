theorem nx_6e {i : Nat} {x : Int32} (k : Nat) (h : i < 16) (hk : k < 6) (e : x = nI k) : vp_in (nI i * 6 + x) 96 := by rw [e]; exact nx_6 h hk
theorem nx_b {best : Int32} (h : best < 0 ∨ ∃ j, j < 16 ∧ best = nI j) (c : ¬ best < 0) : vp_in (best * 6 + 0) 96 := by
  rcases h with h | ⟨j, hj, rfl⟩
  · exact absurd h c
  · exact nx_6e 0 hj (by decide) (by decide)

def fT_canReplace (tl : Nat → Int32) (tn : Nat → Int32) (ts : Nat → Int32) (cand : Int32) (row : Int32) : Int32 := if (fT_isStocked tl ts cand 104) = 0 then 0 else (if (fT_holds tn cand 0 (Int32.toInt64 (fT_number tn row 0)) (Int32.toInt64 (fT_number tn row 1))) = 0 then 0 else (if (fT_holds tn cand 2 (Int32.toInt64 (fT_number tn row 2)) (Int32.toInt64 (fT_number tn row 3))) = 0 then 0 else (if (fT_number tn cand 4) < (fT_number tn row 4) then 0 else 1)))
theorem zT_canReplace (tl : Nat → Int32) (tn : Nat → Int32) (ts : Nat → Int32) (cand : Int32) (row : Int32) : narrow .boolean (.int (fT_canReplace tl tn ts cand row)) = .int (fT_canReplace tl tn ts cand row) := by
  unfold fT_canReplace
  repeat' split
  all_goals first | rfl | exact zK_isWithin _ _ _
set_option maxHeartbeats 1000000 in
set_option maxRecDepth 100000 in
theorem ct_T_canReplace (l : Launch) (dC : Nat → ClassId) (dI : Nat → Nat → Nat) (cC cI cJ : ClassId) (tA : Nat) (tL : Nat) (tN : Nat) (tS : Nat) (tl : Nat → Int32) (tn : Nat → Int32) (ts : Nat → Int32) (tz : Int32) (cand : Int32) (row : Int32)  (hc : vp_in cand 16) (hcn : ∀ (x : Int32) (k : Nat), k < 6 → x = nI k → vp_in (cand * 6 + x) 96) (hrn : ∀ (x : Int32) (k : Nat), k < 6 → x = nI k → vp_in (row * 6 + x) 96) : Met l my_T_canReplace (.code my_T_canReplace mb_T_canReplace 3 (some .boolean) :: gw_l) ({ frames := 2, cells := 0, slots := 0, locals := 48 }) (pu_Pc (dC, dI) mC [(cC, .char), (cI, .int), (cJ, .long)] [(tA, .inr (2, [.ref tL, .ref tN, .ref tS, .int tz])), (tL, .inl (cC, 16, .inl tl)), (tN, .inl (cI, 96, .inl tn)), (tS, .inl (cI, 16, .inl ts))] (fun _ => True) [.ref tA, .int cand, .int row]) (vp_Si (fun r => r = fT_canReplace tl tn ts cand row)) 0 0 (fun _ => False) := by
  refine Met.ofW (cc := mb_T_canReplace) (maxL := 3) (ret := (some .boolean)) (by decide) rfl ?_
  intro p e s m args below meth c s₁ B hml hv
  obtain ⟨rfl, hP, hK, hE⟩ := hv
  have hx := B.exec
  have hb := B.bytes
  have hr := B.returns
  have hts := atoms_spec (ws := (.code my_T_canReplace mb_T_canReplace 3 (some .boolean) :: gw_l)) B.pre
  have hg : ∀ w ∈ gw_l, w.before _ s = true := fun w h => hts w (List.mem_cons_of_mem _ h)
  have hown : s.vm.findClass mR_T = some m.cls := findClass_of_methodNamed B.named
  have hlocks := B.notSynchronized
  have hl := lv_entry ([.ref tA, .int cand, .int row]) (n := 3) (Nat.le_of_ble_eq_true rfl)
  rw [lg_entry_eq]
  generalize (lg_sl ([.ref tA, .int cand, .int row]) ++ List.replicate (3 - (lg_sl ([.ref tA, .int cand, .int row])).length) Slot.unset).toArray = ls at hl ⊢
  have hl : lv_has ls 3 [(0, .ref tA), (1, .int cand), (2, .int row)] := hl
  refine lv_aload_n hx hb md_T_canReplace_0 rfl (lv_at hl 0 rfl) ?_
  refine lv_iload_n hx hb md_T_canReplace_1 rfl (lv_at hl 1 rfl) ?_
  refine lv_bipush (v := 104) hx hb md_T_canReplace_2 (by decide) ?_
  have hPc1 := hP.sub (ws' := [(tA, .inr (2, [.ref tL, .ref tN, .ref tS, .int tz])), (tL, .inl (cC, 16, .inl tl)), (tN, .inl (cI, 96, .inl tn)), (tS, .inl (cI, 16, .inl ts))]) [0, 1, 2, 3] rfl
  refine pu_i (W.runV (As := [.int cand, .int 104]) (rest := []) ⟨hx, hb, hml, hown, hg⟩ (ct_T_isStocked l dC dI cC cI cJ tA tL tN tS tl tn ts tz cand 104 hc) (gw_cwV hg wd_317 mv_T_isStocked rfl rfl ⟨Nat.le_of_ble_eq_true rfl, Nat.le_of_ble_eq_true rfl⟩) (pu_preV (ci := 2) (q0 := 0) pu_blT hK hPc1 pu_e1 rfl rfl) rfl rfl hl.1 rfl (lv_room (Nat.le_of_ble_eq_true rfl)) md_T_canReplace_4 ⟨Nat.zero_le _, Nat.zero_le _⟩) ?_
  refine lv_if_eq (tgt := 75) hx hb md_T_canReplace_7 (by decide) (fun c2 => ?_) (fun c2 => ?_)
  · refine lv_iconst (v := 0) hx hb md_T_canReplace_75 (by decide) ?_
    exact pu_zret hx hb hr hlocks rfl md_T_canReplace_76 (by rw [fT_canReplace, if_pos c2])
  · refine lv_aload_n hx hb md_T_canReplace_10 rfl (lv_at hl 0 rfl) ?_
    refine lv_iload_n hx hb md_T_canReplace_11 rfl (lv_at hl 1 rfl) ?_
    refine lv_iconst (v := 0) hx hb md_T_canReplace_12 (by decide) ?_
    refine lv_aload_n hx hb md_T_canReplace_13 rfl (lv_at hl 0 rfl) ?_
    refine lv_iload_n hx hb md_T_canReplace_14 rfl (lv_at hl 2 rfl) ?_
    refine lv_iconst (v := 0) hx hb md_T_canReplace_15 (by decide) ?_
    have hPc3 := hP.sub (ws' := [(tA, .inr (2, [.ref tL, .ref tN, .ref tS, .int tz])), (tL, .inl (cC, 16, .inl tl)), (tN, .inl (cI, 96, .inl tn)), (tS, .inl (cI, 16, .inl ts))]) [0, 1, 2, 3] rfl
    refine pu_i (W.runV (As := [.int row, .int 0]) (rest := [.int 0, .int cand, .ref tA]) ⟨hx, hb, hml, hown, hg⟩ (ct_T_number l dC dI cC cI cJ tA tL tN tS tl tn ts tz row 0 (hrn _ 0 (by decide) (by decide))) (gw_cwV hg wd_162 mv_T_number rfl rfl ⟨Nat.le_of_ble_eq_true rfl, Nat.le_of_ble_eq_true rfl⟩) (pu_preV (ci := 2) (q0 := 0) pu_blT hK hPc3 pu_e1 rfl rfl) rfl rfl hl.1 rfl (lv_room (Nat.le_of_ble_eq_true rfl)) md_T_canReplace_16 ⟨Nat.zero_le _, Nat.zero_le _⟩) ?_
    refine lv_i2l (v := Int32.toInt64 (fT_number tn row 0)) hx hb md_T_canReplace_19 rfl ?_
    refine lv_aload_n hx hb md_T_canReplace_20 rfl (lv_at hl 0 rfl) ?_
    refine lv_iload_n hx hb md_T_canReplace_21 rfl (lv_at hl 2 rfl) ?_
    refine lv_iconst (v := 1) hx hb md_T_canReplace_22 (by decide) ?_
    have hPc4 := hP.sub (ws' := [(tA, .inr (2, [.ref tL, .ref tN, .ref tS, .int tz])), (tL, .inl (cC, 16, .inl tl)), (tN, .inl (cI, 96, .inl tn)), (tS, .inl (cI, 16, .inl ts))]) [0, 1, 2, 3] rfl
    refine pu_i (W.runV (As := [.int row, .int 1]) (rest := [.long (Int32.toInt64 (fT_number tn row 0)), .int 0, .int cand, .ref tA]) ⟨hx, hb, hml, hown, hg⟩ (ct_T_number l dC dI cC cI cJ tA tL tN tS tl tn ts tz row 1 (hrn _ 1 (by decide) (by decide))) (gw_cwV hg wd_162 mv_T_number rfl rfl ⟨Nat.le_of_ble_eq_true rfl, Nat.le_of_ble_eq_true rfl⟩) (pu_preV (ci := 2) (q0 := 0) pu_blT hK hPc4 pu_e1 rfl rfl) rfl rfl hl.1 rfl (lv_room (Nat.le_of_ble_eq_true rfl)) md_T_canReplace_23 ⟨Nat.zero_le _, Nat.zero_le _⟩) ?_
    refine lv_i2l (v := Int32.toInt64 (fT_number tn row 1)) hx hb md_T_canReplace_26 rfl ?_
    have hPc5 := hP.sub (ws' := [(tA, .inr (2, [.ref tL, .ref tN, .ref tS, .int tz])), (tL, .inl (cC, 16, .inl tl)), (tN, .inl (cI, 96, .inl tn)), (tS, .inl (cI, 16, .inl ts))]) [0, 1, 2, 3] rfl
    refine pu_i (W.runV (As := [.int cand, .int 0, .long (Int32.toInt64 (fT_number tn row 0)), .long (Int32.toInt64 (fT_number tn row 1))]) (rest := []) ⟨hx, hb, hml, hown, hg⟩ (ct_T_holds l dC dI cC cI cJ tA tL tN tS tl tn ts tz cand 0 (Int32.toInt64 (fT_number tn row 0)) (Int32.toInt64 (fT_number tn row 1)) (hcn _ 0 (by decide) (by decide)) (hcn _ 1 (by decide) (by decide))) (gw_cwV hg wd_321 mv_T_holds rfl rfl ⟨Nat.le_of_ble_eq_true rfl, Nat.le_of_ble_eq_true rfl⟩) (pu_preV (ci := 2) (q0 := 0) pu_blT hK hPc5 pu_e1 rfl rfl) rfl rfl hl.1 rfl (lv_room (Nat.le_of_ble_eq_true rfl)) md_T_canReplace_27 ⟨Nat.zero_le _, Nat.zero_le _⟩) ?_
    refine lv_if_eq (tgt := 75) hx hb md_T_canReplace_30 (by decide) (fun c6 => ?_) (fun c6 => ?_)
    · refine lv_iconst (v := 0) hx hb md_T_canReplace_75 (by decide) ?_
      exact pu_zret hx hb hr hlocks rfl md_T_canReplace_76 (by rw [fT_canReplace, if_neg c2, if_pos c6])
    · refine lv_aload_n hx hb md_T_canReplace_33 rfl (lv_at hl 0 rfl) ?_
      refine lv_iload_n hx hb md_T_canReplace_34 rfl (lv_at hl 1 rfl) ?_
      refine lv_iconst (v := 2) hx hb md_T_canReplace_35 (by decide) ?_
      refine lv_aload_n hx hb md_T_canReplace_36 rfl (lv_at hl 0 rfl) ?_
      refine lv_iload_n hx hb md_T_canReplace_37 rfl (lv_at hl 2 rfl) ?_
      refine lv_iconst (v := 2) hx hb md_T_canReplace_38 (by decide) ?_
      have hPc7 := hP.sub (ws' := [(tA, .inr (2, [.ref tL, .ref tN, .ref tS, .int tz])), (tL, .inl (cC, 16, .inl tl)), (tN, .inl (cI, 96, .inl tn)), (tS, .inl (cI, 16, .inl ts))]) [0, 1, 2, 3] rfl
      refine pu_i (W.runV (As := [.int row, .int 2]) (rest := [.int 2, .int cand, .ref tA]) ⟨hx, hb, hml, hown, hg⟩ (ct_T_number l dC dI cC cI cJ tA tL tN tS tl tn ts tz row 2 (hrn _ 2 (by decide) (by decide))) (gw_cwV hg wd_162 mv_T_number rfl rfl ⟨Nat.le_of_ble_eq_true rfl, Nat.le_of_ble_eq_true rfl⟩) (pu_preV (ci := 2) (q0 := 0) pu_blT hK hPc7 pu_e1 rfl rfl) rfl rfl hl.1 rfl (lv_room (Nat.le_of_ble_eq_true rfl)) md_T_canReplace_39 ⟨Nat.zero_le _, Nat.zero_le _⟩) ?_
      refine lv_i2l (v := Int32.toInt64 (fT_number tn row 2)) hx hb md_T_canReplace_42 rfl ?_
      refine lv_aload_n hx hb md_T_canReplace_43 rfl (lv_at hl 0 rfl) ?_
      refine lv_iload_n hx hb md_T_canReplace_44 rfl (lv_at hl 2 rfl) ?_
      refine lv_iconst (v := 3) hx hb md_T_canReplace_45 (by decide) ?_
      have hPc8 := hP.sub (ws' := [(tA, .inr (2, [.ref tL, .ref tN, .ref tS, .int tz])), (tL, .inl (cC, 16, .inl tl)), (tN, .inl (cI, 96, .inl tn)), (tS, .inl (cI, 16, .inl ts))]) [0, 1, 2, 3] rfl
      refine pu_i (W.runV (As := [.int row, .int 3]) (rest := [.long (Int32.toInt64 (fT_number tn row 2)), .int 2, .int cand, .ref tA]) ⟨hx, hb, hml, hown, hg⟩ (ct_T_number l dC dI cC cI cJ tA tL tN tS tl tn ts tz row 3 (hrn _ 3 (by decide) (by decide))) (gw_cwV hg wd_162 mv_T_number rfl rfl ⟨Nat.le_of_ble_eq_true rfl, Nat.le_of_ble_eq_true rfl⟩) (pu_preV (ci := 2) (q0 := 0) pu_blT hK hPc8 pu_e1 rfl rfl) rfl rfl hl.1 rfl (lv_room (Nat.le_of_ble_eq_true rfl)) md_T_canReplace_46 ⟨Nat.zero_le _, Nat.zero_le _⟩) ?_
      refine lv_i2l (v := Int32.toInt64 (fT_number tn row 3)) hx hb md_T_canReplace_49 rfl ?_
      have hPc9 := hP.sub (ws' := [(tA, .inr (2, [.ref tL, .ref tN, .ref tS, .int tz])), (tL, .inl (cC, 16, .inl tl)), (tN, .inl (cI, 96, .inl tn)), (tS, .inl (cI, 16, .inl ts))]) [0, 1, 2, 3] rfl
      refine pu_i (W.runV (As := [.int cand, .int 2, .long (Int32.toInt64 (fT_number tn row 2)), .long (Int32.toInt64 (fT_number tn row 3))]) (rest := []) ⟨hx, hb, hml, hown, hg⟩ (ct_T_holds l dC dI cC cI cJ tA tL tN tS tl tn ts tz cand 2 (Int32.toInt64 (fT_number tn row 2)) (Int32.toInt64 (fT_number tn row 3)) (hcn _ 2 (by decide) (by decide)) (hcn _ 3 (by decide) (by decide))) (gw_cwV hg wd_321 mv_T_holds rfl rfl ⟨Nat.le_of_ble_eq_true rfl, Nat.le_of_ble_eq_true rfl⟩) (pu_preV (ci := 2) (q0 := 0) pu_blT hK hPc9 pu_e1 rfl rfl) rfl rfl hl.1 rfl (lv_room (Nat.le_of_ble_eq_true rfl)) md_T_canReplace_50 ⟨Nat.zero_le _, Nat.zero_le _⟩) ?_
      refine lv_if_eq (tgt := 75) hx hb md_T_canReplace_53 (by decide) (fun c10 => ?_) (fun c10 => ?_)
      · refine lv_iconst (v := 0) hx hb md_T_canReplace_75 (by decide) ?_
        exact pu_zret hx hb hr hlocks rfl md_T_canReplace_76 (by rw [fT_canReplace, if_neg c2, if_neg c6, if_pos c10])
      · refine lv_aload_n hx hb md_T_canReplace_56 rfl (lv_at hl 0 rfl) ?_
        refine lv_iload_n hx hb md_T_canReplace_57 rfl (lv_at hl 1 rfl) ?_
        refine lv_iconst (v := 4) hx hb md_T_canReplace_58 (by decide) ?_
        have hPc11 := hP.sub (ws' := [(tA, .inr (2, [.ref tL, .ref tN, .ref tS, .int tz])), (tL, .inl (cC, 16, .inl tl)), (tN, .inl (cI, 96, .inl tn)), (tS, .inl (cI, 16, .inl ts))]) [0, 1, 2, 3] rfl
        refine pu_i (W.runV (As := [.int cand, .int 4]) (rest := []) ⟨hx, hb, hml, hown, hg⟩ (ct_T_number l dC dI cC cI cJ tA tL tN tS tl tn ts tz cand 4 (hcn _ 4 (by decide) (by decide))) (gw_cwV hg wd_162 mv_T_number rfl rfl ⟨Nat.le_of_ble_eq_true rfl, Nat.le_of_ble_eq_true rfl⟩) (pu_preV (ci := 2) (q0 := 0) pu_blT hK hPc11 pu_e1 rfl rfl) rfl rfl hl.1 rfl (lv_room (Nat.le_of_ble_eq_true rfl)) md_T_canReplace_59 ⟨Nat.zero_le _, Nat.zero_le _⟩) ?_
        refine lv_aload_n hx hb md_T_canReplace_62 rfl (lv_at hl 0 rfl) ?_
        refine lv_iload_n hx hb md_T_canReplace_63 rfl (lv_at hl 2 rfl) ?_
        refine lv_iconst (v := 4) hx hb md_T_canReplace_64 (by decide) ?_
        have hPc12 := hP.sub (ws' := [(tA, .inr (2, [.ref tL, .ref tN, .ref tS, .int tz])), (tL, .inl (cC, 16, .inl tl)), (tN, .inl (cI, 96, .inl tn)), (tS, .inl (cI, 16, .inl ts))]) [0, 1, 2, 3] rfl
        refine pu_i (W.runV (As := [.int row, .int 4]) (rest := [.int (fT_number tn cand 4)]) ⟨hx, hb, hml, hown, hg⟩ (ct_T_number l dC dI cC cI cJ tA tL tN tS tl tn ts tz row 4 (hrn _ 4 (by decide) (by decide))) (gw_cwV hg wd_162 mv_T_number rfl rfl ⟨Nat.le_of_ble_eq_true rfl, Nat.le_of_ble_eq_true rfl⟩) (pu_preV (ci := 2) (q0 := 0) pu_blT hK hPc12 pu_e1 rfl rfl) rfl rfl hl.1 rfl (lv_room (Nat.le_of_ble_eq_true rfl)) md_T_canReplace_65 ⟨Nat.zero_le _, Nat.zero_le _⟩) ?_
        refine lv_icmp_lt (tgt := 75) hx hb md_T_canReplace_68 (by decide) (fun c13 => ?_) (fun c13 => ?_)
        · refine lv_iconst (v := 0) hx hb md_T_canReplace_75 (by decide) ?_
          exact pu_zret hx hb hr hlocks rfl md_T_canReplace_76 (by rw [fT_canReplace, if_neg c2, if_neg c6, if_neg c10, if_pos c13])
        · refine lv_iconst (v := 1) hx hb md_T_canReplace_71 (by decide) ?_
          refine lv_goto (tgt := 76) hx hb md_T_canReplace_72 (by decide) ?_
          exact pu_zret hx hb hr hlocks rfl md_T_canReplace_76 (by rw [fT_canReplace, if_neg c2, if_neg c6, if_neg c10, if_neg c13])

def gT_firstHinge (tl : Nat → Int32) (tn : Nat → Int32) (ts : Nat → Int32) (tz : Nat) (overlay : Int64) (thick : Int64) (angle : Int32) : Nat → Nat → Int32
  | 0, _ => 0
  | n + 1, i => if (nI tz) ≤ (nI i) then (-1) else (if (fT_isStocked tl ts (nI i) 104) = 0 then (gT_firstHinge tl tn ts tz overlay thick angle n (i + 1)) else (if (fT_holds tn (nI i) 0 overlay overlay) = 0 then (gT_firstHinge tl tn ts tz overlay thick angle n (i + 1)) else (if (fT_holds tn (nI i) 2 thick thick) = 0 then (gT_firstHinge tl tn ts tz overlay thick angle n (i + 1)) else (if (fT_number tn (nI i) 4) < angle then (gT_firstHinge tl tn ts tz overlay thick angle n (i + 1)) else (nI i)))))
def fT_firstHinge (tl : Nat → Int32) (tn : Nat → Int32) (ts : Nat → Int32) (tz : Nat) (overlay : Int64) (thick : Int64) (angle : Int32) : Int32 := gT_firstHinge tl tn ts tz overlay thick angle (tz + 1) 0
set_option maxHeartbeats 1000000 in
set_option maxRecDepth 100000 in
theorem ct_T_firstHinge (l : Launch) (dC : Nat → ClassId) (dI : Nat → Nat → Nat) (cC cI cJ : ClassId) (tA : Nat) (tL : Nat) (tN : Nat) (tS : Nat) (tl : Nat → Int32) (tn : Nat → Int32) (ts : Nat → Int32) (tz : Nat) (overlay : Int64) (thick : Int64) (angle : Int32)  (hz : tz ≤ 16) : Met l my_T_firstHinge (.code my_T_firstHinge mb_T_firstHinge 7 (some .int) :: gw_l) ({ frames := 2, cells := 0, slots := 0, locals := 48 }) (pu_Pc (dC, dI) mC [(cC, .char), (cI, .int), (cJ, .long)] [(tA, .inr (2, [.ref tL, .ref tN, .ref tS, .int (nI tz)])), (tL, .inl (cC, 16, .inl tl)), (tN, .inl (cI, 96, .inl tn)), (tS, .inl (cI, 16, .inl ts))] (fun _ => True) [.ref tA, .long overlay, .long thick, .int angle]) (vp_Si (fun r => r = fT_firstHinge tl tn ts tz overlay thick angle)) 0 0 (fun _ => False) := by
  refine Met.ofW (cc := mb_T_firstHinge) (maxL := 7) (ret := (some .int)) (by decide) rfl ?_
  intro p e s m args below meth c s₁ B hml hv
  obtain ⟨rfl, hP, hK, hE⟩ := hv
  have hx := B.exec
  have hb := B.bytes
  have hr := B.returns
  have hts := atoms_spec (ws := (.code my_T_firstHinge mb_T_firstHinge 7 (some .int) :: gw_l)) B.pre
  have hg : ∀ w ∈ gw_l, w.before _ s = true := fun w h => hts w (List.mem_cons_of_mem _ h)
  have hown : s.vm.findClass mR_T = some m.cls := findClass_of_methodNamed B.named
  have hlocks := B.notSynchronized
  have hl := lv_entry ([.ref tA, .long overlay, .long thick, .int angle]) (n := 7) (Nat.le_of_ble_eq_true rfl)
  rw [lg_entry_eq]
  generalize (lg_sl ([.ref tA, .long overlay, .long thick, .int angle]) ++ List.replicate (7 - (lg_sl ([.ref tA, .long overlay, .long thick, .int angle])).length) Slot.unset).toArray = ls at hl ⊢
  have hl : lv_has ls 7 [(0, .ref tA), (1, .long overlay), (3, .long thick), (5, .int angle)] := hl
  have loop : ∀ (n : Nat) (i : Nat) (ls : Array Slot), (i ≤ tz) → tz - i < n → fT_firstHinge tl tn ts tz overlay thick angle = gT_firstHinge tl tn ts tz overlay thick angle n i → lv_has ls 7 [(0, .ref tA), (1, .long overlay), (3, .long thick), (5, .int angle), (6, .int (nI i))] → W p l e (headSpec (.code my_T_firstHinge mb_T_firstHinge 7 (some .int) :: gw_l) ({ frames := 2, cells := 0, slots := 0, locals := 48 })).room s m ([.ref tA, .long overlay, .long thick, .int angle] : List Value).toArray below meth c s.heap [] 0 0 (MQ below (vp_Si (fun r => r = fT_firstHinge tl tn ts tz overlay thick angle)) ([.ref tA, .long overlay, .long thick, .int angle] : List Value).toArray s 0 0 (fun _ => False)) (F0 m 3 ls []) := by
    intro n
    induction n with
    | zero =>
      intro i ls h1 hm
      exact absurd hm (Nat.not_lt_zero _)
    | succ n ih =>
      intro i ls h1 hm hv hl
      refine lv_iload hx hb md_T_firstHinge_3 (lv_at hl 4 rfl) ?_
      refine lv_aload_n hx hb md_T_firstHinge_5 rfl (lv_at hl 0 rfl) ?_
      refine va_get (D := (dC, dI)) (ci := 2) (v := .int (nI tz)) (C := mR_T) (T := mT_T) (N := 4) hx hb hg gu_T hown hK hP 0 rfl rfl 3 (by decide) (hg _ wd_86) (fun _ h9 => h9) rfl md_T_firstHinge_6 ?_
      refine lv_icmp_ge (tgt := 68) hx hb md_T_firstHinge_9 (by decide) (fun c1 => ?_) (fun c1 => ?_)
      · refine lv_iconst (v := (-1)) hx hb md_T_firstHinge_68 (by decide) ?_
        exact pu_iret hx hb hr hlocks md_T_firstHinge_69 (by rw [hv, gT_firstHinge, if_pos c1])
      · have hlt : i < tz := nx_lt (by omega) (by omega) c1
        have hi6 : ∀ (x : Int32) (k : Nat), k < 6 → x = nI k → vp_in (nI i * 6 + x) 96 := fun x k hk e => nx_6e k (by omega) hk e
        have hi16 : vp_in (nI i) 16 := nx_16 (by omega)
        refine lv_aload_n hx hb md_T_firstHinge_12 rfl (lv_at hl 0 rfl) ?_
        refine lv_iload hx hb md_T_firstHinge_13 (lv_at hl 4 rfl) ?_
        refine lv_bipush (v := 104) hx hb md_T_firstHinge_15 (by decide) ?_
        have hPc2 := hP.sub (ws' := [(tA, .inr (2, [.ref tL, .ref tN, .ref tS, .int (nI tz)])), (tL, .inl (cC, 16, .inl tl)), (tN, .inl (cI, 96, .inl tn)), (tS, .inl (cI, 16, .inl ts))]) [0, 1, 2, 3] rfl
        refine pu_i (W.runV (As := [.int (nI i), .int 104]) (rest := []) ⟨hx, hb, hml, hown, hg⟩ (ct_T_isStocked l dC dI cC cI cJ tA tL tN tS tl tn ts (nI tz) (nI i) 104 hi16) (gw_cwV hg wd_317 mv_T_isStocked rfl rfl ⟨Nat.le_of_ble_eq_true rfl, Nat.le_of_ble_eq_true rfl⟩) (pu_preV (ci := 2) (q0 := 0) pu_blT hK hPc2 pu_e1 rfl rfl) rfl rfl hl.1 rfl (lv_room (Nat.le_of_ble_eq_true rfl)) md_T_firstHinge_17 ⟨Nat.zero_le _, Nat.zero_le _⟩) ?_
        refine lv_if_eq (tgt := 62) hx hb md_T_firstHinge_20 (by decide) (fun c3 => ?_) (fun c3 => ?_)
        · refine lv_iinc (v := nI (i + 1)) (lv' := [(6, .int (nI (i + 1))), (0, .ref tA), (1, .long overlay), (3, .long thick), (5, .int angle)]) hx hb md_T_firstHinge_62 hl (k := 4) rfl (by rw [nI_succ]; rfl) (by decide) rfl (fun ls hl => ?_)
          refine lv_goto (tgt := 3) hx hb md_T_firstHinge_65 (by decide) ?_
          exact ih (i + 1) ls (by omega) (by omega) (by rw [hv, gT_firstHinge, if_neg c1, if_pos c3]) (lv_sub hl [1, 2, 3, 4, 0] rfl)
        · refine lv_aload_n hx hb md_T_firstHinge_23 rfl (lv_at hl 0 rfl) ?_
          refine lv_iload hx hb md_T_firstHinge_24 (lv_at hl 4 rfl) ?_
          refine lv_iconst (v := 0) hx hb md_T_firstHinge_26 (by decide) ?_
          refine lv_lload_n hx hb md_T_firstHinge_27 rfl (lv_at hl 1 rfl) ?_
          refine lv_lload_n hx hb md_T_firstHinge_28 rfl (lv_at hl 1 rfl) ?_
          have hPc4 := hP.sub (ws' := [(tA, .inr (2, [.ref tL, .ref tN, .ref tS, .int (nI tz)])), (tL, .inl (cC, 16, .inl tl)), (tN, .inl (cI, 96, .inl tn)), (tS, .inl (cI, 16, .inl ts))]) [0, 1, 2, 3] rfl
          refine pu_i (W.runV (As := [.int (nI i), .int 0, .long overlay, .long overlay]) (rest := []) ⟨hx, hb, hml, hown, hg⟩ (ct_T_holds l dC dI cC cI cJ tA tL tN tS tl tn ts (nI tz) (nI i) 0 overlay overlay (hi6 _ 0 (by decide) (by decide)) (hi6 _ 1 (by decide) (by decide))) (gw_cwV hg wd_321 mv_T_holds rfl rfl ⟨Nat.le_of_ble_eq_true rfl, Nat.le_of_ble_eq_true rfl⟩) (pu_preV (ci := 2) (q0 := 0) pu_blT hK hPc4 pu_e1 rfl rfl) rfl rfl hl.1 rfl (lv_room (Nat.le_of_ble_eq_true rfl)) md_T_firstHinge_29 ⟨Nat.zero_le _, Nat.zero_le _⟩) ?_
          refine lv_if_eq (tgt := 62) hx hb md_T_firstHinge_32 (by decide) (fun c5 => ?_) (fun c5 => ?_)
          · refine lv_iinc (v := nI (i + 1)) (lv' := [(6, .int (nI (i + 1))), (0, .ref tA), (1, .long overlay), (3, .long thick), (5, .int angle)]) hx hb md_T_firstHinge_62 hl (k := 4) rfl (by rw [nI_succ]; rfl) (by decide) rfl (fun ls hl => ?_)
            refine lv_goto (tgt := 3) hx hb md_T_firstHinge_65 (by decide) ?_
            exact ih (i + 1) ls (by omega) (by omega) (by rw [hv, gT_firstHinge, if_neg c1, if_neg c3, if_pos c5]) (lv_sub hl [1, 2, 3, 4, 0] rfl)
          · refine lv_aload_n hx hb md_T_firstHinge_35 rfl (lv_at hl 0 rfl) ?_
            refine lv_iload hx hb md_T_firstHinge_36 (lv_at hl 4 rfl) ?_
            refine lv_iconst (v := 2) hx hb md_T_firstHinge_38 (by decide) ?_
            refine lv_lload_n hx hb md_T_firstHinge_39 rfl (lv_at hl 2 rfl) ?_
            refine lv_lload_n hx hb md_T_firstHinge_40 rfl (lv_at hl 2 rfl) ?_
            have hPc6 := hP.sub (ws' := [(tA, .inr (2, [.ref tL, .ref tN, .ref tS, .int (nI tz)])), (tL, .inl (cC, 16, .inl tl)), (tN, .inl (cI, 96, .inl tn)), (tS, .inl (cI, 16, .inl ts))]) [0, 1, 2, 3] rfl
            refine pu_i (W.runV (As := [.int (nI i), .int 2, .long thick, .long thick]) (rest := []) ⟨hx, hb, hml, hown, hg⟩ (ct_T_holds l dC dI cC cI cJ tA tL tN tS tl tn ts (nI tz) (nI i) 2 thick thick (hi6 _ 2 (by decide) (by decide)) (hi6 _ 3 (by decide) (by decide))) (gw_cwV hg wd_321 mv_T_holds rfl rfl ⟨Nat.le_of_ble_eq_true rfl, Nat.le_of_ble_eq_true rfl⟩) (pu_preV (ci := 2) (q0 := 0) pu_blT hK hPc6 pu_e1 rfl rfl) rfl rfl hl.1 rfl (lv_room (Nat.le_of_ble_eq_true rfl)) md_T_firstHinge_41 ⟨Nat.zero_le _, Nat.zero_le _⟩) ?_
            refine lv_if_eq (tgt := 62) hx hb md_T_firstHinge_44 (by decide) (fun c7 => ?_) (fun c7 => ?_)
            · refine lv_iinc (v := nI (i + 1)) (lv' := [(6, .int (nI (i + 1))), (0, .ref tA), (1, .long overlay), (3, .long thick), (5, .int angle)]) hx hb md_T_firstHinge_62 hl (k := 4) rfl (by rw [nI_succ]; rfl) (by decide) rfl (fun ls hl => ?_)
              refine lv_goto (tgt := 3) hx hb md_T_firstHinge_65 (by decide) ?_
              exact ih (i + 1) ls (by omega) (by omega) (by rw [hv, gT_firstHinge, if_neg c1, if_neg c3, if_neg c5, if_pos c7]) (lv_sub hl [1, 2, 3, 4, 0] rfl)
            · refine lv_aload_n hx hb md_T_firstHinge_47 rfl (lv_at hl 0 rfl) ?_
              refine lv_iload hx hb md_T_firstHinge_48 (lv_at hl 4 rfl) ?_
              refine lv_iconst (v := 4) hx hb md_T_firstHinge_50 (by decide) ?_
              have hPc8 := hP.sub (ws' := [(tA, .inr (2, [.ref tL, .ref tN, .ref tS, .int (nI tz)])), (tL, .inl (cC, 16, .inl tl)), (tN, .inl (cI, 96, .inl tn)), (tS, .inl (cI, 16, .inl ts))]) [0, 1, 2, 3] rfl
              refine pu_i (W.runV (As := [.int (nI i), .int 4]) (rest := []) ⟨hx, hb, hml, hown, hg⟩ (ct_T_number l dC dI cC cI cJ tA tL tN tS tl tn ts (nI tz) (nI i) 4 (hi6 _ 4 (by decide) (by decide))) (gw_cwV hg wd_162 mv_T_number rfl rfl ⟨Nat.le_of_ble_eq_true rfl, Nat.le_of_ble_eq_true rfl⟩) (pu_preV (ci := 2) (q0 := 0) pu_blT hK hPc8 pu_e1 rfl rfl) rfl rfl hl.1 rfl (lv_room (Nat.le_of_ble_eq_true rfl)) md_T_firstHinge_51 ⟨Nat.zero_le _, Nat.zero_le _⟩) ?_
              refine lv_iload hx hb md_T_firstHinge_54 (lv_at hl 3 rfl) ?_
              refine lv_icmp_lt (tgt := 62) hx hb md_T_firstHinge_56 (by decide) (fun c9 => ?_) (fun c9 => ?_)
              · refine lv_iinc (v := nI (i + 1)) (lv' := [(6, .int (nI (i + 1))), (0, .ref tA), (1, .long overlay), (3, .long thick), (5, .int angle)]) hx hb md_T_firstHinge_62 hl (k := 4) rfl (by rw [nI_succ]; rfl) (by decide) rfl (fun ls hl => ?_)
                refine lv_goto (tgt := 3) hx hb md_T_firstHinge_65 (by decide) ?_
                exact ih (i + 1) ls (by omega) (by omega) (by rw [hv, gT_firstHinge, if_neg c1, if_neg c3, if_neg c5, if_neg c7, if_pos c9]) (lv_sub hl [1, 2, 3, 4, 0] rfl)
              · refine lv_iload hx hb md_T_firstHinge_59 (lv_at hl 4 rfl) ?_
                exact pu_iret hx hb hr hlocks md_T_firstHinge_61 (by rw [hv, gT_firstHinge, if_neg c1, if_neg c3, if_neg c5, if_neg c7, if_neg c9])
  refine lv_iconst (v := 0) hx hb md_T_firstHinge_0 (by decide) ?_
  refine lv_istore (lv' := [(6, .int 0), (0, .ref tA), (1, .long overlay), (3, .long thick), (5, .int angle)]) hx hb md_T_firstHinge_1 hl (by decide) rfl (fun ls hl => ?_)
  exact loop (tz + 1) 0 ls (by omega) (by omega) (by rw [fT_firstHinge]) (lv_sub hl [1, 2, 3, 4, 0] rfl)

def gT_otherHinge (tl : Nat → Int32) (tn : Nat → Int32) (ts : Nat → Int32) (tz : Nat) (row : Int32) (k : Int32) : Nat → Int32 → Nat → Int32
  | 0, _, _ => 0
  | n + 1, left, i => if (nI tz) ≤ (nI i) then (-1) else (if (nI i) = row then (gT_otherHinge tl tn ts tz row k n left (i + 1)) else (if (fT_canReplace tl tn ts (nI i) row) = 0 then (gT_otherHinge tl tn ts tz row k n left (i + 1)) else (if left = 0 then (nI i) else (gT_otherHinge tl tn ts tz row k n (left + (-1)) (i + 1)))))
def fT_otherHinge (tl : Nat → Int32) (tn : Nat → Int32) (ts : Nat → Int32) (tz : Nat) (row : Int32) (k : Int32) : Int32 := gT_otherHinge tl tn ts tz row k (tz + 1) k 0
set_option maxHeartbeats 1000000 in
set_option maxRecDepth 100000 in
theorem ct_T_otherHinge (l : Launch) (dC : Nat → ClassId) (dI : Nat → Nat → Nat) (cC cI cJ : ClassId) (tA : Nat) (tL : Nat) (tN : Nat) (tS : Nat) (tl : Nat → Int32) (tn : Nat → Int32) (ts : Nat → Int32) (tz : Nat) (row : Int32) (k : Int32)  (hz : tz ≤ 16) (hrn : ∀ (x : Int32) (k : Nat), k < 6 → x = nI k → vp_in (row * 6 + x) 96) : Met l my_T_otherHinge (.code my_T_otherHinge mb_T_otherHinge 5 (some .int) :: gw_l) ({ frames := 3, cells := 0, slots := 0, locals := 70 }) (pu_Pc (dC, dI) mC [(cC, .char), (cI, .int), (cJ, .long)] [(tA, .inr (2, [.ref tL, .ref tN, .ref tS, .int (nI tz)])), (tL, .inl (cC, 16, .inl tl)), (tN, .inl (cI, 96, .inl tn)), (tS, .inl (cI, 16, .inl ts))] (fun _ => True) [.ref tA, .int row, .int k]) (vp_Si (fun r => r = fT_otherHinge tl tn ts tz row k)) 0 0 (fun _ => False) := by
  refine Met.ofW (cc := mb_T_otherHinge) (maxL := 5) (ret := (some .int)) (by decide) rfl ?_
  intro p e s m args below meth c s₁ B hml hv
  obtain ⟨rfl, hP, hK, hE⟩ := hv
  have hx := B.exec
  have hb := B.bytes
  have hr := B.returns
  have hts := atoms_spec (ws := (.code my_T_otherHinge mb_T_otherHinge 5 (some .int) :: gw_l)) B.pre
  have hg : ∀ w ∈ gw_l, w.before _ s = true := fun w h => hts w (List.mem_cons_of_mem _ h)
  have hown : s.vm.findClass mR_T = some m.cls := findClass_of_methodNamed B.named
  have hlocks := B.notSynchronized
  have hl := lv_entry ([.ref tA, .int row, .int k]) (n := 5) (Nat.le_of_ble_eq_true rfl)
  rw [lg_entry_eq]
  generalize (lg_sl ([.ref tA, .int row, .int k]) ++ List.replicate (5 - (lg_sl ([.ref tA, .int row, .int k])).length) Slot.unset).toArray = ls at hl ⊢
  have hl : lv_has ls 5 [(0, .ref tA), (1, .int row), (2, .int k)] := hl
  have loop : ∀ (n : Nat) (left : Int32) (i : Nat) (ls : Array Slot), (i ≤ tz) → tz - i < n → fT_otherHinge tl tn ts tz row k = gT_otherHinge tl tn ts tz row k n left i → lv_has ls 5 [(0, .ref tA), (1, .int row), (2, .int k), (3, .int left), (4, .int (nI i))] → W p l e (headSpec (.code my_T_otherHinge mb_T_otherHinge 5 (some .int) :: gw_l) ({ frames := 3, cells := 0, slots := 0, locals := 70 })).room s m ([.ref tA, .int row, .int k] : List Value).toArray below meth c s.heap [] 0 0 (MQ below (vp_Si (fun r => r = fT_otherHinge tl tn ts tz row k)) ([.ref tA, .int row, .int k] : List Value).toArray s 0 0 (fun _ => False)) (F0 m 5 ls []) := by
    intro n
    induction n with
    | zero =>
      intro left i ls h1 hm
      exact absurd hm (Nat.not_lt_zero _)
    | succ n ih =>
      intro left i ls h1 hm hv hl
      refine lv_iload hx hb md_T_otherHinge_5 (lv_at hl 4 rfl) ?_
      refine lv_aload_n hx hb md_T_otherHinge_7 rfl (lv_at hl 0 rfl) ?_
      refine va_get (D := (dC, dI)) (ci := 2) (v := .int (nI tz)) (C := mR_T) (T := mT_T) (N := 4) hx hb hg gu_T hown hK hP 0 rfl rfl 3 (by decide) (hg _ wd_86) (fun _ h9 => h9) rfl md_T_otherHinge_8 ?_
      refine lv_icmp_ge (tgt := 46) hx hb md_T_otherHinge_11 (by decide) (fun c1 => ?_) (fun c1 => ?_)
      · refine lv_iconst (v := (-1)) hx hb md_T_otherHinge_46 (by decide) ?_
        exact pu_iret hx hb hr hlocks md_T_otherHinge_47 (by rw [hv, gT_otherHinge, if_pos c1])
      · have hlt : i < tz := nx_lt (by omega) (by omega) c1
        have hi6 : ∀ (x : Int32) (k : Nat), k < 6 → x = nI k → vp_in (nI i * 6 + x) 96 := fun x k hk e => nx_6e k (by omega) hk e
        have hi16 : vp_in (nI i) 16 := nx_16 (by omega)
        refine lv_iload hx hb md_T_otherHinge_14 (lv_at hl 4 rfl) ?_
        refine lv_iload_n hx hb md_T_otherHinge_16 rfl (lv_at hl 1 rfl) ?_
        refine lv_icmp_eq (tgt := 40) hx hb md_T_otherHinge_17 (by decide) (fun c2 => ?_) (fun c2 => ?_)
        · refine lv_iinc (v := nI (i + 1)) (lv' := [(4, .int (nI (i + 1))), (0, .ref tA), (1, .int row), (2, .int k), (3, .int left)]) hx hb md_T_otherHinge_40 hl (k := 4) rfl (by rw [nI_succ]; rfl) (by decide) rfl (fun ls hl => ?_)
          refine lv_goto (tgt := 5) hx hb md_T_otherHinge_43 (by decide) ?_
          exact ih left (i + 1) ls (by omega) (by omega) (by rw [hv, gT_otherHinge, if_neg c1, if_pos c2]) (lv_sub hl [1, 2, 3, 4, 0] rfl)
        · refine lv_aload_n hx hb md_T_otherHinge_20 rfl (lv_at hl 0 rfl) ?_
          refine lv_iload hx hb md_T_otherHinge_21 (lv_at hl 4 rfl) ?_
          refine lv_iload_n hx hb md_T_otherHinge_23 rfl (lv_at hl 1 rfl) ?_
          have hPc3 := hP.sub (ws' := [(tA, .inr (2, [.ref tL, .ref tN, .ref tS, .int (nI tz)])), (tL, .inl (cC, 16, .inl tl)), (tN, .inl (cI, 96, .inl tn)), (tS, .inl (cI, 16, .inl ts))]) [0, 1, 2, 3] rfl
          refine pu_i (W.runV (As := [.int (nI i), .int row]) (rest := []) ⟨hx, hb, hml, hown, hg⟩ (ct_T_canReplace l dC dI cC cI cJ tA tL tN tS tl tn ts (nI tz) (nI i) row hi16 hi6 hrn) (gw_cwV hg wd_338 mv_T_canReplace rfl rfl ⟨Nat.le_of_ble_eq_true rfl, Nat.le_of_ble_eq_true rfl⟩) (pu_preV (ci := 2) (q0 := 0) pu_blT hK hPc3 pu_e1 rfl rfl) rfl rfl hl.1 rfl (lv_room (Nat.le_of_ble_eq_true rfl)) md_T_otherHinge_24 ⟨Nat.zero_le _, Nat.zero_le _⟩) ?_
          refine lv_if_eq (tgt := 40) hx hb md_T_otherHinge_27 (by decide) (fun c4 => ?_) (fun c4 => ?_)
          · refine lv_iinc (v := nI (i + 1)) (lv' := [(4, .int (nI (i + 1))), (0, .ref tA), (1, .int row), (2, .int k), (3, .int left)]) hx hb md_T_otherHinge_40 hl (k := 4) rfl (by rw [nI_succ]; rfl) (by decide) rfl (fun ls hl => ?_)
            refine lv_goto (tgt := 5) hx hb md_T_otherHinge_43 (by decide) ?_
            exact ih left (i + 1) ls (by omega) (by omega) (by rw [hv, gT_otherHinge, if_neg c1, if_neg c2, if_pos c4]) (lv_sub hl [1, 2, 3, 4, 0] rfl)
          · refine lv_iload_n hx hb md_T_otherHinge_30 rfl (lv_at hl 3 rfl) ?_
            refine lv_if_ne (tgt := 37) hx hb md_T_otherHinge_31 (by decide) (fun c5 => ?_) (fun c5 => ?_)
            · refine lv_iinc (v := left + (-1)) (lv' := [(3, .int (left + (-1))), (0, .ref tA), (1, .int row), (2, .int k), (4, .int (nI i))]) hx hb md_T_otherHinge_37 hl (k := 3) rfl rfl (by decide) rfl (fun ls hl => ?_)
              refine lv_iinc (v := nI (i + 1)) (lv' := [(4, .int (nI (i + 1))), (3, .int (left + (-1))), (0, .ref tA), (1, .int row), (2, .int k)]) hx hb md_T_otherHinge_40 hl (k := 4) rfl (by rw [nI_succ]; rfl) (by decide) rfl (fun ls hl => ?_)
              refine lv_goto (tgt := 5) hx hb md_T_otherHinge_43 (by decide) ?_
              exact ih (left + (-1)) (i + 1) ls (by omega) (by omega) (by rw [hv, gT_otherHinge, if_neg c1, if_neg c2, if_neg c4, if_neg c5]) (lv_sub hl [2, 3, 4, 1, 0] rfl)
            · refine lv_iload hx hb md_T_otherHinge_34 (lv_at hl 4 rfl) ?_
              exact pu_iret hx hb hr hlocks md_T_otherHinge_36 (by rw [hv, gT_otherHinge, if_neg c1, if_neg c2, if_neg c4, if_pos c5])
  refine lv_iload_n hx hb md_T_otherHinge_0 rfl (lv_at hl 2 rfl) ?_
  refine lv_istore_n (lv' := [(3, .int k), (0, .ref tA), (1, .int row), (2, .int k)]) hx hb md_T_otherHinge_1 rfl hl (by decide) rfl (fun ls hl => ?_)
  refine lv_iconst (v := 0) hx hb md_T_otherHinge_2 (by decide) ?_
  refine lv_istore (lv' := [(4, .int 0), (3, .int k), (0, .ref tA), (1, .int row), (2, .int k)]) hx hb md_T_otherHinge_3 hl (by decide) rfl (fun ls hl => ?_)
  exact loop (tz + 1) k 0 ls (by omega) (by omega) (by rw [fT_otherHinge]) (lv_sub hl [2, 3, 4, 1, 0] rfl)

def gT_longestSlide (tl : Nat → Int32) (tn : Nat → Int32) (ts : Nat → Int32) (tz : Nat) (depth : Int64) : Nat → Int32 → Nat → Int32
  | 0, _, _ => 0
  | n + 1, best, i => if (nI tz) ≤ (nI i) then best else (if (fT_isStocked tl ts (nI i) 115) = 0 then (gT_longestSlide tl tn ts tz depth n best (i + 1)) else (if depth < (Int32.toInt64 (fT_number tn (nI i) 0)) then (gT_longestSlide tl tn ts tz depth n best (i + 1)) else (if best < 0 then (gT_longestSlide tl tn ts tz depth n (nI i) (i + 1)) else (if (fT_number tn (nI i) 0) ≤ (fT_number tn best 0) then (gT_longestSlide tl tn ts tz depth n best (i + 1)) else (gT_longestSlide tl tn ts tz depth n (nI i) (i + 1))))))
def fT_longestSlide (tl : Nat → Int32) (tn : Nat → Int32) (ts : Nat → Int32) (tz : Nat) (depth : Int64) : Int32 := gT_longestSlide tl tn ts tz depth (tz + 1) (-1) 0
set_option maxHeartbeats 1000000 in
set_option maxRecDepth 100000 in
theorem ct_T_longestSlide (l : Launch) (dC : Nat → ClassId) (dI : Nat → Nat → Nat) (cC cI cJ : ClassId) (tA : Nat) (tL : Nat) (tN : Nat) (tS : Nat) (tl : Nat → Int32) (tn : Nat → Int32) (ts : Nat → Int32) (tz : Nat) (depth : Int64)  (hz : tz ≤ 16) : Met l my_T_longestSlide (.code my_T_longestSlide mb_T_longestSlide 5 (some .int) :: gw_l) ({ frames := 1, cells := 0, slots := 0, locals := 22 }) (pu_Pc (dC, dI) mC [(cC, .char), (cI, .int), (cJ, .long)] [(tA, .inr (2, [.ref tL, .ref tN, .ref tS, .int (nI tz)])), (tL, .inl (cC, 16, .inl tl)), (tN, .inl (cI, 96, .inl tn)), (tS, .inl (cI, 16, .inl ts))] (fun _ => True) [.ref tA, .long depth]) (vp_Si (fun r => r = fT_longestSlide tl tn ts tz depth)) 0 0 (fun _ => False) := by
  refine Met.ofW (cc := mb_T_longestSlide) (maxL := 5) (ret := (some .int)) (by decide) rfl ?_
  intro p e s m args below meth c s₁ B hml hv
  obtain ⟨rfl, hP, hK, hE⟩ := hv
  have hx := B.exec
  have hb := B.bytes
  have hr := B.returns
  have hts := atoms_spec (ws := (.code my_T_longestSlide mb_T_longestSlide 5 (some .int) :: gw_l)) B.pre
  have hg : ∀ w ∈ gw_l, w.before _ s = true := fun w h => hts w (List.mem_cons_of_mem _ h)
  have hown : s.vm.findClass mR_T = some m.cls := findClass_of_methodNamed B.named
  have hlocks := B.notSynchronized
  have hl := lv_entry ([.ref tA, .long depth]) (n := 5) (Nat.le_of_ble_eq_true rfl)
  rw [lg_entry_eq]
  generalize (lg_sl ([.ref tA, .long depth]) ++ List.replicate (5 - (lg_sl ([.ref tA, .long depth])).length) Slot.unset).toArray = ls at hl ⊢
  have hl : lv_has ls 5 [(0, .ref tA), (1, .long depth)] := hl
  have loop : ∀ (n : Nat) (best : Int32) (i : Nat) (ls : Array Slot), (i ≤ tz) → (best < 0 ∨ ∃ j, j < 16 ∧ best = nI j) → tz - i < n → fT_longestSlide tl tn ts tz depth = gT_longestSlide tl tn ts tz depth n best i → lv_has ls 5 [(0, .ref tA), (1, .long depth), (3, .int best), (4, .int (nI i))] → W p l e (headSpec (.code my_T_longestSlide mb_T_longestSlide 5 (some .int) :: gw_l) ({ frames := 1, cells := 0, slots := 0, locals := 22 })).room s m ([.ref tA, .long depth] : List Value).toArray below meth c s.heap [] 0 0 (MQ below (vp_Si (fun r => r = fT_longestSlide tl tn ts tz depth)) ([.ref tA, .long depth] : List Value).toArray s 0 0 (fun _ => False)) (F0 m 5 ls []) := by
    intro n
    induction n with
    | zero =>
      intro best i ls h1 hb2 hm
      exact absurd hm (Nat.not_lt_zero _)
    | succ n ih =>
      intro best i ls h1 hb2 hm hv hl
      refine lv_iload hx hb md_T_longestSlide_5 (lv_at hl 3 rfl) ?_
      refine lv_aload_n hx hb md_T_longestSlide_7 rfl (lv_at hl 0 rfl) ?_
      refine va_get (D := (dC, dI)) (ci := 2) (v := .int (nI tz)) (C := mR_T) (T := mT_T) (N := 4) hx hb hg gu_T hown hK hP 0 rfl rfl 3 (by decide) (hg _ wd_86) (fun _ h9 => h9) rfl md_T_longestSlide_8 ?_
      refine lv_icmp_ge (tgt := 67) hx hb md_T_longestSlide_11 (by decide) (fun c1 => ?_) (fun c1 => ?_)
      · refine lv_iload_n hx hb md_T_longestSlide_67 rfl (lv_at hl 2 rfl) ?_
        exact pu_iret hx hb hr hlocks md_T_longestSlide_68 (by rw [hv, gT_longestSlide, if_pos c1])
      · have hlt : i < tz := nx_lt (by omega) (by omega) c1
        have hi6 : ∀ (x : Int32) (k : Nat), k < 6 → x = nI k → vp_in (nI i * 6 + x) 96 := fun x k hk e => nx_6e k (by omega) hk e
        have hi16 : vp_in (nI i) 16 := nx_16 (by omega)
        refine lv_aload_n hx hb md_T_longestSlide_14 rfl (lv_at hl 0 rfl) ?_
        refine lv_iload hx hb md_T_longestSlide_15 (lv_at hl 3 rfl) ?_
        refine lv_bipush (v := 115) hx hb md_T_longestSlide_17 (by decide) ?_
        have hPc2 := hP.sub (ws' := [(tA, .inr (2, [.ref tL, .ref tN, .ref tS, .int (nI tz)])), (tL, .inl (cC, 16, .inl tl)), (tN, .inl (cI, 96, .inl tn)), (tS, .inl (cI, 16, .inl ts))]) [0, 1, 2, 3] rfl
        refine pu_i (W.runV (As := [.int (nI i), .int 115]) (rest := []) ⟨hx, hb, hml, hown, hg⟩ (ct_T_isStocked l dC dI cC cI cJ tA tL tN tS tl tn ts (nI tz) (nI i) 115 hi16) (gw_cwV hg wd_317 mv_T_isStocked rfl rfl ⟨Nat.le_of_ble_eq_true rfl, Nat.le_of_ble_eq_true rfl⟩) (pu_preV (ci := 2) (q0 := 0) pu_blT hK hPc2 pu_e1 rfl rfl) rfl rfl hl.1 rfl (lv_room (Nat.le_of_ble_eq_true rfl)) md_T_longestSlide_19 ⟨Nat.zero_le _, Nat.zero_le _⟩) ?_
        refine lv_if_eq (tgt := 61) hx hb md_T_longestSlide_22 (by decide) (fun c3 => ?_) (fun c3 => ?_)
        · refine lv_iinc (v := nI (i + 1)) (lv' := [(4, .int (nI (i + 1))), (0, .ref tA), (1, .long depth), (3, .int best)]) hx hb md_T_longestSlide_61 hl (k := 3) rfl (by rw [nI_succ]; rfl) (by decide) rfl (fun ls hl => ?_)
          refine lv_goto (tgt := 5) hx hb md_T_longestSlide_64 (by decide) ?_
          exact ih best (i + 1) ls (by omega) hb2 (by omega) (by rw [hv, gT_longestSlide, if_neg c1, if_pos c3]) (lv_sub hl [1, 2, 3, 0] rfl)
        · refine lv_aload_n hx hb md_T_longestSlide_25 rfl (lv_at hl 0 rfl) ?_
          refine lv_iload hx hb md_T_longestSlide_26 (lv_at hl 3 rfl) ?_
          refine lv_iconst (v := 0) hx hb md_T_longestSlide_28 (by decide) ?_
          have hPc4 := hP.sub (ws' := [(tA, .inr (2, [.ref tL, .ref tN, .ref tS, .int (nI tz)])), (tL, .inl (cC, 16, .inl tl)), (tN, .inl (cI, 96, .inl tn)), (tS, .inl (cI, 16, .inl ts))]) [0, 1, 2, 3] rfl
          refine pu_i (W.runV (As := [.int (nI i), .int 0]) (rest := []) ⟨hx, hb, hml, hown, hg⟩ (ct_T_number l dC dI cC cI cJ tA tL tN tS tl tn ts (nI tz) (nI i) 0 (hi6 _ 0 (by decide) (by decide))) (gw_cwV hg wd_162 mv_T_number rfl rfl ⟨Nat.le_of_ble_eq_true rfl, Nat.le_of_ble_eq_true rfl⟩) (pu_preV (ci := 2) (q0 := 0) pu_blT hK hPc4 pu_e1 rfl rfl) rfl rfl hl.1 rfl (lv_room (Nat.le_of_ble_eq_true rfl)) md_T_longestSlide_29 ⟨Nat.zero_le _, Nat.zero_le _⟩) ?_
          refine lv_i2l (v := Int32.toInt64 (fT_number tn (nI i) 0)) hx hb md_T_longestSlide_32 rfl ?_
          refine lv_lload_n hx hb md_T_longestSlide_33 rfl (lv_at hl 1 rfl) ?_
          refine lx_gt (tgt := 61) hx hb md_T_longestSlide_34 md_T_longestSlide_35 (by decide) (fun c5 => ?_) (fun c5 => ?_)
          · refine lv_iinc (v := nI (i + 1)) (lv' := [(4, .int (nI (i + 1))), (0, .ref tA), (1, .long depth), (3, .int best)]) hx hb md_T_longestSlide_61 hl (k := 3) rfl (by rw [nI_succ]; rfl) (by decide) rfl (fun ls hl => ?_)
            refine lv_goto (tgt := 5) hx hb md_T_longestSlide_64 (by decide) ?_
            exact ih best (i + 1) ls (by omega) hb2 (by omega) (by rw [hv, gT_longestSlide, if_neg c1, if_neg c3, if_pos c5]) (lv_sub hl [1, 2, 3, 0] rfl)
          · refine lv_iload_n hx hb md_T_longestSlide_38 rfl (lv_at hl 2 rfl) ?_
            refine lv_if_lt (tgt := 58) hx hb md_T_longestSlide_39 (by decide) (fun c6 => ?_) (fun c6 => ?_)
            · refine lv_iload hx hb md_T_longestSlide_58 (lv_at hl 3 rfl) ?_
              refine lv_istore_n (lv' := [(3, .int (nI i)), (0, .ref tA), (1, .long depth), (4, .int (nI i))]) hx hb md_T_longestSlide_60 rfl hl (by decide) rfl (fun ls hl => ?_)
              refine lv_iinc (v := nI (i + 1)) (lv' := [(4, .int (nI (i + 1))), (3, .int (nI i)), (0, .ref tA), (1, .long depth)]) hx hb md_T_longestSlide_61 hl (k := 3) rfl (by rw [nI_succ]; rfl) (by decide) rfl (fun ls hl => ?_)
              refine lv_goto (tgt := 5) hx hb md_T_longestSlide_64 (by decide) ?_
              exact ih (nI i) (i + 1) ls (by omega) (Or.inr ⟨i, (by omega), rfl⟩) (by omega) (by rw [hv, gT_longestSlide, if_neg c1, if_neg c3, if_neg c5, if_pos c6]) (lv_sub hl [2, 3, 1, 0] rfl)
            · have hbj := nx_b hb2 c6
              refine lv_aload_n hx hb md_T_longestSlide_42 rfl (lv_at hl 0 rfl) ?_
              refine lv_iload hx hb md_T_longestSlide_43 (lv_at hl 3 rfl) ?_
              refine lv_iconst (v := 0) hx hb md_T_longestSlide_45 (by decide) ?_
              have hPc7 := hP.sub (ws' := [(tA, .inr (2, [.ref tL, .ref tN, .ref tS, .int (nI tz)])), (tL, .inl (cC, 16, .inl tl)), (tN, .inl (cI, 96, .inl tn)), (tS, .inl (cI, 16, .inl ts))]) [0, 1, 2, 3] rfl
              refine pu_i (W.runV (As := [.int (nI i), .int 0]) (rest := []) ⟨hx, hb, hml, hown, hg⟩ (ct_T_number l dC dI cC cI cJ tA tL tN tS tl tn ts (nI tz) (nI i) 0 (hi6 _ 0 (by decide) (by decide))) (gw_cwV hg wd_162 mv_T_number rfl rfl ⟨Nat.le_of_ble_eq_true rfl, Nat.le_of_ble_eq_true rfl⟩) (pu_preV (ci := 2) (q0 := 0) pu_blT hK hPc7 pu_e1 rfl rfl) rfl rfl hl.1 rfl (lv_room (Nat.le_of_ble_eq_true rfl)) md_T_longestSlide_46 ⟨Nat.zero_le _, Nat.zero_le _⟩) ?_
              refine lv_aload_n hx hb md_T_longestSlide_49 rfl (lv_at hl 0 rfl) ?_
              refine lv_iload_n hx hb md_T_longestSlide_50 rfl (lv_at hl 2 rfl) ?_
              refine lv_iconst (v := 0) hx hb md_T_longestSlide_51 (by decide) ?_
              have hPc8 := hP.sub (ws' := [(tA, .inr (2, [.ref tL, .ref tN, .ref tS, .int (nI tz)])), (tL, .inl (cC, 16, .inl tl)), (tN, .inl (cI, 96, .inl tn)), (tS, .inl (cI, 16, .inl ts))]) [0, 1, 2, 3] rfl
              refine pu_i (W.runV (As := [.int best, .int 0]) (rest := [.int (fT_number tn (nI i) 0)]) ⟨hx, hb, hml, hown, hg⟩ (ct_T_number l dC dI cC cI cJ tA tL tN tS tl tn ts (nI tz) best 0 hbj) (gw_cwV hg wd_162 mv_T_number rfl rfl ⟨Nat.le_of_ble_eq_true rfl, Nat.le_of_ble_eq_true rfl⟩) (pu_preV (ci := 2) (q0 := 0) pu_blT hK hPc8 pu_e1 rfl rfl) rfl rfl hl.1 rfl (lv_room (Nat.le_of_ble_eq_true rfl)) md_T_longestSlide_52 ⟨Nat.zero_le _, Nat.zero_le _⟩) ?_
              refine lv_icmp_le (tgt := 61) hx hb md_T_longestSlide_55 (by decide) (fun c9 => ?_) (fun c9 => ?_)
              · refine lv_iinc (v := nI (i + 1)) (lv' := [(4, .int (nI (i + 1))), (0, .ref tA), (1, .long depth), (3, .int best)]) hx hb md_T_longestSlide_61 hl (k := 3) rfl (by rw [nI_succ]; rfl) (by decide) rfl (fun ls hl => ?_)
                refine lv_goto (tgt := 5) hx hb md_T_longestSlide_64 (by decide) ?_
                exact ih best (i + 1) ls (by omega) hb2 (by omega) (by rw [hv, gT_longestSlide, if_neg c1, if_neg c3, if_neg c5, if_neg c6, if_pos c9]) (lv_sub hl [1, 2, 3, 0] rfl)
              · refine lv_iload hx hb md_T_longestSlide_58 (lv_at hl 3 rfl) ?_
                refine lv_istore_n (lv' := [(3, .int (nI i)), (0, .ref tA), (1, .long depth), (4, .int (nI i))]) hx hb md_T_longestSlide_60 rfl hl (by decide) rfl (fun ls hl => ?_)
                refine lv_iinc (v := nI (i + 1)) (lv' := [(4, .int (nI (i + 1))), (3, .int (nI i)), (0, .ref tA), (1, .long depth)]) hx hb md_T_longestSlide_61 hl (k := 3) rfl (by rw [nI_succ]; rfl) (by decide) rfl (fun ls hl => ?_)
                refine lv_goto (tgt := 5) hx hb md_T_longestSlide_64 (by decide) ?_
                exact ih (nI i) (i + 1) ls (by omega) (Or.inr ⟨i, (by omega), rfl⟩) (by omega) (by rw [hv, gT_longestSlide, if_neg c1, if_neg c3, if_neg c5, if_neg c6, if_neg c9]) (lv_sub hl [2, 3, 1, 0] rfl)
  refine lv_iconst (v := (-1)) hx hb md_T_longestSlide_0 (by decide) ?_
  refine lv_istore_n (lv' := [(3, .int (-1)), (0, .ref tA), (1, .long depth)]) hx hb md_T_longestSlide_1 rfl hl (by decide) rfl (fun ls hl => ?_)
  refine lv_iconst (v := 0) hx hb md_T_longestSlide_2 (by decide) ?_
  refine lv_istore (lv' := [(4, .int 0), (3, .int (-1)), (0, .ref tA), (1, .long depth)]) hx hb md_T_longestSlide_3 hl (by decide) rfl (fun ls hl => ?_)
  exact loop (tz + 1) (-1) 0 ls (by omega) (Or.inl (by decide)) (by omega) (by rw [fT_longestSlide]) (lv_sub hl [2, 3, 1, 0] rfl)

def gT_hingesOf (tl : Nat → Int32) (tn : Nat → Int32) (tz : Nat) (dw : Int64) (dh : Int64) (dt : Int64) (dd : Int64) : Nat → Nat → Int32
  | 0, _ => 0
  | n + 1, i => if (nI tz) ≤ (nI i) then (-1) else (if (tl (Int32.toNatClampNeg (nI i))) = 99 then (if (Int32.toInt64 (fT_number tn (nI i) 0)) < dh then (gT_hingesOf tl tn tz dw dh dt dd n (i + 1)) else (if (((Int32.toInt64 (fT_number tn (nI i) 1)) * 1000) * 1000000) < (fD_millionWeights dw dh dt dd) then (gT_hingesOf tl tn tz dw dh dt dd n (i + 1)) else (fT_number tn (nI i) 2))) else (gT_hingesOf tl tn tz dw dh dt dd n (i + 1)))
def fT_hingesOf (tl : Nat → Int32) (tn : Nat → Int32) (tz : Nat) (dw : Int64) (dh : Int64) (dt : Int64) (dd : Int64) : Int32 := gT_hingesOf tl tn tz dw dh dt dd (tz + 1) 0
set_option maxHeartbeats 1000000 in
set_option maxRecDepth 100000 in
theorem ct_T_hingesOf (l : Launch) (dC : Nat → ClassId) (dI : Nat → Nat → Nat) (cC cI cJ : ClassId) (tA : Nat) (tL : Nat) (tN : Nat) (tS : Nat) (tl : Nat → Int32) (tn : Nat → Int32) (ts : Nat → Int32) (tz : Nat) (dA : Nat) (dw : Int64) (dh : Int64) (dt : Int64) (dd : Int64)   (hz : tz ≤ 16) : Met l my_T_hingesOf (.code my_T_hingesOf mb_T_hingesOf 3 (some .int) :: gw_l) ({ frames := 1, cells := 0, slots := 0, locals := 22 }) (pu_Pc (dC, dI) mC [(cC, .char), (cI, .int), (cJ, .long)] [(tA, .inr (2, [.ref tL, .ref tN, .ref tS, .int (nI tz)])), (tL, .inl (cC, 16, .inl tl)), (tN, .inl (cI, 96, .inl tn)), (tS, .inl (cI, 16, .inl ts)), (dA, .inr (0, [.long dw, .long dh, .long dt, .long dd]))] nw_all [.ref tA, .ref dA]) (vp_Si (fun r => r = fT_hingesOf tl tn tz dw dh dt dd)) 0 0 (fun _ => False) := by
  refine Met.ofW (cc := mb_T_hingesOf) (maxL := 3) (ret := (some .int)) (by decide) rfl ?_
  intro p e s m args below meth c s₁ B hml hv
  obtain ⟨rfl, hP, hK, hE⟩ := hv
  have hx := B.exec
  have hb := B.bytes
  have hr := B.returns
  have hts := atoms_spec (ws := (.code my_T_hingesOf mb_T_hingesOf 3 (some .int) :: gw_l)) B.pre
  have hg : ∀ w ∈ gw_l, w.before _ s = true := fun w h => hts w (List.mem_cons_of_mem _ h)
  have hown : s.vm.findClass mR_T = some m.cls := findClass_of_methodNamed B.named
  have hlocks := B.notSynchronized
  have hl := lv_entry ([.ref tA, .ref dA]) (n := 3) (Nat.le_of_ble_eq_true rfl)
  rw [lg_entry_eq]
  generalize (lg_sl ([.ref tA, .ref dA]) ++ List.replicate (3 - (lg_sl ([.ref tA, .ref dA])).length) Slot.unset).toArray = ls at hl ⊢
  have hl : lv_has ls 3 [(0, .ref tA), (1, .ref dA)] := hl
  have loop : ∀ (n : Nat) (i : Nat) (ls : Array Slot), (i ≤ tz) → tz - i < n → fT_hingesOf tl tn tz dw dh dt dd = gT_hingesOf tl tn tz dw dh dt dd n i → lv_has ls 3 [(0, .ref tA), (1, .ref dA), (2, .int (nI i))] → W p l e (headSpec (.code my_T_hingesOf mb_T_hingesOf 3 (some .int) :: gw_l) ({ frames := 1, cells := 0, slots := 0, locals := 22 })).room s m ([.ref tA, .ref dA] : List Value).toArray below meth c s.heap [] 0 0 (MQ below (vp_Si (fun r => r = fT_hingesOf tl tn tz dw dh dt dd)) ([.ref tA, .ref dA] : List Value).toArray s 0 0 (fun _ => False)) (F0 m 2 ls []) := by
    intro n
    induction n with
    | zero =>
      intro i ls h1 hm
      exact absurd hm (Nat.not_lt_zero _)
    | succ n ih =>
      intro i ls h1 hm hv hl
      refine lv_iload_n hx hb md_T_hingesOf_2 rfl (lv_at hl 2 rfl) ?_
      refine lv_aload_n hx hb md_T_hingesOf_3 rfl (lv_at hl 0 rfl) ?_
      refine va_get (D := (dC, dI)) (ci := 2) (v := .int (nI tz)) (C := mR_T) (T := mT_T) (N := 4) hx hb hg gu_T hown hK hP 0 rfl rfl 3 (by decide) (hg _ wd_86) (fun _ h9 => h9) rfl md_T_hingesOf_4 ?_
      refine lv_icmp_ge (tgt := 72) hx hb md_T_hingesOf_7 (by decide) (fun c1 => ?_) (fun c1 => ?_)
      · refine lv_iconst (v := (-1)) hx hb md_T_hingesOf_72 (by decide) ?_
        exact pu_iret hx hb hr hlocks md_T_hingesOf_73 (by rw [hv, gT_hingesOf, if_pos c1])
      · have hlt : i < tz := nx_lt (by omega) (by omega) c1
        have hi6 : ∀ (x : Int32) (k : Nat), k < 6 → x = nI k → vp_in (nI i * 6 + x) 96 := fun x k hk e => nx_6e k (by omega) hk e
        have hi16 : vp_in (nI i) 16 := nx_16 (by omega)
        refine lv_aload_n hx hb md_T_hingesOf_10 rfl (lv_at hl 0 rfl) ?_
        refine va_get (D := (dC, dI)) (ci := 2) (v := .ref tL) (C := mR_T) (T := mT_T) (N := 4) hx hb hg gu_T hown hK hP 0 rfl rfl 0 (by decide) (hg _ wd_83) (fun _ h9 => h9) rfl md_T_hingesOf_11 ?_
        refine lv_iload_n hx hb md_T_hingesOf_14 rfl (lv_at hl 2 rfl) ?_
        refine va_cald hx hb hK hP 1 0 rfl rfl hi16 md_T_hingesOf_15 ?_
        refine lv_bipush (v := 99) hx hb md_T_hingesOf_16 (by decide) ?_
        refine lv_icmp_ne (tgt := 66) hx hb md_T_hingesOf_18 (by decide) (fun c2 => ?_) (fun c2 => ?_)
        · refine lv_iinc (v := nI (i + 1)) (lv' := [(2, .int (nI (i + 1))), (0, .ref tA), (1, .ref dA)]) hx hb md_T_hingesOf_66 hl (k := 2) rfl (by rw [nI_succ]; rfl) (by decide) rfl (fun ls hl => ?_)
          refine lv_goto (tgt := 2) hx hb md_T_hingesOf_69 (by decide) ?_
          exact ih (i + 1) ls (by omega) (by omega) (by rw [hv, gT_hingesOf, if_neg c1, if_neg c2]) (lv_sub hl [1, 2, 0] rfl)
        · refine lv_aload_n hx hb md_T_hingesOf_21 rfl (lv_at hl 0 rfl) ?_
          refine lv_iload_n hx hb md_T_hingesOf_22 rfl (lv_at hl 2 rfl) ?_
          refine lv_iconst (v := 0) hx hb md_T_hingesOf_23 (by decide) ?_
          have hPc3 := hP.sub (ws' := [(tA, .inr (2, [.ref tL, .ref tN, .ref tS, .int (nI tz)])), (tL, .inl (cC, 16, .inl tl)), (tN, .inl (cI, 96, .inl tn)), (tS, .inl (cI, 16, .inl ts))]) [0, 1, 2, 3] rfl
          refine pu_i (W.runV (As := [.int (nI i), .int 0]) (rest := []) ⟨hx, hb, hml, hown, hg⟩ (ct_T_number l dC dI cC cI cJ tA tL tN tS tl tn ts (nI tz) (nI i) 0 (hi6 _ 0 (by decide) (by decide))) (gw_cwV hg wd_162 mv_T_number rfl rfl ⟨Nat.le_of_ble_eq_true rfl, Nat.le_of_ble_eq_true rfl⟩) (pu_preV (ci := 2) (q0 := 0) pu_blT hK hPc3 pu_e1 rfl rfl) rfl rfl hl.1 rfl (lv_room (Nat.le_of_ble_eq_true rfl)) md_T_hingesOf_24 ⟨Nat.zero_le _, Nat.zero_le _⟩) ?_
          refine lv_i2l (v := Int32.toInt64 (fT_number tn (nI i) 0)) hx hb md_T_hingesOf_27 rfl ?_
          refine lv_aload_n hx hb md_T_hingesOf_28 rfl (lv_at hl 1 rfl) ?_
          refine va_getN (D := (dC, dI)) (ci := 0) (v := .long dh) (C := mR_D) (T := mT_D) (N := 4) hx hb hg gu_D hown hK hP 4 rfl rfl 1 (by decide) (va_Nw.use rfl (nw_48 hE)) (fun _ h9 => h9) rfl md_T_hingesOf_29 ?_
          refine lx_lt (tgt := 66) hx hb md_T_hingesOf_32 md_T_hingesOf_33 (by decide) (fun c4 => ?_) (fun c4 => ?_)
          · refine lv_iinc (v := nI (i + 1)) (lv' := [(2, .int (nI (i + 1))), (0, .ref tA), (1, .ref dA)]) hx hb md_T_hingesOf_66 hl (k := 2) rfl (by rw [nI_succ]; rfl) (by decide) rfl (fun ls hl => ?_)
            refine lv_goto (tgt := 2) hx hb md_T_hingesOf_69 (by decide) ?_
            exact ih (i + 1) ls (by omega) (by omega) (by rw [hv, gT_hingesOf, if_neg c1, if_pos c2, if_pos c4]) (lv_sub hl [1, 2, 0] rfl)
          · refine lv_aload_n hx hb md_T_hingesOf_36 rfl (lv_at hl 0 rfl) ?_
            refine lv_iload_n hx hb md_T_hingesOf_37 rfl (lv_at hl 2 rfl) ?_
            refine lv_iconst (v := 1) hx hb md_T_hingesOf_38 (by decide) ?_
            have hPc5 := hP.sub (ws' := [(tA, .inr (2, [.ref tL, .ref tN, .ref tS, .int (nI tz)])), (tL, .inl (cC, 16, .inl tl)), (tN, .inl (cI, 96, .inl tn)), (tS, .inl (cI, 16, .inl ts))]) [0, 1, 2, 3] rfl
            refine pu_i (W.runV (As := [.int (nI i), .int 1]) (rest := []) ⟨hx, hb, hml, hown, hg⟩ (ct_T_number l dC dI cC cI cJ tA tL tN tS tl tn ts (nI tz) (nI i) 1 (hi6 _ 1 (by decide) (by decide))) (gw_cwV hg wd_162 mv_T_number rfl rfl ⟨Nat.le_of_ble_eq_true rfl, Nat.le_of_ble_eq_true rfl⟩) (pu_preV (ci := 2) (q0 := 0) pu_blT hK hPc5 pu_e1 rfl rfl) rfl rfl hl.1 rfl (lv_room (Nat.le_of_ble_eq_true rfl)) md_T_hingesOf_39 ⟨Nat.zero_le _, Nat.zero_le _⟩) ?_
            refine lv_i2l (v := Int32.toInt64 (fT_number tn (nI i) 1)) hx hb md_T_hingesOf_42 rfl ?_
            refine lv_ldc2 hx hb hown (hg _ wd_404) md_T_hingesOf_43 ?_
            refine lv_lmul hx hb md_T_hingesOf_46 ?_
            refine lv_ldc2 hx hb hown (hg _ wd_405) md_T_hingesOf_47 ?_
            refine lv_lmul hx hb md_T_hingesOf_50 ?_
            refine lv_aload_n hx hb md_T_hingesOf_51 rfl (lv_at hl 1 rfl) ?_
            have hPc6 := hP.sub (ws' := [(dA, .inr (0, [.long dw, .long dh, .long dt, .long dd]))]) [4] rfl
            refine pu_l (W.runV (As := []) (rest := [.long (((Int32.toInt64 (fT_number tn (nI i) 1)) * 1000) * 1000000)]) ⟨hx, hb, hml, hown, hg⟩ (ct_D_millionWeights l dC dI cC cI cJ dA dw dh dt dd) (gw_cwV hg wd_406 mv_D_millionWeights rfl rfl ⟨Nat.le_of_ble_eq_true rfl, Nat.le_of_ble_eq_true rfl⟩) (pu_preV (ci := 0) (q0 := 0) pu_blT hK hPc6 pu_e1 rfl rfl) rfl rfl hl.1 rfl (lv_room (Nat.le_of_ble_eq_true rfl)) md_T_hingesOf_52 ⟨Nat.zero_le _, Nat.zero_le _⟩) ?_
            refine lx_lt (tgt := 66) hx hb md_T_hingesOf_55 md_T_hingesOf_56 (by decide) (fun c7 => ?_) (fun c7 => ?_)
            · refine lv_iinc (v := nI (i + 1)) (lv' := [(2, .int (nI (i + 1))), (0, .ref tA), (1, .ref dA)]) hx hb md_T_hingesOf_66 hl (k := 2) rfl (by rw [nI_succ]; rfl) (by decide) rfl (fun ls hl => ?_)
              refine lv_goto (tgt := 2) hx hb md_T_hingesOf_69 (by decide) ?_
              exact ih (i + 1) ls (by omega) (by omega) (by rw [hv, gT_hingesOf, if_neg c1, if_pos c2, if_neg c4, if_pos c7]) (lv_sub hl [1, 2, 0] rfl)
            · refine lv_aload_n hx hb md_T_hingesOf_59 rfl (lv_at hl 0 rfl) ?_
              refine lv_iload_n hx hb md_T_hingesOf_60 rfl (lv_at hl 2 rfl) ?_
              refine lv_iconst (v := 2) hx hb md_T_hingesOf_61 (by decide) ?_
              have hPc8 := hP.sub (ws' := [(tA, .inr (2, [.ref tL, .ref tN, .ref tS, .int (nI tz)])), (tL, .inl (cC, 16, .inl tl)), (tN, .inl (cI, 96, .inl tn)), (tS, .inl (cI, 16, .inl ts))]) [0, 1, 2, 3] rfl
              refine pu_i (W.runV (As := [.int (nI i), .int 2]) (rest := []) ⟨hx, hb, hml, hown, hg⟩ (ct_T_number l dC dI cC cI cJ tA tL tN tS tl tn ts (nI tz) (nI i) 2 (hi6 _ 2 (by decide) (by decide))) (gw_cwV hg wd_162 mv_T_number rfl rfl ⟨Nat.le_of_ble_eq_true rfl, Nat.le_of_ble_eq_true rfl⟩) (pu_preV (ci := 2) (q0 := 0) pu_blT hK hPc8 pu_e1 rfl rfl) rfl rfl hl.1 rfl (lv_room (Nat.le_of_ble_eq_true rfl)) md_T_hingesOf_62 ⟨Nat.zero_le _, Nat.zero_le _⟩) ?_
              exact pu_iret hx hb hr hlocks md_T_hingesOf_65 (by rw [hv, gT_hingesOf, if_neg c1, if_pos c2, if_neg c4, if_neg c7])
  refine lv_iconst (v := 0) hx hb md_T_hingesOf_0 (by decide) ?_
  refine lv_istore_n (lv' := [(2, .int 0), (0, .ref tA), (1, .ref dA)]) hx hb md_T_hingesOf_1 rfl hl (by decide) rfl (fun ls hl => ?_)
  exact loop (tz + 1) 0 ls (by omega) (by omega) (by rw [fT_hingesOf]) (lv_sub hl [1, 2, 0] rfl)

def fD_turnedX (dw : Int64) (dt : Int64) (corner : Int32) (turn : Int32) : Int64 := ((fD_shutX dw corner) * (Int32.toInt64 (cs_C (Int32.toNatClampNeg turn)))) - ((fD_shutY dt corner) * (Int32.toInt64 (cs_S (Int32.toNatClampNeg turn))))
set_option maxHeartbeats 1000000 in
set_option maxRecDepth 100000 in
theorem ct_D_turnedX (l : Launch) (dC : Nat → ClassId) (dI : Nat → Nat → Nat) (cC cI cJ : ClassId) (dA : Nat) (dw : Int64) (dh : Int64) (dt : Int64) (dd : Int64) (corner : Int32) (turn : Int32) (t1 : Nat) (t2 : Nat) (ht : vp_in turn 9) : Met l my_D_turnedX (.code my_D_turnedX mb_D_turnedX 3 (some .long) :: gw_l) ({ frames := 1, cells := 0, slots := 0, locals := 21 }) (pu_Pc (dC, dI) mC [(cC, .char), (cI, .int), (cJ, .long)] [(dA, .inr (0, [.long dw, .long dh, .long dt, .long dd]))] (am_S t1 t2) [.ref dA, .int corner, .int turn]) (vp_Sl (fun r => r = fD_turnedX dw dt corner turn)) 0 0 (fun _ => False) := by
  refine Met.ofW (cc := mb_D_turnedX) (maxL := 3) (ret := (some .long)) (by decide) rfl ?_
  intro p e s m args below meth c s₁ B hml hv
  obtain ⟨rfl, hP, hK, hE⟩ := hv
  have hx := B.exec
  have hb := B.bytes
  have hr := B.returns
  have hts := atoms_spec (ws := (.code my_D_turnedX mb_D_turnedX 3 (some .long) :: gw_l)) B.pre
  have hg : ∀ w ∈ gw_l, w.before _ s = true := fun w h => hts w (List.mem_cons_of_mem _ h)
  have hown : s.vm.findClass mR_D = some m.cls := findClass_of_methodNamed B.named
  have hlocks := B.notSynchronized
  have hl := lv_entry ([.ref dA, .int corner, .int turn]) (n := 3) (Nat.le_of_ble_eq_true rfl)
  rw [lg_entry_eq]
  generalize (lg_sl ([.ref dA, .int corner, .int turn]) ++ List.replicate (3 - (lg_sl ([.ref dA, .int corner, .int turn])).length) Slot.unset).toArray = ls at hl ⊢
  have hl : lv_has ls 3 [(0, .ref dA), (1, .int corner), (2, .int turn)] := hl
  refine lv_aload_n hx hb md_D_turnedX_0 rfl (lv_at hl 0 rfl) ?_
  refine lv_iload_n hx hb md_D_turnedX_1 rfl (lv_at hl 1 rfl) ?_
  have hPc1 := hP.sub (ws' := [(dA, .inr (0, [.long dw, .long dh, .long dt, .long dd]))]) [0] rfl
  refine pu_l (W.runV (As := [.int corner]) (rest := []) ⟨hx, hb, hml, hown, hg⟩ (ct_D_shutX l dC dI cC cI cJ dA dw dh dt dd corner) (gw_cwV hg wd_485 mv_D_shutX rfl rfl ⟨Nat.le_of_ble_eq_true rfl, Nat.le_of_ble_eq_true rfl⟩) (pu_preV (ci := 0) (q0 := 0) pu_blT hK hPc1 pu_e1 rfl rfl) rfl rfl hl.1 rfl (lv_room (Nat.le_of_ble_eq_true rfl)) md_D_turnedX_2 ⟨Nat.zero_le _, Nat.zero_le _⟩) ?_
  refine va_getsN hx hb hE.2.1.1 va_S.rf hown (va_Nw.use rfl (nw_489 hE.1)) (fun _ h9 => h9) md_D_turnedX_5 ?_
  refine lv_iload_n hx hb md_D_turnedX_8 rfl (lv_at hl 2 rfl) ?_
  refine va_ti hx hb hE.2.1.2 va_S.rf ht (v := .int (cs_C (Int32.toNatClampNeg turn))) rfl md_D_turnedX_9 ?_
  refine lv_i2l (v := Int32.toInt64 (cs_C (Int32.toNatClampNeg turn))) hx hb md_D_turnedX_10 rfl ?_
  refine lv_lmul hx hb md_D_turnedX_11 ?_
  refine lv_aload_n hx hb md_D_turnedX_12 rfl (lv_at hl 0 rfl) ?_
  refine lv_iload_n hx hb md_D_turnedX_13 rfl (lv_at hl 1 rfl) ?_
  have hPc2 := hP.sub (ws' := [(dA, .inr (0, [.long dw, .long dh, .long dt, .long dd]))]) [0] rfl
  refine pu_l (W.runV (As := [.int corner]) (rest := [.long ((fD_shutX dw corner) * (Int32.toInt64 (cs_C (Int32.toNatClampNeg turn))))]) ⟨hx, hb, hml, hown, hg⟩ (ct_D_shutY l dC dI cC cI cJ dA dw dh dt dd corner) (gw_cwV hg wd_491 mv_D_shutY rfl rfl ⟨Nat.le_of_ble_eq_true rfl, Nat.le_of_ble_eq_true rfl⟩) (pu_preV (ci := 0) (q0 := 0) pu_blT hK hPc2 pu_e1 rfl rfl) rfl rfl hl.1 rfl (lv_room (Nat.le_of_ble_eq_true rfl)) md_D_turnedX_14 ⟨Nat.zero_le _, Nat.zero_le _⟩) ?_
  refine va_getsN hx hb hE.2.2.1 va_S.rf hown (va_Nw.use rfl (nw_495 hE.1)) (fun _ h9 => h9) md_D_turnedX_17 ?_
  refine lv_iload_n hx hb md_D_turnedX_20 rfl (lv_at hl 2 rfl) ?_
  refine va_ti hx hb hE.2.2.2 va_S.rf ht (v := .int (cs_S (Int32.toNatClampNeg turn))) rfl md_D_turnedX_21 ?_
  refine lv_i2l (v := Int32.toInt64 (cs_S (Int32.toNatClampNeg turn))) hx hb md_D_turnedX_22 rfl ?_
  refine lv_lmul hx hb md_D_turnedX_23 ?_
  refine lv_lsub hx hb md_D_turnedX_24 ?_
  exact pu_lret hx hb hr hlocks md_D_turnedX_25 rfl

def fD_turnedY (dw : Int64) (dt : Int64) (corner : Int32) (turn : Int32) : Int64 := ((fD_shutX dw corner) * (Int32.toInt64 (cs_S (Int32.toNatClampNeg turn)))) + ((fD_shutY dt corner) * (Int32.toInt64 (cs_C (Int32.toNatClampNeg turn))))
set_option maxHeartbeats 1000000 in
set_option maxRecDepth 100000 in
theorem ct_D_turnedY (l : Launch) (dC : Nat → ClassId) (dI : Nat → Nat → Nat) (cC cI cJ : ClassId) (dA : Nat) (dw : Int64) (dh : Int64) (dt : Int64) (dd : Int64) (corner : Int32) (turn : Int32) (t1 : Nat) (t2 : Nat) (ht : vp_in turn 9) : Met l my_D_turnedY (.code my_D_turnedY mb_D_turnedY 3 (some .long) :: gw_l) ({ frames := 1, cells := 0, slots := 0, locals := 21 }) (pu_Pc (dC, dI) mC [(cC, .char), (cI, .int), (cJ, .long)] [(dA, .inr (0, [.long dw, .long dh, .long dt, .long dd]))] (am_S t1 t2) [.ref dA, .int corner, .int turn]) (vp_Sl (fun r => r = fD_turnedY dw dt corner turn)) 0 0 (fun _ => False) := by
  refine Met.ofW (cc := mb_D_turnedY) (maxL := 3) (ret := (some .long)) (by decide) rfl ?_
  intro p e s m args below meth c s₁ B hml hv
  obtain ⟨rfl, hP, hK, hE⟩ := hv
  have hx := B.exec
  have hb := B.bytes
  have hr := B.returns
  have hts := atoms_spec (ws := (.code my_D_turnedY mb_D_turnedY 3 (some .long) :: gw_l)) B.pre
  have hg : ∀ w ∈ gw_l, w.before _ s = true := fun w h => hts w (List.mem_cons_of_mem _ h)
  have hown : s.vm.findClass mR_D = some m.cls := findClass_of_methodNamed B.named
  have hlocks := B.notSynchronized
  have hl := lv_entry ([.ref dA, .int corner, .int turn]) (n := 3) (Nat.le_of_ble_eq_true rfl)
  rw [lg_entry_eq]
  generalize (lg_sl ([.ref dA, .int corner, .int turn]) ++ List.replicate (3 - (lg_sl ([.ref dA, .int corner, .int turn])).length) Slot.unset).toArray = ls at hl ⊢
  have hl : lv_has ls 3 [(0, .ref dA), (1, .int corner), (2, .int turn)] := hl
  refine lv_aload_n hx hb md_D_turnedY_0 rfl (lv_at hl 0 rfl) ?_
  refine lv_iload_n hx hb md_D_turnedY_1 rfl (lv_at hl 1 rfl) ?_
  have hPc1 := hP.sub (ws' := [(dA, .inr (0, [.long dw, .long dh, .long dt, .long dd]))]) [0] rfl
  refine pu_l (W.runV (As := [.int corner]) (rest := []) ⟨hx, hb, hml, hown, hg⟩ (ct_D_shutX l dC dI cC cI cJ dA dw dh dt dd corner) (gw_cwV hg wd_485 mv_D_shutX rfl rfl ⟨Nat.le_of_ble_eq_true rfl, Nat.le_of_ble_eq_true rfl⟩) (pu_preV (ci := 0) (q0 := 0) pu_blT hK hPc1 pu_e1 rfl rfl) rfl rfl hl.1 rfl (lv_room (Nat.le_of_ble_eq_true rfl)) md_D_turnedY_2 ⟨Nat.zero_le _, Nat.zero_le _⟩) ?_
  refine va_getsN hx hb hE.2.2.1 va_S.rf hown (va_Nw.use rfl (nw_495 hE.1)) (fun _ h9 => h9) md_D_turnedY_5 ?_
  refine lv_iload_n hx hb md_D_turnedY_8 rfl (lv_at hl 2 rfl) ?_
  refine va_ti hx hb hE.2.2.2 va_S.rf ht (v := .int (cs_S (Int32.toNatClampNeg turn))) rfl md_D_turnedY_9 ?_
  refine lv_i2l (v := Int32.toInt64 (cs_S (Int32.toNatClampNeg turn))) hx hb md_D_turnedY_10 rfl ?_
  refine lv_lmul hx hb md_D_turnedY_11 ?_
  refine lv_aload_n hx hb md_D_turnedY_12 rfl (lv_at hl 0 rfl) ?_
  refine lv_iload_n hx hb md_D_turnedY_13 rfl (lv_at hl 1 rfl) ?_
  have hPc2 := hP.sub (ws' := [(dA, .inr (0, [.long dw, .long dh, .long dt, .long dd]))]) [0] rfl
  refine pu_l (W.runV (As := [.int corner]) (rest := [.long ((fD_shutX dw corner) * (Int32.toInt64 (cs_S (Int32.toNatClampNeg turn))))]) ⟨hx, hb, hml, hown, hg⟩ (ct_D_shutY l dC dI cC cI cJ dA dw dh dt dd corner) (gw_cwV hg wd_491 mv_D_shutY rfl rfl ⟨Nat.le_of_ble_eq_true rfl, Nat.le_of_ble_eq_true rfl⟩) (pu_preV (ci := 0) (q0 := 0) pu_blT hK hPc2 pu_e1 rfl rfl) rfl rfl hl.1 rfl (lv_room (Nat.le_of_ble_eq_true rfl)) md_D_turnedY_14 ⟨Nat.zero_le _, Nat.zero_le _⟩) ?_
  refine va_getsN hx hb hE.2.1.1 va_S.rf hown (va_Nw.use rfl (nw_489 hE.1)) (fun _ h9 => h9) md_D_turnedY_17 ?_
  refine lv_iload_n hx hb md_D_turnedY_20 rfl (lv_at hl 2 rfl) ?_
  refine va_ti hx hb hE.2.1.2 va_S.rf ht (v := .int (cs_C (Int32.toNatClampNeg turn))) rfl md_D_turnedY_21 ?_
  refine lv_i2l (v := Int32.toInt64 (cs_C (Int32.toNatClampNeg turn))) hx hb md_D_turnedY_22 rfl ?_
  refine lv_lmul hx hb md_D_turnedY_23 ?_
  refine lv_ladd hx hb md_D_turnedY_24 ?_
  exact pu_lret hx hb hr hlocks md_D_turnedY_25 rfl

def fD_leastX (dw : Int64) (dt : Int64) (turn : Int32) : Int64 := (if (fD_turnedX dw dt 3 turn) < (if (fD_turnedX dw dt 2 turn) < (if (fD_turnedX dw dt 1 turn) < (fD_turnedX dw dt 0 turn) then fD_turnedX dw dt 1 turn else fD_turnedX dw dt 0 turn) then fD_turnedX dw dt 2 turn else (if (fD_turnedX dw dt 1 turn) < (fD_turnedX dw dt 0 turn) then fD_turnedX dw dt 1 turn else fD_turnedX dw dt 0 turn)) then fD_turnedX dw dt 3 turn else (if (fD_turnedX dw dt 2 turn) < (if (fD_turnedX dw dt 1 turn) < (fD_turnedX dw dt 0 turn) then fD_turnedX dw dt 1 turn else fD_turnedX dw dt 0 turn) then fD_turnedX dw dt 2 turn else (if (fD_turnedX dw dt 1 turn) < (fD_turnedX dw dt 0 turn) then fD_turnedX dw dt 1 turn else fD_turnedX dw dt 0 turn)))
set_option maxHeartbeats 1000000 in
set_option maxRecDepth 100000 in
theorem ct_D_leastX (l : Launch) (dC : Nat → ClassId) (dI : Nat → Nat → Nat) (cC cI cJ : ClassId) (dA : Nat) (dw : Int64) (dh : Int64) (dt : Int64) (dd : Int64) (turn : Int32) (t1 : Nat) (t2 : Nat) (ht : vp_in turn 9) : Met l my_D_leastX (.code my_D_leastX mb_D_leastX 5 (some .long) :: gw_l) ({ frames := 2, cells := 0, slots := 0, locals := 43 }) (pu_Pc (dC, dI) mC [(cC, .char), (cI, .int), (cJ, .long)] [(dA, .inr (0, [.long dw, .long dh, .long dt, .long dd]))] (am_S t1 t2) [.ref dA, .int turn]) (vp_Sl (fun r => r = fD_leastX dw dt turn)) 0 0 (fun _ => False) := by
  refine Met.ofW (cc := mb_D_leastX) (maxL := 5) (ret := (some .long)) (by decide) rfl ?_
  intro p e s m args below meth c s₁ B hml hv
  obtain ⟨rfl, hP, hK, hE⟩ := hv
  have hx := B.exec
  have hb := B.bytes
  have hr := B.returns
  have hts := atoms_spec (ws := (.code my_D_leastX mb_D_leastX 5 (some .long) :: gw_l)) B.pre
  have hg : ∀ w ∈ gw_l, w.before _ s = true := fun w h => hts w (List.mem_cons_of_mem _ h)
  have hown : s.vm.findClass mR_D = some m.cls := findClass_of_methodNamed B.named
  have hlocks := B.notSynchronized
  have hl := lv_entry ([.ref dA, .int turn]) (n := 5) (Nat.le_of_ble_eq_true rfl)
  rw [lg_entry_eq]
  generalize (lg_sl ([.ref dA, .int turn]) ++ List.replicate (5 - (lg_sl ([.ref dA, .int turn])).length) Slot.unset).toArray = ls at hl ⊢
  have hl : lv_has ls 5 [(0, .ref dA), (1, .int turn)] := hl
  refine lv_aload_n hx hb md_D_leastX_0 rfl (lv_at hl 0 rfl) ?_
  refine lv_iconst (v := 0) hx hb md_D_leastX_1 (by decide) ?_
  refine lv_iload_n hx hb md_D_leastX_2 rfl (lv_at hl 1 rfl) ?_
  have hPc1 := hP.sub (ws' := [(dA, .inr (0, [.long dw, .long dh, .long dt, .long dd]))]) [0] rfl
  refine pu_l (W.runV (As := [.int 0, .int turn]) (rest := []) ⟨hx, hb, hml, hown, hg⟩ (ct_D_turnedX l dC dI cC cI cJ dA dw dh dt dd 0 turn t1 t2 ht) (gw_cwV hg wd_481 mv_D_turnedX rfl rfl ⟨Nat.le_of_ble_eq_true rfl, Nat.le_of_ble_eq_true rfl⟩) (pu_preV (ci := 0) (q0 := 0) am_S_bl hK hPc1 (pu_e0 am_S_bl hE) rfl rfl) rfl rfl hl.1 rfl (lv_room (Nat.le_of_ble_eq_true rfl)) md_D_leastX_3 ⟨Nat.zero_le _, Nat.zero_le _⟩) ?_
  refine lv_lstore_n (lv' := [(2, .long (fD_turnedX dw dt 0 turn)), (0, .ref dA), (1, .int turn)]) hx hb md_D_leastX_6 rfl hl (by decide) rfl (fun ls hl => ?_)
  refine lv_iconst (v := 1) hx hb md_D_leastX_7 (by decide) ?_
  refine lv_istore (lv' := [(4, .int 1), (2, .long (fD_turnedX dw dt 0 turn)), (0, .ref dA), (1, .int turn)]) hx hb md_D_leastX_8 hl (by decide) rfl (fun ls hl => ?_)
  refine lv_iload hx hb md_D_leastX_10 (lv_at hl 0 rfl) ?_
  refine lv_iconst (v := 4) hx hb md_D_leastX_12 (by decide) ?_
  refine lv_icmp_ge (tgt := 34) hx hb md_D_leastX_13 (by decide) (fun c2 => absurd c2 (by decide)) (fun _ => ?_)
  refine lv_lload_n hx hb md_D_leastX_16 rfl (lv_at hl 1 rfl) ?_
  refine lv_aload_n hx hb md_D_leastX_17 rfl (lv_at hl 2 rfl) ?_
  refine lv_iload hx hb md_D_leastX_18 (lv_at hl 0 rfl) ?_
  refine lv_iload_n hx hb md_D_leastX_20 rfl (lv_at hl 3 rfl) ?_
  have hPc3 := hP.sub (ws' := [(dA, .inr (0, [.long dw, .long dh, .long dt, .long dd]))]) [0] rfl
  refine pu_l (W.runV (As := [.int 1, .int turn]) (rest := [.long (fD_turnedX dw dt 0 turn)]) ⟨hx, hb, hml, hown, hg⟩ (ct_D_turnedX l dC dI cC cI cJ dA dw dh dt dd 1 turn t1 t2 ht) (gw_cwV hg wd_481 mv_D_turnedX rfl rfl ⟨Nat.le_of_ble_eq_true rfl, Nat.le_of_ble_eq_true rfl⟩) (pu_preV (ci := 0) (q0 := 0) am_S_bl hK hPc3 (pu_e0 am_S_bl hE) rfl rfl) rfl rfl hl.1 rfl (lv_room (Nat.le_of_ble_eq_true rfl)) md_D_leastX_21 ⟨Nat.zero_le _, Nat.zero_le _⟩) ?_
  refine va_mmin_long hx hb (hml.trans hl.1.symm) hown (hg _ wd_422) (hg _ wd_423) (hg _ wd_13) (hg _ gw_min) (Nat.le_of_ble_eq_true rfl) (Nat.le_of_ble_eq_true rfl) (Nat.zero_le _) (Nat.zero_le _) md_D_leastX_24 ?_
  refine lv_lstore_n (lv' := [(2, .long (if (fD_turnedX dw dt 1 turn) < (fD_turnedX dw dt 0 turn) then fD_turnedX dw dt 1 turn else fD_turnedX dw dt 0 turn)), (4, .int 1), (0, .ref dA), (1, .int turn)]) hx hb md_D_leastX_27 rfl hl (by decide) rfl (fun ls hl => ?_)
  refine lv_iinc (v := 2) (lv' := [(4, .int 2), (2, .long (if (fD_turnedX dw dt 1 turn) < (fD_turnedX dw dt 0 turn) then fD_turnedX dw dt 1 turn else fD_turnedX dw dt 0 turn)), (0, .ref dA), (1, .int turn)]) hx hb md_D_leastX_28 hl (k := 1) rfl (by decide) (by decide) rfl (fun ls hl => ?_)
  refine lv_goto (tgt := 10) hx hb md_D_leastX_31 (by decide) ?_
  refine lv_iload hx hb md_D_leastX_10 (lv_at hl 0 rfl) ?_
  refine lv_iconst (v := 4) hx hb md_D_leastX_12 (by decide) ?_
  refine lv_icmp_ge (tgt := 34) hx hb md_D_leastX_13 (by decide) (fun c4 => absurd c4 (by decide)) (fun _ => ?_)
  refine lv_lload_n hx hb md_D_leastX_16 rfl (lv_at hl 1 rfl) ?_
  refine lv_aload_n hx hb md_D_leastX_17 rfl (lv_at hl 2 rfl) ?_
  refine lv_iload hx hb md_D_leastX_18 (lv_at hl 0 rfl) ?_
  refine lv_iload_n hx hb md_D_leastX_20 rfl (lv_at hl 3 rfl) ?_
  have hPc5 := hP.sub (ws' := [(dA, .inr (0, [.long dw, .long dh, .long dt, .long dd]))]) [0] rfl
  refine pu_l (W.runV (As := [.int 2, .int turn]) (rest := [.long (if (fD_turnedX dw dt 1 turn) < (fD_turnedX dw dt 0 turn) then fD_turnedX dw dt 1 turn else fD_turnedX dw dt 0 turn)]) ⟨hx, hb, hml, hown, hg⟩ (ct_D_turnedX l dC dI cC cI cJ dA dw dh dt dd 2 turn t1 t2 ht) (gw_cwV hg wd_481 mv_D_turnedX rfl rfl ⟨Nat.le_of_ble_eq_true rfl, Nat.le_of_ble_eq_true rfl⟩) (pu_preV (ci := 0) (q0 := 0) am_S_bl hK hPc5 (pu_e0 am_S_bl hE) rfl rfl) rfl rfl hl.1 rfl (lv_room (Nat.le_of_ble_eq_true rfl)) md_D_leastX_21 ⟨Nat.zero_le _, Nat.zero_le _⟩) ?_
  refine va_mmin_long hx hb (hml.trans hl.1.symm) hown (hg _ wd_422) (hg _ wd_423) (hg _ wd_13) (hg _ gw_min) (Nat.le_of_ble_eq_true rfl) (Nat.le_of_ble_eq_true rfl) (Nat.zero_le _) (Nat.zero_le _) md_D_leastX_24 ?_
  refine lv_lstore_n (lv' := [(2, .long (if (fD_turnedX dw dt 2 turn) < (if (fD_turnedX dw dt 1 turn) < (fD_turnedX dw dt 0 turn) then fD_turnedX dw dt 1 turn else fD_turnedX dw dt 0 turn) then fD_turnedX dw dt 2 turn else (if (fD_turnedX dw dt 1 turn) < (fD_turnedX dw dt 0 turn) then fD_turnedX dw dt 1 turn else fD_turnedX dw dt 0 turn))), (4, .int 2), (0, .ref dA), (1, .int turn)]) hx hb md_D_leastX_27 rfl hl (by decide) rfl (fun ls hl => ?_)
  refine lv_iinc (v := 3) (lv' := [(4, .int 3), (2, .long (if (fD_turnedX dw dt 2 turn) < (if (fD_turnedX dw dt 1 turn) < (fD_turnedX dw dt 0 turn) then fD_turnedX dw dt 1 turn else fD_turnedX dw dt 0 turn) then fD_turnedX dw dt 2 turn else (if (fD_turnedX dw dt 1 turn) < (fD_turnedX dw dt 0 turn) then fD_turnedX dw dt 1 turn else fD_turnedX dw dt 0 turn))), (0, .ref dA), (1, .int turn)]) hx hb md_D_leastX_28 hl (k := 1) rfl (by decide) (by decide) rfl (fun ls hl => ?_)
  refine lv_goto (tgt := 10) hx hb md_D_leastX_31 (by decide) ?_
  refine lv_iload hx hb md_D_leastX_10 (lv_at hl 0 rfl) ?_
  refine lv_iconst (v := 4) hx hb md_D_leastX_12 (by decide) ?_
  refine lv_icmp_ge (tgt := 34) hx hb md_D_leastX_13 (by decide) (fun c6 => absurd c6 (by decide)) (fun _ => ?_)
  refine lv_lload_n hx hb md_D_leastX_16 rfl (lv_at hl 1 rfl) ?_
  refine lv_aload_n hx hb md_D_leastX_17 rfl (lv_at hl 2 rfl) ?_
  refine lv_iload hx hb md_D_leastX_18 (lv_at hl 0 rfl) ?_
  refine lv_iload_n hx hb md_D_leastX_20 rfl (lv_at hl 3 rfl) ?_
  have hPc7 := hP.sub (ws' := [(dA, .inr (0, [.long dw, .long dh, .long dt, .long dd]))]) [0] rfl
  refine pu_l (W.runV (As := [.int 3, .int turn]) (rest := [.long (if (fD_turnedX dw dt 2 turn) < (if (fD_turnedX dw dt 1 turn) < (fD_turnedX dw dt 0 turn) then fD_turnedX dw dt 1 turn else fD_turnedX dw dt 0 turn) then fD_turnedX dw dt 2 turn else (if (fD_turnedX dw dt 1 turn) < (fD_turnedX dw dt 0 turn) then fD_turnedX dw dt 1 turn else fD_turnedX dw dt 0 turn))]) ⟨hx, hb, hml, hown, hg⟩ (ct_D_turnedX l dC dI cC cI cJ dA dw dh dt dd 3 turn t1 t2 ht) (gw_cwV hg wd_481 mv_D_turnedX rfl rfl ⟨Nat.le_of_ble_eq_true rfl, Nat.le_of_ble_eq_true rfl⟩) (pu_preV (ci := 0) (q0 := 0) am_S_bl hK hPc7 (pu_e0 am_S_bl hE) rfl rfl) rfl rfl hl.1 rfl (lv_room (Nat.le_of_ble_eq_true rfl)) md_D_leastX_21 ⟨Nat.zero_le _, Nat.zero_le _⟩) ?_
  refine va_mmin_long hx hb (hml.trans hl.1.symm) hown (hg _ wd_422) (hg _ wd_423) (hg _ wd_13) (hg _ gw_min) (Nat.le_of_ble_eq_true rfl) (Nat.le_of_ble_eq_true rfl) (Nat.zero_le _) (Nat.zero_le _) md_D_leastX_24 ?_
  refine lv_lstore_n (lv' := [(2, .long (if (fD_turnedX dw dt 3 turn) < (if (fD_turnedX dw dt 2 turn) < (if (fD_turnedX dw dt 1 turn) < (fD_turnedX dw dt 0 turn) then fD_turnedX dw dt 1 turn else fD_turnedX dw dt 0 turn) then fD_turnedX dw dt 2 turn else (if (fD_turnedX dw dt 1 turn) < (fD_turnedX dw dt 0 turn) then fD_turnedX dw dt 1 turn else fD_turnedX dw dt 0 turn)) then fD_turnedX dw dt 3 turn else (if (fD_turnedX dw dt 2 turn) < (if (fD_turnedX dw dt 1 turn) < (fD_turnedX dw dt 0 turn) then fD_turnedX dw dt 1 turn else fD_turnedX dw dt 0 turn) then fD_turnedX dw dt 2 turn else (if (fD_turnedX dw dt 1 turn) < (fD_turnedX dw dt 0 turn) then fD_turnedX dw dt 1 turn else fD_turnedX dw dt 0 turn)))), (4, .int 3), (0, .ref dA), (1, .int turn)]) hx hb md_D_leastX_27 rfl hl (by decide) rfl (fun ls hl => ?_)
  refine lv_iinc (v := 4) (lv' := [(4, .int 4), (2, .long (if (fD_turnedX dw dt 3 turn) < (if (fD_turnedX dw dt 2 turn) < (if (fD_turnedX dw dt 1 turn) < (fD_turnedX dw dt 0 turn) then fD_turnedX dw dt 1 turn else fD_turnedX dw dt 0 turn) then fD_turnedX dw dt 2 turn else (if (fD_turnedX dw dt 1 turn) < (fD_turnedX dw dt 0 turn) then fD_turnedX dw dt 1 turn else fD_turnedX dw dt 0 turn)) then fD_turnedX dw dt 3 turn else (if (fD_turnedX dw dt 2 turn) < (if (fD_turnedX dw dt 1 turn) < (fD_turnedX dw dt 0 turn) then fD_turnedX dw dt 1 turn else fD_turnedX dw dt 0 turn) then fD_turnedX dw dt 2 turn else (if (fD_turnedX dw dt 1 turn) < (fD_turnedX dw dt 0 turn) then fD_turnedX dw dt 1 turn else fD_turnedX dw dt 0 turn)))), (0, .ref dA), (1, .int turn)]) hx hb md_D_leastX_28 hl (k := 1) rfl (by decide) (by decide) rfl (fun ls hl => ?_)
  refine lv_goto (tgt := 10) hx hb md_D_leastX_31 (by decide) ?_
  refine lv_iload hx hb md_D_leastX_10 (lv_at hl 0 rfl) ?_
  refine lv_iconst (v := 4) hx hb md_D_leastX_12 (by decide) ?_
  refine lv_icmp_ge (tgt := 34) hx hb md_D_leastX_13 (by decide) (fun _ => ?_) (fun c8 => absurd (by decide) c8)
  refine lv_lload_n hx hb md_D_leastX_34 rfl (lv_at hl 1 rfl) ?_
  exact pu_lret hx hb hr hlocks md_D_leastX_35 rfl

def gH_overlappingPair (ox : Nat → Int32) (oy : Nat → Int32) (oq : Nat → Int32) (k : Int32) : Nat → Int32 → Nat → Nat → Int32
  | 0, _, _, _ => 0
  | n + 1, left, a, b => if 16 ≤ (nI b) then (if 16 ≤ (nI (a + 1)) then (-1) else (gH_overlappingPair ox oy oq k n left (a + 1) ((a + 1) + 1))) else (if (fH_overlap ox oy oq (nI a) (nI b)) = 0 then (gH_overlappingPair ox oy oq k n left a (b + 1)) else (if left = 0 then ((16 * (nI a)) + (nI b)) else (gH_overlappingPair ox oy oq k n (left + (-1)) a (b + 1))))
def fH_overlappingPair (ox : Nat → Int32) (oy : Nat → Int32) (oq : Nat → Int32) (k : Int32) : Int32 := gH_overlappingPair ox oy oq k 300 k 0 1
set_option maxHeartbeats 1000000 in
set_option maxRecDepth 100000 in
theorem ct_H_overlappingPair (l : Launch) (dC : Nat → ClassId) (dI : Nat → Nat → Nat) (cC cI cJ : ClassId) (oA : Nat) (oX : Nat) (oY : Nat) (oR : Nat) (ox : Nat → Int32) (oy : Nat → Int32) (oq : Nat → Int32) (k : Int32)   : Met l my_H_overlappingPair (.code my_H_overlappingPair mb_H_overlappingPair 5 (some .int) :: gw_l) ({ frames := 1, cells := 0, slots := 0, locals := 28 }) (pu_Pc (dC, dI) mC [(cC, .char), (cI, .int), (cJ, .long)] [(oA, .inr (1, [.ref oX, .ref oY, .ref oR])), (oX, .inl (cI, 16, .inl ox)), (oY, .inl (cI, 16, .inl oy)), (oR, .inl (cI, 16, .inl oq))] (fun _ => True) [.ref oA, .int k]) (vp_Si (fun r => r = fH_overlappingPair ox oy oq k)) 0 0 (fun _ => False) := by
  refine Met.ofW (cc := mb_H_overlappingPair) (maxL := 5) (ret := (some .int)) (by decide) rfl ?_
  intro p e s m args below meth c s₁ B hml hv
  obtain ⟨rfl, hP, hK, hE⟩ := hv
  have hx := B.exec
  have hb := B.bytes
  have hr := B.returns
  have hts := atoms_spec (ws := (.code my_H_overlappingPair mb_H_overlappingPair 5 (some .int) :: gw_l)) B.pre
  have hg : ∀ w ∈ gw_l, w.before _ s = true := fun w h => hts w (List.mem_cons_of_mem _ h)
  have hown : s.vm.findClass mR_H = some m.cls := findClass_of_methodNamed B.named
  have hlocks := B.notSynchronized
  have hl := lv_entry ([.ref oA, .int k]) (n := 5) (Nat.le_of_ble_eq_true rfl)
  rw [lg_entry_eq]
  generalize (lg_sl ([.ref oA, .int k]) ++ List.replicate (5 - (lg_sl ([.ref oA, .int k])).length) Slot.unset).toArray = ls at hl ⊢
  have hl : lv_has ls 5 [(0, .ref oA), (1, .int k)] := hl
  have loop : ∀ (n : Nat) (left : Int32) (a : Nat) (b : Nat) (ls : Array Slot), (a < 16) → (a < b) → (b ≤ 16) → (16 - a) * 17 + (16 - b) < n → fH_overlappingPair ox oy oq k = gH_overlappingPair ox oy oq k n left a b → lv_has ls 5 [(0, .ref oA), (1, .int k), (2, .int left), (3, .int (nI a)), (4, .int (nI b))] → W p l e (headSpec (.code my_H_overlappingPair mb_H_overlappingPair 5 (some .int) :: gw_l) ({ frames := 1, cells := 0, slots := 0, locals := 28 })).room s m ([.ref oA, .int k] : List Value).toArray below meth c s.heap [] 0 0 (MQ below (vp_Si (fun r => r = fH_overlappingPair ox oy oq k)) ([.ref oA, .int k] : List Value).toArray s 0 0 (fun _ => False)) (F0 m 15 ls []) := by
    intro n
    induction n with
    | zero =>
      intro left a b ls h1 h2 h3 hm
      exact absurd hm (Nat.not_lt_zero _)
    | succ n ih =>
      intro left a b ls h1 h2 h3 hm hv hl
      refine lv_iload hx hb md_H_overlappingPair_15 (lv_at hl 4 rfl) ?_
      refine lv_bipush (v := 16) hx hb md_H_overlappingPair_17 (by decide) ?_
      refine lv_icmp_ge (tgt := 53) hx hb md_H_overlappingPair_19 (by decide) (fun c2 => ?_) (fun c2 => ?_)
      · refine lv_iinc (v := nI (a + 1)) (lv' := [(3, .int (nI (a + 1))), (0, .ref oA), (1, .int k), (2, .int left), (4, .int (nI b))]) hx hb md_H_overlappingPair_53 hl (k := 3) rfl (by rw [nI_succ]; rfl) (by decide) rfl (fun ls hl => ?_)
        refine lv_goto (tgt := 4) hx hb md_H_overlappingPair_56 (by decide) ?_
        refine lv_iload_n hx hb md_H_overlappingPair_4 rfl (lv_at hl 0 rfl) ?_
        refine lv_bipush (v := 16) hx hb md_H_overlappingPair_5 (by decide) ?_
        refine lv_icmp_ge (tgt := 59) hx hb md_H_overlappingPair_7 (by decide) (fun c3 => ?_) (fun c3 => ?_)
        · refine lv_iconst (v := (-1)) hx hb md_H_overlappingPair_59 (by decide) ?_
          exact pu_iret hx hb hr hlocks md_H_overlappingPair_60 (by rw [hv, gH_overlappingPair, if_pos c2, if_pos c3])
        · refine lv_iload_n hx hb md_H_overlappingPair_10 rfl (lv_at hl 0 rfl) ?_
          refine lv_iconst (v := 1) hx hb md_H_overlappingPair_11 (by decide) ?_
          refine lv_iadd hx hb md_H_overlappingPair_12 ?_
          rw [← nI_succ]
          refine lv_istore (lv' := [(4, .int (nI ((a + 1) + 1))), (3, .int (nI (a + 1))), (0, .ref oA), (1, .int k), (2, .int left)]) hx hb md_H_overlappingPair_13 hl (by decide) rfl (fun ls hl => ?_)
          exact ih left (a + 1) ((a + 1) + 1) ls (nx_lt (a := a + 1) (b := 16) (by omega) (by omega) c3) (by omega) (by have := nx_lt (a := a + 1) (b := 16) (by omega) (by omega) c3; omega) (by have := nx_lt (a := a + 1) (b := 16) (by omega) (by omega) c3; omega) (by rw [hv, gH_overlappingPair, if_pos c2, if_neg c3]) (lv_sub hl [2, 3, 4, 1, 0] rfl)
      · have hlt : b < 16 := nx_lt (a := b) (b := 16) (by omega) (by omega) c2
        refine lv_aload_n hx hb md_H_overlappingPair_22 rfl (lv_at hl 0 rfl) ?_
        refine lv_iload_n hx hb md_H_overlappingPair_23 rfl (lv_at hl 3 rfl) ?_
        refine lv_iload hx hb md_H_overlappingPair_24 (lv_at hl 4 rfl) ?_
        have hPc4 := hP.sub (ws' := [(oA, .inr (1, [.ref oX, .ref oY, .ref oR])), (oX, .inl (cI, 16, .inl ox)), (oY, .inl (cI, 16, .inl oy)), (oR, .inl (cI, 16, .inl oq))]) [0, 1, 2, 3] rfl
        refine pu_i (W.runV (As := [.int (nI a), .int (nI b)]) (rest := []) ⟨hx, hb, hml, hown, hg⟩ (ct_H_overlap l dC dI cC cI cJ oA oX oY oR ox oy oq (nI a) (nI b) (nx_16 (by omega)) (nx_16 (by omega))) (gw_cwV hg wd_468 mv_H_overlap rfl rfl ⟨Nat.le_of_ble_eq_true rfl, Nat.le_of_ble_eq_true rfl⟩) (pu_preV (ci := 1) (q0 := 0) pu_blT hK hPc4 pu_e1 rfl rfl) rfl rfl hl.1 rfl (lv_room (Nat.le_of_ble_eq_true rfl)) md_H_overlappingPair_26 ⟨Nat.zero_le _, Nat.zero_le _⟩) ?_
        refine lv_if_eq (tgt := 47) hx hb md_H_overlappingPair_29 (by decide) (fun c5 => ?_) (fun c5 => ?_)
        · refine lv_iinc (v := nI (b + 1)) (lv' := [(4, .int (nI (b + 1))), (0, .ref oA), (1, .int k), (2, .int left), (3, .int (nI a))]) hx hb md_H_overlappingPair_47 hl (k := 4) rfl (by rw [nI_succ]; rfl) (by decide) rfl (fun ls hl => ?_)
          refine lv_goto (tgt := 15) hx hb md_H_overlappingPair_50 (by decide) ?_
          exact ih left a (b + 1) ls (by omega) (by omega) (by omega) (by omega) (by rw [hv, gH_overlappingPair, if_neg c2, if_pos c5]) (lv_sub hl [1, 2, 3, 4, 0] rfl)
        · refine lv_iload_n hx hb md_H_overlappingPair_32 rfl (lv_at hl 2 rfl) ?_
          refine lv_if_ne (tgt := 44) hx hb md_H_overlappingPair_33 (by decide) (fun c6 => ?_) (fun c6 => ?_)
          · refine lv_iinc (v := left + (-1)) (lv' := [(2, .int (left + (-1))), (0, .ref oA), (1, .int k), (3, .int (nI a)), (4, .int (nI b))]) hx hb md_H_overlappingPair_44 hl (k := 2) rfl rfl (by decide) rfl (fun ls hl => ?_)
            refine lv_iinc (v := nI (b + 1)) (lv' := [(4, .int (nI (b + 1))), (2, .int (left + (-1))), (0, .ref oA), (1, .int k), (3, .int (nI a))]) hx hb md_H_overlappingPair_47 hl (k := 4) rfl (by rw [nI_succ]; rfl) (by decide) rfl (fun ls hl => ?_)
            refine lv_goto (tgt := 15) hx hb md_H_overlappingPair_50 (by decide) ?_
            exact ih (left + (-1)) a (b + 1) ls (by omega) (by omega) (by omega) (by omega) (by rw [hv, gH_overlappingPair, if_neg c2, if_neg c5, if_neg c6]) (lv_sub hl [2, 3, 1, 4, 0] rfl)
          · refine lv_bipush (v := 16) hx hb md_H_overlappingPair_36 (by decide) ?_
            refine lv_iload_n hx hb md_H_overlappingPair_38 rfl (lv_at hl 3 rfl) ?_
            refine lv_imul hx hb md_H_overlappingPair_39 ?_
            refine lv_iload hx hb md_H_overlappingPair_40 (lv_at hl 4 rfl) ?_
            refine lv_iadd hx hb md_H_overlappingPair_42 ?_
            exact pu_iret hx hb hr hlocks md_H_overlappingPair_43 (by rw [hv, gH_overlappingPair, if_neg c2, if_neg c5, if_pos c6])
  refine lv_iload_n hx hb md_H_overlappingPair_0 rfl (lv_at hl 1 rfl) ?_
  refine lv_istore_n (lv' := [(2, .int k), (0, .ref oA), (1, .int k)]) hx hb md_H_overlappingPair_1 rfl hl (by decide) rfl (fun ls hl => ?_)
  refine lv_iconst (v := 0) hx hb md_H_overlappingPair_2 (by decide) ?_
  refine lv_istore_n (lv' := [(3, .int 0), (2, .int k), (0, .ref oA), (1, .int k)]) hx hb md_H_overlappingPair_3 rfl hl (by decide) rfl (fun ls hl => ?_)
  refine lv_iload_n hx hb md_H_overlappingPair_4 rfl (lv_at hl 0 rfl) ?_
  refine lv_bipush (v := 16) hx hb md_H_overlappingPair_5 (by decide) ?_
  refine lv_icmp_ge (tgt := 59) hx hb md_H_overlappingPair_7 (by decide) (fun c1 => absurd c1 (by decide)) (fun _ => ?_)
  refine lv_iload_n hx hb md_H_overlappingPair_10 rfl (lv_at hl 0 rfl) ?_
  refine lv_iconst (v := 1) hx hb md_H_overlappingPair_11 (by decide) ?_
  refine lv_iadd hx hb md_H_overlappingPair_12 ?_
  refine lv_istore (lv' := [(4, .int (0 + 1)), (3, .int 0), (2, .int k), (0, .ref oA), (1, .int k)]) hx hb md_H_overlappingPair_13 hl (by decide) rfl (fun ls hl => ?_)
  exact loop 300 k 0 1 ls (by omega) (by omega) (by omega) (by omega) (by rw [fH_overlappingPair]) (lv_sub hl [3, 4, 2, 1, 0] rfl)
