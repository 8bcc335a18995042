theorem nx_lt {a b : Nat} (ha : a < 2 ^ 31) (hb : b < 2 ^ 31) (h : ¬ nI b ≤ nI a) : a < b := Nat.lt_of_not_le (fun q => h ((nI_leI hb ha).mpr q))
theorem nx_6 {i k : Nat} (h : i < 16) (hk : k < 6) : vp_in (nI i * 6 + nI k) 96 := by
  have e : nI i * 6 + nI k = nI (i * 6 + k) := by
    have e1 : nI i * 6 = nI (i * 6) := pk_mul i 6
    rw [e1, nI_add]
  rw [e]
  exact vp_in_nI (by omega) (by omega)
theorem nx_16 {i : Nat} (h : i < 16) : vp_in (nI i) 16 := vp_in_nI h (by omega)

def gK_commonDivisor (a : Int64) (b : Int64) : Nat → Int64 → Int64 → Nat → Int64
  | 0, _, _, _ => 0
  | n + 1, gr, le, st => if 100 ≤ (nI st) then gr else (if le ≤ 0 then gr else (gK_commonDivisor a b n le (gr - gr / le * le) (st + 1)))
def fK_commonDivisor (a : Int64) (b : Int64) : Int64 := gK_commonDivisor a b 101 a b 0
set_option maxHeartbeats 1000000 in
set_option maxRecDepth 100000 in
theorem ct_K_commonDivisor (l : Launch) (dC : Nat → ClassId) (dI : Nat → Nat → Nat) (cC cI cJ : ClassId)  (a : Int64) (b : Int64)   : Met l my_K_commonDivisor (.code my_K_commonDivisor mb_K_commonDivisor 11 (some .long) :: gw_l) ({ frames := 0, cells := 0, slots := 0, locals := 0 }) (pu_Pc (dC, dI) mC [(cC, .char), (cI, .int), (cJ, .long)] [] (fun _ => True) [.long a, .long b]) (vp_Sl (fun r => r = fK_commonDivisor a b)) 0 0 (fun _ => False) := by
  refine Met.ofW (cc := mb_K_commonDivisor) (maxL := 11) (ret := (some .long)) (by decide) rfl ?_
  intro p e s m args below meth c s₁ B hml hv
  obtain ⟨rfl, hP, hK, hE⟩ := hv
  have hx := B.exec
  have hb := B.bytes
  have hr := B.returns
  have hts := atoms_spec (ws := (.code my_K_commonDivisor mb_K_commonDivisor 11 (some .long) :: gw_l)) B.pre
  have hg : ∀ w ∈ gw_l, w.before _ s = true := fun w h => hts w (List.mem_cons_of_mem _ h)
  have hown : s.vm.findClass mR_K = some m.cls := findClass_of_methodNamed B.named
  have hlocks := B.notSynchronized
  have hl := lv_entry ([.long a, .long b]) (n := 11) (Nat.le_of_ble_eq_true rfl)
  rw [lg_entry_eq]
  generalize (lg_sl ([.long a, .long b]) ++ List.replicate (11 - (lg_sl ([.long a, .long b])).length) Slot.unset).toArray = ls at hl ⊢
  have hl : lv_has ls 11 [(0, .long a), (2, .long b)] := hl
  have loop : ∀ (n : Nat) (gr : Int64) (le : Int64) (st : Nat) (ls : Array Slot), (st ≤ 100) → 100 - st < n → fK_commonDivisor a b = gK_commonDivisor a b n gr le st → lv_has ls 11 [(0, .long a), (2, .long b), (4, .long gr), (6, .long le), (8, .int (nI st))] → W p l e (headSpec (.code my_K_commonDivisor mb_K_commonDivisor 11 (some .long) :: gw_l) ({ frames := 0, cells := 0, slots := 0, locals := 0 })).room s m ([.long a, .long b] : List Value).toArray below meth c s.heap [] 0 0 (MQ below (vp_Sl (fun r => r = fK_commonDivisor a b)) ([.long a, .long b] : List Value).toArray s 0 0 (fun _ => False)) (F0 m 9 ls []) := by
    intro n
    induction n with
    | zero =>
      intro gr le st ls h1 hm
      exact absurd hm (Nat.not_lt_zero _)
    | succ n ih =>
      intro gr le st ls h1 hm hv hl
      refine lv_iload hx hb md_K_commonDivisor_9 (lv_at hl 4 rfl) ?_
      refine lv_bipush (v := 100) hx hb md_K_commonDivisor_11 (by decide) ?_
      refine lv_icmp_ge (tgt := 44) hx hb md_K_commonDivisor_13 (by decide) (fun c1 => ?_) (fun c1 => ?_)
      · refine lv_lload hx hb md_K_commonDivisor_44 (lv_at hl 2 rfl) ?_
        exact pu_lret hx hb hr hlocks md_K_commonDivisor_46 (by rw [hv, gK_commonDivisor, if_pos c1])
      · have hlt : st < 100 := nx_lt (by omega) (by omega) c1
        refine lv_lload hx hb md_K_commonDivisor_16 (lv_at hl 3 rfl) ?_
        refine lv_lconst (v := 0) hx hb md_K_commonDivisor_18 (by decide) ?_
        refine lx_le (tgt := 44) hx hb md_K_commonDivisor_19 md_K_commonDivisor_20 (by decide) (fun c2 => ?_) (fun c2 => ?_)
        · refine lv_lload hx hb md_K_commonDivisor_44 (lv_at hl 2 rfl) ?_
          exact pu_lret hx hb hr hlocks md_K_commonDivisor_46 (by rw [hv, gK_commonDivisor, if_neg c1, if_pos c2])
        · refine lv_lload hx hb md_K_commonDivisor_23 (lv_at hl 2 rfl) ?_
          refine lv_lload hx hb md_K_commonDivisor_25 (lv_at hl 3 rfl) ?_
          refine lv_lrem hx hb md_K_commonDivisor_27 (fun h => c2 (by rw [h]; decide)) ?_
          refine lv_lstore (lv' := [(9, .long (gr - gr / le * le)), (0, .long a), (2, .long b), (4, .long gr), (6, .long le), (8, .int (nI st))]) hx hb md_K_commonDivisor_28 hl (by decide) rfl (fun ls hl => ?_)
          refine lv_lload hx hb md_K_commonDivisor_30 (lv_at hl 4 rfl) ?_
          refine lv_lstore (lv' := [(4, .long le), (9, .long (gr - gr / le * le)), (0, .long a), (2, .long b), (6, .long le), (8, .int (nI st))]) hx hb md_K_commonDivisor_32 hl (by decide) rfl (fun ls hl => ?_)
          refine lv_lload hx hb md_K_commonDivisor_34 (lv_at hl 1 rfl) ?_
          refine lv_lstore (lv' := [(6, .long (gr - gr / le * le)), (4, .long le), (9, .long (gr - gr / le * le)), (0, .long a), (2, .long b), (8, .int (nI st))]) hx hb md_K_commonDivisor_36 hl (by decide) rfl (fun ls hl => ?_)
          refine lv_iinc (v := nI (st + 1)) (lv' := [(8, .int (nI (st + 1))), (6, .long (gr - gr / le * le)), (4, .long le), (9, .long (gr - gr / le * le)), (0, .long a), (2, .long b)]) hx hb md_K_commonDivisor_38 hl (k := 5) rfl (by rw [nI_succ]; rfl) (by decide) rfl (fun ls hl => ?_)
          refine lv_goto (tgt := 9) hx hb md_K_commonDivisor_41 (by decide) ?_
          exact ih le (gr - gr / le * le) (st + 1) ls (by omega) (by omega) (by rw [hv, gK_commonDivisor, if_neg c1, if_neg c2]) (lv_sub hl [4, 5, 2, 1, 0] rfl)
  refine lv_lload_n hx hb md_K_commonDivisor_0 rfl (lv_at hl 0 rfl) ?_
  refine lv_lstore (lv' := [(4, .long a), (0, .long a), (2, .long b)]) hx hb md_K_commonDivisor_1 hl (by decide) rfl (fun ls hl => ?_)
  refine lv_lload_n hx hb md_K_commonDivisor_3 rfl (lv_at hl 2 rfl) ?_
  refine lv_lstore (lv' := [(6, .long b), (4, .long a), (0, .long a), (2, .long b)]) hx hb md_K_commonDivisor_4 hl (by decide) rfl (fun ls hl => ?_)
  refine lv_iconst (v := 0) hx hb md_K_commonDivisor_6 (by decide) ?_
  refine lv_istore (lv' := [(8, .int 0), (6, .long b), (4, .long a), (0, .long a), (2, .long b)]) hx hb md_K_commonDivisor_7 hl (by decide) rfl (fun ls hl => ?_)
  exact loop 101 a b 0 ls (by omega) (by omega) (by rw [fK_commonDivisor]) (lv_sub hl [3, 4, 2, 1, 0] rfl)

def fK_partOfFraction (num : Int64) (den : Int64) (part : Int32) : Int64 := if part = 0 then (if (fK_commonDivisor num den) ≤ 1 then num else (num / (fK_commonDivisor num den))) else (if (fK_commonDivisor num den) ≤ 1 then den else (den / (fK_commonDivisor num den)))
set_option maxHeartbeats 1000000 in
set_option maxRecDepth 100000 in
theorem ct_K_partOfFraction (l : Launch) (dC : Nat → ClassId) (dI : Nat → Nat → Nat) (cC cI cJ : ClassId)  (num : Int64) (den : Int64) (part : Int32)   : Met l my_K_partOfFraction (.code my_K_partOfFraction mb_K_partOfFraction 9 (some .long) :: gw_l) ({ frames := 1, cells := 0, slots := 0, locals := 30 }) (pu_Pc (dC, dI) mC [(cC, .char), (cI, .int), (cJ, .long)] [] (fun _ => True) [.long num, .long den, .int part]) (vp_Sl (fun r => r = fK_partOfFraction num den part)) 0 0 (fun _ => False) := by
  refine Met.ofW (cc := mb_K_partOfFraction) (maxL := 9) (ret := (some .long)) (by decide) rfl ?_
  intro p e s m args below meth c s₁ B hml hv
  obtain ⟨rfl, hP, hK, hE⟩ := hv
  have hx := B.exec
  have hb := B.bytes
  have hr := B.returns
  have hts := atoms_spec (ws := (.code my_K_partOfFraction mb_K_partOfFraction 9 (some .long) :: gw_l)) B.pre
  have hg : ∀ w ∈ gw_l, w.before _ s = true := fun w h => hts w (List.mem_cons_of_mem _ h)
  have hown : s.vm.findClass mR_K = some m.cls := findClass_of_methodNamed B.named
  have hlocks := B.notSynchronized
  have hl := lv_entry ([.long num, .long den, .int part]) (n := 9) (Nat.le_of_ble_eq_true rfl)
  rw [lg_entry_eq]
  generalize (lg_sl ([.long num, .long den, .int part]) ++ List.replicate (9 - (lg_sl ([.long num, .long den, .int part])).length) Slot.unset).toArray = ls at hl ⊢
  have hl : lv_has ls 9 [(0, .long num), (2, .long den), (4, .int part)] := hl
  refine lv_lload_n hx hb md_K_partOfFraction_0 rfl (lv_at hl 0 rfl) ?_
  refine lv_lload_n hx hb md_K_partOfFraction_1 rfl (lv_at hl 1 rfl) ?_
  have hPc1 := hP.sub (ws' := []) [] rfl
  refine pu_l (W.runS (As := [.long num, .long den]) (rest := []) ⟨hx, hb, hml, hown, hg⟩ (ct_K_commonDivisor l dC dI cC cI cJ num den) (gw_cwS hg wd_390 mv_K_commonDivisor rfl rfl ⟨Nat.le_of_ble_eq_true rfl, Nat.le_of_ble_eq_true rfl⟩) (pu_preS pu_blT hK hPc1 pu_e1) rfl rfl hl.1 rfl (lv_room (Nat.le_of_ble_eq_true rfl)) md_K_partOfFraction_2 ⟨Nat.zero_le _, Nat.zero_le _⟩) ?_
  refine lv_lstore (lv' := [(5, .long (fK_commonDivisor num den)), (0, .long num), (2, .long den), (4, .int part)]) hx hb md_K_partOfFraction_5 hl (by decide) rfl (fun ls hl => ?_)
  refine lv_iload hx hb md_K_partOfFraction_7 (lv_at hl 3 rfl) ?_
  refine lv_if_ne (tgt := 16) hx hb md_K_partOfFraction_9 (by decide) (fun c2 => ?_) (fun c2 => ?_)
  · refine lv_lload_n hx hb md_K_partOfFraction_16 rfl (lv_at hl 2 rfl) ?_
    refine lv_lstore (lv' := [(7, .long den), (5, .long (fK_commonDivisor num den)), (0, .long num), (2, .long den), (4, .int part)]) hx hb md_K_partOfFraction_17 hl (by decide) rfl (fun ls hl => ?_)
    refine lv_lload hx hb md_K_partOfFraction_19 (lv_at hl 1 rfl) ?_
    refine lv_lconst (v := 1) hx hb md_K_partOfFraction_21 (by decide) ?_
    refine lx_le (tgt := 34) hx hb md_K_partOfFraction_22 md_K_partOfFraction_23 (by decide) (fun c3 => ?_) (fun c3 => ?_)
    · refine lv_lload hx hb md_K_partOfFraction_34 (lv_at hl 0 rfl) ?_
      exact pu_lret hx hb hr hlocks md_K_partOfFraction_36 (by rw [fK_partOfFraction, if_neg c2, if_pos c3])
    · refine lv_lload hx hb md_K_partOfFraction_26 (lv_at hl 0 rfl) ?_
      refine lv_lload hx hb md_K_partOfFraction_28 (lv_at hl 1 rfl) ?_
      refine lv_ldiv hx hb md_K_partOfFraction_30 (fun h => c3 (by rw [h]; decide)) ?_
      refine lv_goto (tgt := 36) hx hb md_K_partOfFraction_31 (by decide) ?_
      exact pu_lret hx hb hr hlocks md_K_partOfFraction_36 (by rw [fK_partOfFraction, if_neg c2, if_neg c3])
  · refine lv_lload_n hx hb md_K_partOfFraction_12 rfl (lv_at hl 1 rfl) ?_
    refine lv_goto (tgt := 17) hx hb md_K_partOfFraction_13 (by decide) ?_
    refine lv_lstore (lv' := [(7, .long num), (5, .long (fK_commonDivisor num den)), (0, .long num), (2, .long den), (4, .int part)]) hx hb md_K_partOfFraction_17 hl (by decide) rfl (fun ls hl => ?_)
    refine lv_lload hx hb md_K_partOfFraction_19 (lv_at hl 1 rfl) ?_
    refine lv_lconst (v := 1) hx hb md_K_partOfFraction_21 (by decide) ?_
    refine lx_le (tgt := 34) hx hb md_K_partOfFraction_22 md_K_partOfFraction_23 (by decide) (fun c4 => ?_) (fun c4 => ?_)
    · refine lv_lload hx hb md_K_partOfFraction_34 (lv_at hl 0 rfl) ?_
      exact pu_lret hx hb hr hlocks md_K_partOfFraction_36 (by rw [fK_partOfFraction, if_pos c2, if_pos c4])
    · refine lv_lload hx hb md_K_partOfFraction_26 (lv_at hl 0 rfl) ?_
      refine lv_lload hx hb md_K_partOfFraction_28 (lv_at hl 1 rfl) ?_
      refine lv_ldiv hx hb md_K_partOfFraction_30 (fun h => c4 (by rw [h]; decide)) ?_
      refine lv_goto (tgt := 36) hx hb md_K_partOfFraction_31 (by decide) ?_
      exact pu_lret hx hb hr hlocks md_K_partOfFraction_36 (by rw [fK_partOfFraction, if_pos c2, if_neg c4])
