theorem lr_pos {x y : Int64} (hx : ¬ x < 0) (hy : ¬ y < 0) (h0 : ¬ y = 0) : ¬ (x - x / y * y) < 0 ∧ (x - x / y * y).toInt.toNat < y.toInt.toNat := by
  obtain ⟨a, ha, rfl⟩ := pk_lOf hx
  obtain ⟨b, hb, rfl⟩ := pk_lOf hy
  have hb0 : 0 < b := by
    rcases Nat.eq_zero_or_pos b with h | h
    · subst h; exact absurd rfl h0
    · exact h
  rw [pk_lRem ha hb0 hb]
  have hlt := Nat.mod_lt a hb0
  refine ⟨?_, ?_⟩
  · show ¬ lN (a % b) < lN 0
    rw [pk_lLT (by omega) (by omega)]; omega
  · rw [pk_lT (by omega), pk_lT hb]
    omega
theorem kd_1 {kk : Int32} {j : Nat} (hj : kk = nI j - 1) (h : ¬ kk < 0) : 1 ≤ j ∧ kk = nI (j - 1) := by
  rcases Nat.eq_zero_or_pos j with h0 | h0
  · subst h0; rw [hj] at h; exact absurd (by decide) h
  · refine ⟨h0, ?_⟩
    obtain ⟨i, rfl⟩ : ∃ i, j = i + 1 := ⟨j - 1, by omega⟩
    rw [hj, nI_pred]; rfl
theorem kd_2 {kk : Int32} {j : Nat} (hj : kk = nI j - 1) (h : ¬ kk < 0) : kk + (-1) = nI (j - 1) - 1 := by
  rw [(kd_1 hj h).2]
  exact (Int32.sub_eq_add_neg _ _).symm
theorem kd_8 {kk : Int32} {j vr : Nat} (hz : vr ≤ 16) (hjv : j ≤ vr) (hj : kk = nI j - 1) (h : ¬ kk < 0) : m8 kk := by
  obtain ⟨h1, h2⟩ := kd_1 hj h
  rw [h2]; exact m8_n (by omega)
theorem mb_8 {best : Int32} (h : best < 0 ∨ ∃ j, j < 16 ∧ best = nI j) (c : ¬ best < 0) : m8 best := by
  rcases h with h | ⟨j, hj, rfl⟩
  · exact absurd h c
  · exact m8_n hj
theorem kb_1 {kk : Int32} {j vr : Nat} (hz : vr ≤ 16) (hjv : j ≤ vr) (hj : kk = nI j - 1) (h : ¬ kk < 0) : kk < 0 ∨ ∃ j, j < 16 ∧ kk = nI j := Or.inr ⟨j - 1, by have := (kd_1 hj h).1; omega, (kd_1 hj h).2⟩
theorem i64_lt {a b : Int64} : (a < b) ↔ a.toInt < b.toInt := Int64.lt_iff_toInt_lt
theorem r32_in {high : Int64} (h : ¬ fM_isIn high 1 100000 = 0) : ∃ n : Nat, 1 ≤ n ∧ n ≤ 100000 ∧ high = lN n := by
  unfold fM_isIn at h
  split at h
  · exact absurd rfl h
  · rename_i h1
    split at h
    · exact absurd rfl h
    · rename_i h2
      have h3 : ¬ high < 0 := fun q => h1 (by rw [i64_lt] at q ⊢; have : (0 : Int64).toInt = 0 := rfl; have : (1 : Int64).toInt = 1 := rfl; omega)
      obtain ⟨n, hn, rfl⟩ := pk_lOf h3
      refine ⟨n, ?_, ?_, rfl⟩
      · rcases Nat.eq_zero_or_pos n with q | q
        · subst q; exact absurd (by decide) h1
        · exact q
      · rcases Nat.lt_or_ge 100000 n with q | q
        · exact absurd ((pk_lLT (a := 100000) (b := n) (by omega) hn).mpr q) h2
        · exact q
theorem r32_b {high : Int64} {n : Nat} (h : ¬ fM_isIn high 1 100000 = 0) (hn : n ≤ 4000) (c : ¬ (high - 37) < (37 + 32 * Int32.toInt64 (nI n))) : n < 4000 := by
  obtain ⟨k, h1, h2, rfl⟩ := r32_in h
  rw [nI_l (by omega)] at c
  have e : (37 : Int64) + 32 * lN n = lN (37 + 32 * n) := by
    rw [show (32 : Int64) * lN n = lN (32 * n) from lN_mul 32 n, show (37 : Int64) + lN (32 * n) = lN (37 + 32 * n) from lN_add 37 (32 * n)]
  rw [e] at c
  rcases Nat.lt_or_ge k 37 with q | q
  · exfalso
    apply c
    rw [i64_lt, Int64.toInt_sub, pk_lT (by omega), pk_lT (by omega), show (37 : Int64).toInt = 37 from rfl, Int.bmod_eq_of_le (by omega) (by omega)]
    omega
  · have e2 : (lN k - 37 : Int64) = lN (k - 37) := lN_sub q
    rw [e2, pk_lLT (by omega) (by omega)] at c
    omega

def gM_common (a : Int64) (b : Int64) : Nat → Int64 → Int64 → Int64
  | 0, _, _ => 0
  | n + 1, x, y => if y = 0 then x else (gM_common a b n y (x - x / y * y))
def fM_common (a : Int64) (b : Int64) : Int64 := gM_common a b (b.toInt.toNat + 1) a b
set_option maxHeartbeats 1000000 in
set_option maxRecDepth 100000 in
theorem ct_M_common (l : Launch) (dC : Nat → ClassId) (dI : Nat → Nat → Nat) (cC cI cJ : ClassId)  (a : Int64) (b : Int64)  (ha : ¬ a < 0) (hb9 : ¬ b < 0) : Met l my_M_common (.code my_M_common mb_M_common 10 (some .long) :: gw_l) ({ frames := 0, cells := 0, slots := 0, locals := 0 }) (pu_Pc (dC, dI) mC [(cC, .char), (cI, .int), (cJ, .long)] [] (fun _ => True) [.long a, .long b]) (vp_Sl (fun r => r = fM_common a b)) 0 0 (fun _ => False) := by
  refine Met.ofW (cc := mb_M_common) (maxL := 10) (ret := (some .long)) (by decide) rfl ?_
  intro p e s m args below meth c s₁ B hml hv
  obtain ⟨rfl, hP, hK, hE⟩ := hv
  have hx := B.exec
  have hb := B.bytes
  have hr := B.returns
  have hts := atoms_spec (ws := (.code my_M_common mb_M_common 10 (some .long) :: gw_l)) B.pre
  have hg : ∀ w ∈ gw_l, w.before _ s = true := fun w h => hts w (List.mem_cons_of_mem _ h)
  have hown : s.vm.findClass mR_M = some m.cls := findClass_of_methodNamed B.named
  have hlocks := B.notSynchronized
  have hl := lv_entry ([.long a, .long b]) (n := 10) (Nat.le_of_ble_eq_true rfl)
  rw [lg_entry_eq]
  generalize (lg_sl ([.long a, .long b]) ++ List.replicate (10 - (lg_sl ([.long a, .long b])).length) Slot.unset).toArray = ls at hl ⊢
  have hl : lv_has ls 10 [(0, .long a), (2, .long b)] := hl
  have loop : ∀ (n : Nat) (x : Int64) (y : Int64) (ls : Array Slot), (¬ x < 0) → (¬ y < 0) → y.toInt.toNat < n → fM_common a b = gM_common a b n x y → lv_has ls 10 [(0, .long a), (2, .long b), (4, .long x), (6, .long y)] → W p l e (headSpec (.code my_M_common mb_M_common 10 (some .long) :: gw_l) ({ frames := 0, cells := 0, slots := 0, locals := 0 })).room s m ([.long a, .long b] : List Value).toArray below meth c s.heap [] 0 0 (MQ below (vp_Sl (fun r => r = fM_common a b)) ([.long a, .long b] : List Value).toArray s 0 0 (fun _ => False)) (F0 m 6 ls []) := by
    intro n
    induction n with
    | zero =>
      intro x y ls h1 h2 hm
      exact absurd hm (Nat.not_lt_zero _)
    | succ n ih =>
      intro x y ls h1 h2 hm hv hl
      refine lv_lload hx hb md_M_common_6 (lv_at hl 3 rfl) ?_
      refine lv_lconst (v := 0) hx hb md_M_common_8 (by decide) ?_
      refine lx_eq (tgt := 31) hx hb md_M_common_9 md_M_common_10 (by decide) (fun c1 => ?_) (fun c1 => ?_)
      · refine lv_lload hx hb md_M_common_31 (lv_at hl 2 rfl) ?_
        exact pu_lret hx hb hr hlocks md_M_common_33 (by rw [hv, gM_common, if_pos c1])
      · refine lv_lload hx hb md_M_common_13 (lv_at hl 2 rfl) ?_
        refine lv_lload hx hb md_M_common_15 (lv_at hl 3 rfl) ?_
        refine lv_lrem hx hb md_M_common_17 c1 ?_
        refine lv_lstore (lv' := [(8, .long (x - x / y * y)), (0, .long a), (2, .long b), (4, .long x), (6, .long y)]) hx hb md_M_common_18 hl (by decide) rfl (fun ls hl => ?_)
        refine lv_lload hx hb md_M_common_20 (lv_at hl 4 rfl) ?_
        refine lv_lstore (lv' := [(4, .long y), (8, .long (x - x / y * y)), (0, .long a), (2, .long b), (6, .long y)]) hx hb md_M_common_22 hl (by decide) rfl (fun ls hl => ?_)
        refine lv_lload hx hb md_M_common_24 (lv_at hl 1 rfl) ?_
        refine lv_lstore (lv' := [(6, .long (x - x / y * y)), (4, .long y), (8, .long (x - x / y * y)), (0, .long a), (2, .long b)]) hx hb md_M_common_26 hl (by decide) rfl (fun ls hl => ?_)
        refine lv_goto (tgt := 6) hx hb md_M_common_28 (by decide) ?_
        exact ih y (x - x / y * y) ls h2 (lr_pos h1 h2 c1).1 (by have := (lr_pos h1 h2 c1).2; omega) (by rw [hv, gM_common, if_neg c1]) (lv_sub hl [3, 4, 1, 0] rfl)
  refine lv_lload_n hx hb md_M_common_0 rfl (lv_at hl 0 rfl) ?_
  refine lv_lstore (lv' := [(4, .long a), (0, .long a), (2, .long b)]) hx hb md_M_common_1 hl (by decide) rfl (fun ls hl => ?_)
  refine lv_lload_n hx hb md_M_common_3 rfl (lv_at hl 2 rfl) ?_
  refine lv_lstore (lv' := [(6, .long b), (4, .long a), (0, .long a), (2, .long b)]) hx hb md_M_common_4 hl (by decide) rfl (fun ls hl => ?_)
  exact loop (b.toInt.toNat + 1) a b ls ha hb9 (Nat.lt_succ_self _) (by rw [fM_common]) (lv_sub hl [2, 3, 1, 0] rfl)

def gM_hinges (gO : Nat → Int32) (vr : Nat) (vw : Int64) (vh : Int64) (vt : Int64) (vd : Int64) : Nat → Int32 → Int32 → Nat → Int32
  | 0, _, _, _ => 0
  | n + 1, found, kk, j => if kk < 0 then found else (if (gO (Int32.toNatClampNeg (8 * kk))) = 99 then (if (fM_number gO kk 0) < vh then (gM_hinges gO vr vw vh vt vd n found (kk + (-1)) (j - 1)) else (if (((fM_number gO kk 1) * 1000) * 1000000) < (fM_grams vw vh vt vd) then (gM_hinges gO vr vw vh vt vd n found (kk + (-1)) (j - 1)) else (gM_hinges gO vr vw vh vt vd n (Int64.toInt32 (fM_number gO kk 2)) (kk + (-1)) (j - 1)))) else (gM_hinges gO vr vw vh vt vd n found (kk + (-1)) (j - 1)))
def fM_hinges (gO : Nat → Int32) (vr : Nat) (vw : Int64) (vh : Int64) (vt : Int64) (vd : Int64) : Int32 := gM_hinges gO vr vw vh vt vd (vr + 1) (-1) ((nI vr) - 1) vr
set_option maxHeartbeats 1000000 in
set_option maxRecDepth 100000 in
theorem ct_M_hinges (l : Launch) (dC : Nat → ClassId) (dI : Nat → Nat → Nat) (cC cI cJ : ClassId) (nA : Nat) (nT : Nat) (nO : Nat) (nU : Nat) (nV : Nat) (nX : Nat) (nY : Nat) (nR : Nat) (nC : Nat) (nS : Nat) (gT : Nat → Int32) (gO : Nat → Int32) (gU : Nat → Int32) (gV : Nat → Int32) (gX : Nat → Int64) (gY : Nat → Int64) (gR : Nat → Int64) (gC : Nat → Int32) (gS : Nat → Int32) (vc : Int32) (vs : Int32) (va : Int32) (vf : Int32) (vr : Nat) (vw : Int64) (vh : Int64) (vt : Int64) (vd : Int64)   (hz : vr ≤ 16) : Met l my_M_hinges (.code my_M_hinges mb_M_hinges 4 (some .int) :: gw_l) ({ frames := 1, cells := 0, slots := 0, locals := 22 }) (pu_Pc (dC, dI) mC [(cC, .char), (cI, .int), (cJ, .long)] [(nA, .inr (5, [.int vc, .ref nT, .int vs, .int va, .int vf, .int (nI vr), .ref nO, .ref nU, .ref nV, .long vw, .long vh, .long vt, .long vd, .ref nX, .ref nY, .ref nR, .ref nC, .ref nS])), (nT, .inl (cI, 300, .inl gT)), (nO, .inl (cI, 128, .inl gO)), (nU, .inl (cI, 128, .inl gU)), (nV, .inl (cI, 16, .inl gV)), (nX, .inl (cJ, 16, .inr (.inl gX))), (nY, .inl (cJ, 16, .inr (.inl gY))), (nR, .inl (cJ, 16, .inr (.inl gR))), (nC, .inl (cI, 9, .inl gC)), (nS, .inl (cI, 9, .inl gS))] (fun _ => True) [.ref nA]) (vp_Si (fun r => r = fM_hinges gO vr vw vh vt vd)) 0 0 (fun _ => False) := by
  refine Met.ofW (cc := mb_M_hinges) (maxL := 4) (ret := (some .int)) (by decide) rfl ?_
  intro p e s m args below meth c s₁ B hml hv
  obtain ⟨rfl, hP, hK, hE⟩ := hv
  have hx := B.exec
  have hb := B.bytes
  have hr := B.returns
  have hts := atoms_spec (ws := (.code my_M_hinges mb_M_hinges 4 (some .int) :: gw_l)) B.pre
  have hg : ∀ w ∈ gw_l, w.before _ s = true := fun w h => hts w (List.mem_cons_of_mem _ h)
  have hown : s.vm.findClass mR_M = some m.cls := findClass_of_methodNamed B.named
  have hlocks := B.notSynchronized
  have hl := lv_entry ([.ref nA]) (n := 4) (Nat.le_of_ble_eq_true rfl)
  rw [lg_entry_eq]
  generalize (lg_sl ([.ref nA]) ++ List.replicate (4 - (lg_sl ([.ref nA])).length) Slot.unset).toArray = ls at hl ⊢
  have hl : lv_has ls 4 [(0, .ref nA)] := hl
  have loop : ∀ (n : Nat) (found : Int32) (kk : Int32) (j : Nat) (ls : Array Slot), (j ≤ vr) → (kk = nI j - 1) → j < n → fM_hinges gO vr vw vh vt vd = gM_hinges gO vr vw vh vt vd n found kk j → lv_has ls 4 [(0, .ref nA), (1, .int found), (2, .int kk)] → W p l e (headSpec (.code my_M_hinges mb_M_hinges 4 (some .int) :: gw_l) ({ frames := 1, cells := 0, slots := 0, locals := 22 })).room s m ([.ref nA] : List Value).toArray below meth c s.heap [] 0 0 (MQ below (vp_Si (fun r => r = fM_hinges gO vr vw vh vt vd)) ([.ref nA] : List Value).toArray s 0 0 (fun _ => False)) (F0 m 9 ls []) := by
    intro n
    induction n with
    | zero =>
      intro found kk j ls h1 hj hm
      exact absurd hm (Nat.not_lt_zero _)
    | succ n ih =>
      intro found kk j ls h1 hj hm hv hl
      refine lv_iload_n hx hb md_M_hinges_9 rfl (lv_at hl 2 rfl) ?_
      refine lv_if_lt (tgt := 91) hx hb md_M_hinges_10 (by decide) (fun c1 => ?_) (fun c1 => ?_)
      · refine lv_iload_n hx hb md_M_hinges_91 rfl (lv_at hl 1 rfl) ?_
        exact pu_iret hx hb hr hlocks md_M_hinges_92 (by rw [hv, gM_hinges, if_pos c1])
      · have h8 := kd_8 hz h1 hj c1
        have hj1 := (kd_1 hj c1).1
        refine lv_aload_n hx hb md_M_hinges_13 rfl (lv_at hl 0 rfl) ?_
        refine va_get (D := (dC, dI)) (ci := 5) (v := .ref nO) (C := mR_M) (T := mT_M) (N := 18) hx hb hg gu_M hown hK hP 0 rfl rfl 6 (by decide) (hg _ wd_538) (fun _ h9 => h9) rfl md_M_hinges_14 ?_
        refine lv_bipush (v := 8) hx hb md_M_hinges_17 (by decide) ?_
        refine lv_iload_n hx hb md_M_hinges_19 rfl (lv_at hl 2 rfl) ?_
        refine lv_imul hx hb md_M_hinges_20 ?_
        refine va_iald hx hb hK hP 2 1 rfl rfl h8.2.1 md_M_hinges_21 ?_
        refine lv_bipush (v := 99) hx hb md_M_hinges_22 (by decide) ?_
        refine lv_icmp_ne (tgt := 67) hx hb md_M_hinges_24 (by decide) (fun c2 => ?_) (fun c2 => ?_)
        · refine lv_iconst (v := 0) hx hb md_M_hinges_67 (by decide) ?_
          refine lv_istore_n (lv' := [(3, .int 0), (0, .ref nA), (1, .int found), (2, .int kk)]) hx hb md_M_hinges_68 rfl hl (by decide) rfl (fun ls hl => ?_)
          refine lv_iload_n hx hb md_M_hinges_69 rfl (lv_at hl 0 rfl) ?_
          refine lv_if_eq (tgt := 83) hx hb md_M_hinges_70 (by decide) (fun _ => ?_) (fun c3 => absurd (by decide) c3)
          refine lv_iload_n hx hb md_M_hinges_83 rfl (lv_at hl 2 rfl) ?_
          refine lv_istore_n (lv' := [(1, .int found), (3, .int 0), (0, .ref nA), (2, .int kk)]) hx hb md_M_hinges_84 rfl hl (by decide) rfl (fun ls hl => ?_)
          refine lv_iinc (v := kk + (-1)) (lv' := [(2, .int (kk + (-1))), (1, .int found), (3, .int 0), (0, .ref nA)]) hx hb md_M_hinges_85 hl (k := 3) rfl rfl (by decide) rfl (fun ls hl => ?_)
          refine lv_goto (tgt := 9) hx hb md_M_hinges_88 (by decide) ?_
          exact ih found (kk + (-1)) (j - 1) ls (by omega) (kd_2 hj c1) (by omega) (by rw [hv, gM_hinges, if_neg c1, if_neg c2]) (lv_sub hl [3, 1, 0] rfl)
        · refine lv_aload_n hx hb md_M_hinges_27 rfl (lv_at hl 0 rfl) ?_
          refine lv_iload_n hx hb md_M_hinges_28 rfl (lv_at hl 2 rfl) ?_
          refine lv_iconst (v := 0) hx hb md_M_hinges_29 (by decide) ?_
          have hPc4 := hP.sub (ws' := [(nA, .inr (5, [.int vc, .ref nT, .int vs, .int va, .int vf, .int (nI vr), .ref nO, .ref nU, .ref nV, .long vw, .long vh, .long vt, .long vd, .ref nX, .ref nY, .ref nR, .ref nC, .ref nS])), (nT, .inl (cI, 300, .inl gT)), (nO, .inl (cI, 128, .inl gO)), (nU, .inl (cI, 128, .inl gU)), (nV, .inl (cI, 16, .inl gV)), (nX, .inl (cJ, 16, .inr (.inl gX))), (nY, .inl (cJ, 16, .inr (.inl gY))), (nR, .inl (cJ, 16, .inr (.inl gR))), (nC, .inl (cI, 9, .inl gC)), (nS, .inl (cI, 9, .inl gS))]) [0, 1, 2, 3, 4, 5, 6, 7, 8, 9] rfl
          refine pu_l (W.runV (As := [.int kk, .int 0]) (rest := []) ⟨hx, hb, hml, hown, hg⟩ (ct_M_number l dC dI cC cI cJ nA nT nO nU nV nX nY nR nC nS gT gO gU gV gX gY gR gC gS vc vs va vf (nI vr) vw vh vt vd kk 0 (h8.2.2.2.1 _ 0 (by decide) (by decide))) (gw_cwV hg wd_640 mv_M_number rfl rfl ⟨Nat.le_of_ble_eq_true rfl, Nat.le_of_ble_eq_true rfl⟩) (pu_preV (ci := 5) (q0 := 0) pu_blT hK hPc4 pu_e1 rfl rfl) rfl rfl hl.1 rfl (lv_room (Nat.le_of_ble_eq_true rfl)) md_M_hinges_30 ⟨Nat.zero_le _, Nat.zero_le _⟩) ?_
          refine lv_aload_n hx hb md_M_hinges_33 rfl (lv_at hl 0 rfl) ?_
          refine va_get (D := (dC, dI)) (ci := 5) (v := .long vh) (C := mR_M) (T := mT_M) (N := 18) hx hb hg gu_M hown hK hP 0 rfl rfl 10 (by decide) (hg _ wd_542) (fun _ h9 => h9) rfl md_M_hinges_34 ?_
          refine lx_lt (tgt := 67) hx hb md_M_hinges_37 md_M_hinges_38 (by decide) (fun c5 => ?_) (fun c5 => ?_)
          · refine lv_iconst (v := 0) hx hb md_M_hinges_67 (by decide) ?_
            refine lv_istore_n (lv' := [(3, .int 0), (0, .ref nA), (1, .int found), (2, .int kk)]) hx hb md_M_hinges_68 rfl hl (by decide) rfl (fun ls hl => ?_)
            refine lv_iload_n hx hb md_M_hinges_69 rfl (lv_at hl 0 rfl) ?_
            refine lv_if_eq (tgt := 83) hx hb md_M_hinges_70 (by decide) (fun _ => ?_) (fun c6 => absurd (by decide) c6)
            refine lv_iload_n hx hb md_M_hinges_83 rfl (lv_at hl 2 rfl) ?_
            refine lv_istore_n (lv' := [(1, .int found), (3, .int 0), (0, .ref nA), (2, .int kk)]) hx hb md_M_hinges_84 rfl hl (by decide) rfl (fun ls hl => ?_)
            refine lv_iinc (v := kk + (-1)) (lv' := [(2, .int (kk + (-1))), (1, .int found), (3, .int 0), (0, .ref nA)]) hx hb md_M_hinges_85 hl (k := 3) rfl rfl (by decide) rfl (fun ls hl => ?_)
            refine lv_goto (tgt := 9) hx hb md_M_hinges_88 (by decide) ?_
            exact ih found (kk + (-1)) (j - 1) ls (by omega) (kd_2 hj c1) (by omega) (by rw [hv, gM_hinges, if_neg c1, if_pos c2, if_pos c5]) (lv_sub hl [3, 1, 0] rfl)
          · refine lv_aload_n hx hb md_M_hinges_41 rfl (lv_at hl 0 rfl) ?_
            refine lv_iload_n hx hb md_M_hinges_42 rfl (lv_at hl 2 rfl) ?_
            refine lv_iconst (v := 1) hx hb md_M_hinges_43 (by decide) ?_
            have hPc7 := hP.sub (ws' := [(nA, .inr (5, [.int vc, .ref nT, .int vs, .int va, .int vf, .int (nI vr), .ref nO, .ref nU, .ref nV, .long vw, .long vh, .long vt, .long vd, .ref nX, .ref nY, .ref nR, .ref nC, .ref nS])), (nT, .inl (cI, 300, .inl gT)), (nO, .inl (cI, 128, .inl gO)), (nU, .inl (cI, 128, .inl gU)), (nV, .inl (cI, 16, .inl gV)), (nX, .inl (cJ, 16, .inr (.inl gX))), (nY, .inl (cJ, 16, .inr (.inl gY))), (nR, .inl (cJ, 16, .inr (.inl gR))), (nC, .inl (cI, 9, .inl gC)), (nS, .inl (cI, 9, .inl gS))]) [0, 1, 2, 3, 4, 5, 6, 7, 8, 9] rfl
            refine pu_l (W.runV (As := [.int kk, .int 1]) (rest := []) ⟨hx, hb, hml, hown, hg⟩ (ct_M_number l dC dI cC cI cJ nA nT nO nU nV nX nY nR nC nS gT gO gU gV gX gY gR gC gS vc vs va vf (nI vr) vw vh vt vd kk 1 (h8.2.2.2.1 _ 1 (by decide) (by decide))) (gw_cwV hg wd_640 mv_M_number rfl rfl ⟨Nat.le_of_ble_eq_true rfl, Nat.le_of_ble_eq_true rfl⟩) (pu_preV (ci := 5) (q0 := 0) pu_blT hK hPc7 pu_e1 rfl rfl) rfl rfl hl.1 rfl (lv_room (Nat.le_of_ble_eq_true rfl)) md_M_hinges_44 ⟨Nat.zero_le _, Nat.zero_le _⟩) ?_
            refine lv_ldc2 hx hb hown (hg _ wd_635) md_M_hinges_47 ?_
            refine lv_lmul hx hb md_M_hinges_50 ?_
            refine lv_ldc2 hx hb hown (hg _ wd_676) md_M_hinges_51 ?_
            refine lv_lmul hx hb md_M_hinges_54 ?_
            refine lv_aload_n hx hb md_M_hinges_55 rfl (lv_at hl 0 rfl) ?_
            have hPc8 := hP.sub (ws' := [(nA, .inr (5, [.int vc, .ref nT, .int vs, .int va, .int vf, .int (nI vr), .ref nO, .ref nU, .ref nV, .long vw, .long vh, .long vt, .long vd, .ref nX, .ref nY, .ref nR, .ref nC, .ref nS])), (nT, .inl (cI, 300, .inl gT)), (nO, .inl (cI, 128, .inl gO)), (nU, .inl (cI, 128, .inl gU)), (nV, .inl (cI, 16, .inl gV)), (nX, .inl (cJ, 16, .inr (.inl gX))), (nY, .inl (cJ, 16, .inr (.inl gY))), (nR, .inl (cJ, 16, .inr (.inl gR))), (nC, .inl (cI, 9, .inl gC)), (nS, .inl (cI, 9, .inl gS))]) [0, 1, 2, 3, 4, 5, 6, 7, 8, 9] rfl
            refine pu_l (W.runV (As := []) (rest := [.long (((fM_number gO kk 1) * 1000) * 1000000)]) ⟨hx, hb, hml, hown, hg⟩ (ct_M_grams l dC dI cC cI cJ nA nT nO nU nV nX nY nR nC nS gT gO gU gV gX gY gR gC gS vc vs va vf (nI vr) vw vh vt vd) (gw_cwV hg wd_672 mv_M_grams rfl rfl ⟨Nat.le_of_ble_eq_true rfl, Nat.le_of_ble_eq_true rfl⟩) (pu_preV (ci := 5) (q0 := 0) pu_blT hK hPc8 pu_e1 rfl rfl) rfl rfl hl.1 rfl (lv_room (Nat.le_of_ble_eq_true rfl)) md_M_hinges_56 ⟨Nat.zero_le _, Nat.zero_le _⟩) ?_
            refine lx_lt (tgt := 67) hx hb md_M_hinges_59 md_M_hinges_60 (by decide) (fun c9 => ?_) (fun c9 => ?_)
            · refine lv_iconst (v := 0) hx hb md_M_hinges_67 (by decide) ?_
              refine lv_istore_n (lv' := [(3, .int 0), (0, .ref nA), (1, .int found), (2, .int kk)]) hx hb md_M_hinges_68 rfl hl (by decide) rfl (fun ls hl => ?_)
              refine lv_iload_n hx hb md_M_hinges_69 rfl (lv_at hl 0 rfl) ?_
              refine lv_if_eq (tgt := 83) hx hb md_M_hinges_70 (by decide) (fun _ => ?_) (fun c10 => absurd (by decide) c10)
              refine lv_iload_n hx hb md_M_hinges_83 rfl (lv_at hl 2 rfl) ?_
              refine lv_istore_n (lv' := [(1, .int found), (3, .int 0), (0, .ref nA), (2, .int kk)]) hx hb md_M_hinges_84 rfl hl (by decide) rfl (fun ls hl => ?_)
              refine lv_iinc (v := kk + (-1)) (lv' := [(2, .int (kk + (-1))), (1, .int found), (3, .int 0), (0, .ref nA)]) hx hb md_M_hinges_85 hl (k := 3) rfl rfl (by decide) rfl (fun ls hl => ?_)
              refine lv_goto (tgt := 9) hx hb md_M_hinges_88 (by decide) ?_
              exact ih found (kk + (-1)) (j - 1) ls (by omega) (kd_2 hj c1) (by omega) (by rw [hv, gM_hinges, if_neg c1, if_pos c2, if_neg c5, if_pos c9]) (lv_sub hl [3, 1, 0] rfl)
            · refine lv_iconst (v := 1) hx hb md_M_hinges_63 (by decide) ?_
              refine lv_goto (tgt := 68) hx hb md_M_hinges_64 (by decide) ?_
              refine lv_istore_n (lv' := [(3, .int 1), (0, .ref nA), (1, .int found), (2, .int kk)]) hx hb md_M_hinges_68 rfl hl (by decide) rfl (fun ls hl => ?_)
              refine lv_iload_n hx hb md_M_hinges_69 rfl (lv_at hl 0 rfl) ?_
              refine lv_if_eq (tgt := 83) hx hb md_M_hinges_70 (by decide) (fun c11 => absurd c11 (by decide)) (fun _ => ?_)
              refine lv_aload_n hx hb md_M_hinges_73 rfl (lv_at hl 1 rfl) ?_
              refine lv_iload_n hx hb md_M_hinges_74 rfl (lv_at hl 3 rfl) ?_
              refine lv_iconst (v := 2) hx hb md_M_hinges_75 (by decide) ?_
              have hPc12 := hP.sub (ws' := [(nA, .inr (5, [.int vc, .ref nT, .int vs, .int va, .int vf, .int (nI vr), .ref nO, .ref nU, .ref nV, .long vw, .long vh, .long vt, .long vd, .ref nX, .ref nY, .ref nR, .ref nC, .ref nS])), (nT, .inl (cI, 300, .inl gT)), (nO, .inl (cI, 128, .inl gO)), (nU, .inl (cI, 128, .inl gU)), (nV, .inl (cI, 16, .inl gV)), (nX, .inl (cJ, 16, .inr (.inl gX))), (nY, .inl (cJ, 16, .inr (.inl gY))), (nR, .inl (cJ, 16, .inr (.inl gR))), (nC, .inl (cI, 9, .inl gC)), (nS, .inl (cI, 9, .inl gS))]) [0, 1, 2, 3, 4, 5, 6, 7, 8, 9] rfl
              refine pu_l (W.runV (As := [.int kk, .int 2]) (rest := []) ⟨hx, hb, hml, hown, hg⟩ (ct_M_number l dC dI cC cI cJ nA nT nO nU nV nX nY nR nC nS gT gO gU gV gX gY gR gC gS vc vs va vf (nI vr) vw vh vt vd kk 2 (h8.2.2.2.1 _ 2 (by decide) (by decide))) (gw_cwV hg wd_640 mv_M_number rfl rfl ⟨Nat.le_of_ble_eq_true rfl, Nat.le_of_ble_eq_true rfl⟩) (pu_preV (ci := 5) (q0 := 0) pu_blT hK hPc12 pu_e1 rfl rfl) rfl rfl hl.1 rfl (lv_room (Nat.le_of_ble_eq_true rfl)) md_M_hinges_76 ⟨Nat.zero_le _, Nat.zero_le _⟩) ?_
              refine lv_l2i (v := Int64.toInt32 (fM_number gO kk 2)) hx hb md_M_hinges_79 rfl ?_
              refine lv_goto (tgt := 84) hx hb md_M_hinges_80 (by decide) ?_
              refine lv_istore_n (lv' := [(1, .int (Int64.toInt32 (fM_number gO kk 2))), (3, .int 1), (0, .ref nA), (2, .int kk)]) hx hb md_M_hinges_84 rfl hl (by decide) rfl (fun ls hl => ?_)
              refine lv_iinc (v := kk + (-1)) (lv' := [(2, .int (kk + (-1))), (1, .int (Int64.toInt32 (fM_number gO kk 2))), (3, .int 1), (0, .ref nA)]) hx hb md_M_hinges_85 hl (k := 3) rfl rfl (by decide) rfl (fun ls hl => ?_)
              refine lv_goto (tgt := 9) hx hb md_M_hinges_88 (by decide) ?_
              exact ih (Int64.toInt32 (fM_number gO kk 2)) (kk + (-1)) (j - 1) ls (by omega) (kd_2 hj c1) (by omega) (by rw [hv, gM_hinges, if_neg c1, if_pos c2, if_neg c5, if_neg c9]) (lv_sub hl [3, 1, 0] rfl)
  refine lv_iconst (v := (-1)) hx hb md_M_hinges_0 (by decide) ?_
  refine lv_istore_n (lv' := [(1, .int (-1)), (0, .ref nA)]) hx hb md_M_hinges_1 rfl hl (by decide) rfl (fun ls hl => ?_)
  refine lv_aload_n hx hb md_M_hinges_2 rfl (lv_at hl 1 rfl) ?_
  refine va_get (D := (dC, dI)) (ci := 5) (v := .int (nI vr)) (C := mR_M) (T := mT_M) (N := 18) hx hb hg gu_M hown hK hP 0 rfl rfl 5 (by decide) (hg _ wd_537) (fun _ h9 => h9) rfl md_M_hinges_3 ?_
  refine lv_iconst (v := 1) hx hb md_M_hinges_6 (by decide) ?_
  refine lv_isub hx hb md_M_hinges_7 ?_
  refine lv_istore_n (lv' := [(2, .int ((nI vr) - 1)), (1, .int (-1)), (0, .ref nA)]) hx hb md_M_hinges_8 rfl hl (by decide) rfl (fun ls hl => ?_)
  exact loop (vr + 1) (-1) ((nI vr) - 1) vr ls (Nat.le_refl _) rfl (Nat.lt_succ_self _) (by rw [fM_hinges]) (lv_sub hl [2, 1, 0] rfl)

def gM_hinge (gO : Nat → Int32) (gV : Nat → Int32) (vr : Nat) (overlay : Int64) (thick : Int64) (angle : Int32) : Nat → Int32 → Int32 → Int32 → Nat → Int32 × Int32
  | 0, _, _, _, _ => (0, 0)
  | n + 1, cv, found, kk, j => if kk < 0 then (if cv ≤ 0 then (found, cv) else (0, cv)) else (if cv = 0 then (if (fM_isIn overlay (fM_number gO kk 0) (fM_number gO kk 1)) = 0 then (gM_hinge gO gV vr overlay thick angle n cv found (kk + (-1)) (j - 1)) else (if (fM_isIn thick (fM_number gO kk 2) (fM_number gO kk 3)) = 0 then (gM_hinge gO gV vr overlay thick angle n cv found (kk + (-1)) (j - 1)) else (if (fM_number gO kk 4) < (Int32.toInt64 angle) then (gM_hinge gO gV vr overlay thick angle n cv found (kk + (-1)) (j - 1)) else (if (fM_isThere gO gV kk 104) = 0 then (gM_hinge gO gV vr overlay thick angle n cv found (kk + (-1)) (j - 1)) else (gM_hinge gO gV vr overlay thick angle n cv kk (kk + (-1)) (j - 1)))))) else (if cv ≤ 0 then (found, cv) else (0, cv)))
def fM_hinge (gO : Nat → Int32) (gV : Nat → Int32) (vr : Nat) (overlay : Int64) (thick : Int64) (angle : Int32) : Int32 × Int32 := if (nI vr) = 0 then (gM_hinge gO gV vr overlay thick angle (vr + 1) 1 (-1) ((nI vr) - 1) vr) else (gM_hinge gO gV vr overlay thick angle (vr + 1) 0 (-1) ((nI vr) - 1) vr)
set_option maxHeartbeats 1000000 in
set_option maxRecDepth 100000 in
theorem ct_M_hinge (l : Launch) (dC : Nat → ClassId) (dI : Nat → Nat → Nat) (cC cI cJ : ClassId) (nA : Nat) (nT : Nat) (nO : Nat) (nU : Nat) (nV : Nat) (nX : Nat) (nY : Nat) (nR : Nat) (nC : Nat) (nS : Nat) (gT : Nat → Int32) (gO : Nat → Int32) (gU : Nat → Int32) (gV : Nat → Int32) (gX : Nat → Int64) (gY : Nat → Int64) (gR : Nat → Int64) (gC : Nat → Int32) (gS : Nat → Int32) (vc : Int32) (vs : Int32) (va : Int32) (vf : Int32) (vr : Nat) (vw : Int64) (vh : Int64) (vt : Int64) (vd : Int64) (overlay : Int64) (thick : Int64) (angle : Int32)  (hz : vr ≤ 16) : Met l my_M_hinge (.code my_M_hinge mb_M_hinge 9 (some .int) :: gw_l) ({ frames := 1, cells := 0, slots := 0, locals := 25 }) (mu_Pc (dC, dI) mC [(cC, .char), (cI, .int), (cJ, .long)] [(nA, .inr (5, [.int vc, .ref nT, .int vs, .int va, .int vf, .int (nI vr), .ref nO, .ref nU, .ref nV, .long vw, .long vh, .long vt, .long vd, .ref nX, .ref nY, .ref nR, .ref nC, .ref nS])), (nT, .inl (cI, 300, .inl gT)), (nO, .inl (cI, 128, .inl gO)), (nU, .inl (cI, 128, .inl gU)), (nV, .inl (cI, 16, .inl gV)), (nX, .inl (cJ, 16, .inr (.inl gX))), (nY, .inl (cJ, 16, .inr (.inl gY))), (nR, .inl (cJ, 16, .inr (.inl gR))), (nC, .inl (cI, 9, .inl gC)), (nS, .inl (cI, 9, .inl gS))] (fun _ => True) [.ref nA, .long overlay, .long thick, .int angle]) (va_Qi (fun (r : Int32) (u : Int32) => (r, u) = fM_hinge gO gV vr overlay thick angle) (fun u t => va_P (dC, dI) mC [(nA, .inr (5, [.int u, .ref nT, .int vs, .int va, .int vf, .int (nI vr), .ref nO, .ref nU, .ref nV, .long vw, .long vh, .long vt, .long vd, .ref nX, .ref nY, .ref nR, .ref nC, .ref nS])), (nT, .inl (cI, 300, .inl gT)), (nO, .inl (cI, 128, .inl gO)), (nU, .inl (cI, 128, .inl gU)), (nV, .inl (cI, 16, .inl gV)), (nX, .inl (cJ, 16, .inr (.inl gX))), (nY, .inl (cJ, 16, .inr (.inl gY))), (nR, .inl (cJ, 16, .inr (.inl gR))), (nC, .inl (cI, 9, .inl gC)), (nS, .inl (cI, 9, .inl gS))] t.heap) (mu_A [(nA, .inr (5, [.int vc, .ref nT, .int vs, .int va, .int vf, .int (nI vr), .ref nO, .ref nU, .ref nV, .long vw, .long vh, .long vt, .long vd, .ref nX, .ref nY, .ref nR, .ref nC, .ref nS])), (nT, .inl (cI, 300, .inl gT)), (nO, .inl (cI, 128, .inl gO)), (nU, .inl (cI, 128, .inl gU)), (nV, .inl (cI, 16, .inl gV)), (nX, .inl (cJ, 16, .inr (.inl gX))), (nY, .inl (cJ, 16, .inr (.inl gY))), (nR, .inl (cJ, 16, .inr (.inl gR))), (nC, .inl (cI, 9, .inl gC)), (nS, .inl (cI, 9, .inl gS))])) 0 0 (mu_A [(nA, .inr (5, [.int vc, .ref nT, .int vs, .int va, .int vf, .int (nI vr), .ref nO, .ref nU, .ref nV, .long vw, .long vh, .long vt, .long vd, .ref nX, .ref nY, .ref nR, .ref nC, .ref nS])), (nT, .inl (cI, 300, .inl gT)), (nO, .inl (cI, 128, .inl gO)), (nU, .inl (cI, 128, .inl gU)), (nV, .inl (cI, 16, .inl gV)), (nX, .inl (cJ, 16, .inr (.inl gX))), (nY, .inl (cJ, 16, .inr (.inl gY))), (nR, .inl (cJ, 16, .inr (.inl gR))), (nC, .inl (cI, 9, .inl gC)), (nS, .inl (cI, 9, .inl gS))]) := by
  refine Met.ofW (cc := mb_M_hinge) (maxL := 9) (ret := (some .int)) (by decide) rfl ?_
  intro p e s m args below meth c s₁ B hml hv
  obtain ⟨rfl, hP, hK, hD0, hE⟩ := hv
  have hx := B.exec
  have hb := B.bytes
  have hr := B.returns
  have hts := atoms_spec (ws := (.code my_M_hinge mb_M_hinge 9 (some .int) :: gw_l)) B.pre
  have hg : ∀ w ∈ gw_l, w.before _ s = true := fun w h => hts w (List.mem_cons_of_mem _ h)
  have hown : s.vm.findClass mR_M = some m.cls := findClass_of_methodNamed B.named
  have hlocks := B.notSynchronized
  have hD := mu_self hD0
  have hS : va_S (mu_A [(nA, .inr (5, [.int vc, .ref nT, .int vs, .int va, .int vf, .int (nI vr), .ref nO, .ref nU, .ref nV, .long vw, .long vh, .long vt, .long vd, .ref nX, .ref nY, .ref nR, .ref nC, .ref nS])), (nT, .inl (cI, 300, .inl gT)), (nO, .inl (cI, 128, .inl gO)), (nU, .inl (cI, 128, .inl gU)), (nV, .inl (cI, 16, .inl gV)), (nX, .inl (cJ, 16, .inr (.inl gX))), (nY, .inl (cJ, 16, .inr (.inl gY))), (nR, .inl (cJ, 16, .inr (.inl gR))), (nC, .inl (cI, 9, .inl gC)), (nS, .inl (cI, 9, .inl gS))]) s.heap s.heap [] := va_S.rf
  generalize hAe : mu_A [(nA, .inr (5, [.int vc, .ref nT, .int vs, .int va, .int vf, .int (nI vr), .ref nO, .ref nU, .ref nV, .long vw, .long vh, .long vt, .long vd, .ref nX, .ref nY, .ref nR, .ref nC, .ref nS])), (nT, .inl (cI, 300, .inl gT)), (nO, .inl (cI, 128, .inl gO)), (nU, .inl (cI, 128, .inl gU)), (nV, .inl (cI, 16, .inl gV)), (nX, .inl (cJ, 16, .inr (.inl gX))), (nY, .inl (cJ, 16, .inr (.inl gY))), (nR, .inl (cJ, 16, .inr (.inl gR))), (nC, .inl (cI, 9, .inl gC)), (nS, .inl (cI, 9, .inl gS))] = A at hD hS ⊢
  have hl := lv_entry ([.ref nA, .long overlay, .long thick, .int angle]) (n := 9) (Nat.le_of_ble_eq_true rfl)
  rw [lg_entry_eq]
  generalize (lg_sl ([.ref nA, .long overlay, .long thick, .int angle]) ++ List.replicate (9 - (lg_sl ([.ref nA, .long overlay, .long thick, .int angle])).length) Slot.unset).toArray = ls at hl ⊢
  have hl : lv_has ls 9 [(0, .ref nA), (1, .long overlay), (3, .long thick), (5, .int angle)] := hl
  have loop : ∀ (n : Nat) (cv : Int32) (found : Int32) (kk : Int32) (j : Nat) (H : Heap) (locs : List Loc) (ls : Array Slot), (j ≤ vr) → (kk = nI j - 1) → j < n → fM_hinge gO gV vr overlay thick angle = gM_hinge gO gV vr overlay thick angle n cv found kk j → va_P (dC, dI) mC [(nA, .inr (5, [.int cv, .ref nT, .int vs, .int va, .int vf, .int (nI vr), .ref nO, .ref nU, .ref nV, .long vw, .long vh, .long vt, .long vd, .ref nX, .ref nY, .ref nR, .ref nC, .ref nS])), (nT, .inl (cI, 300, .inl gT)), (nO, .inl (cI, 128, .inl gO)), (nU, .inl (cI, 128, .inl gU)), (nV, .inl (cI, 16, .inl gV)), (nX, .inl (cJ, 16, .inr (.inl gX))), (nY, .inl (cJ, 16, .inr (.inl gY))), (nR, .inl (cJ, 16, .inr (.inl gR))), (nC, .inl (cI, 9, .inl gC)), (nS, .inl (cI, 9, .inl gS))] H → va_D A [(nA, .inr (5, [.int cv, .ref nT, .int vs, .int va, .int vf, .int (nI vr), .ref nO, .ref nU, .ref nV, .long vw, .long vh, .long vt, .long vd, .ref nX, .ref nY, .ref nR, .ref nC, .ref nS])), (nT, .inl (cI, 300, .inl gT)), (nO, .inl (cI, 128, .inl gO)), (nU, .inl (cI, 128, .inl gU)), (nV, .inl (cI, 16, .inl gV)), (nX, .inl (cJ, 16, .inr (.inl gX))), (nY, .inl (cJ, 16, .inr (.inl gY))), (nR, .inl (cJ, 16, .inr (.inl gR))), (nC, .inl (cI, 9, .inl gC)), (nS, .inl (cI, 9, .inl gS))] → va_S A s.heap H locs → lv_has ls 9 [(0, .ref nA), (1, .long overlay), (3, .long thick), (5, .int angle), (6, .int found), (7, .int kk)] → W p l e (headSpec (.code my_M_hinge mb_M_hinge 9 (some .int) :: gw_l) ({ frames := 1, cells := 0, slots := 0, locals := 25 })).room s m ([.ref nA, .long overlay, .long thick, .int angle] : List Value).toArray below meth c H locs 0 0 (MQ below (va_Qi (fun (r : Int32) (u : Int32) => (r, u) = fM_hinge gO gV vr overlay thick angle) (fun u t => va_P (dC, dI) mC [(nA, .inr (5, [.int u, .ref nT, .int vs, .int va, .int vf, .int (nI vr), .ref nO, .ref nU, .ref nV, .long vw, .long vh, .long vt, .long vd, .ref nX, .ref nY, .ref nR, .ref nC, .ref nS])), (nT, .inl (cI, 300, .inl gT)), (nO, .inl (cI, 128, .inl gO)), (nU, .inl (cI, 128, .inl gU)), (nV, .inl (cI, 16, .inl gV)), (nX, .inl (cJ, 16, .inr (.inl gX))), (nY, .inl (cJ, 16, .inr (.inl gY))), (nR, .inl (cJ, 16, .inr (.inl gR))), (nC, .inl (cI, 9, .inl gC)), (nS, .inl (cI, 9, .inl gS))] t.heap) A) ([.ref nA, .long overlay, .long thick, .int angle] : List Value).toArray s 0 0 A) (F0 m 27 ls []) := by
    intro n
    induction n with
    | zero =>
      intro cv found kk j H locs ls h1 hj hm
      exact absurd hm (Nat.not_lt_zero _)
    | succ n ih =>
      intro cv found kk j H locs ls h1 hj hm hv hP hD hS hl
      refine lv_iload hx hb md_M_hinge_27 (lv_at hl 5 rfl) ?_
      refine lv_if_lt (tgt := 133) hx hb md_M_hinge_29 (by decide) (fun c2 => ?_) (fun c2 => ?_)
      · refine lv_aload_n hx hb md_M_hinge_133 rfl (lv_at hl 0 rfl) ?_
        refine va_get (D := (dC, dI)) (ci := 5) (v := .int cv) (C := mR_M) (T := mT_M) (N := 18) hx hb hg gu_M hown hK hP 0 rfl rfl 0 (by decide) (hg _ wd_532) (fun _ h9 => h9) rfl md_M_hinge_134 ?_
        refine lv_if_le (tgt := 144) hx hb md_M_hinge_137 (by decide) (fun c3 => ?_) (fun c3 => ?_)
        · refine lv_iload hx hb md_M_hinge_144 (lv_at hl 4 rfl) ?_
          exact W.iret (v := found) hx hb hr (fun t ht hW => ⟨⟨found, (cv), rfl, (by rw [hv, gM_hinge, if_pos c2, if_pos c3]), by have h9 := hP; rw [← ht] at h9; exact h9⟩, hS.F ht⟩) hS.2.2 md_M_hinge_146 hlocks
        · refine lv_iconst (v := 0) hx hb md_M_hinge_140 (by decide) ?_
          refine lv_goto (tgt := 146) hx hb md_M_hinge_141 (by decide) ?_
          exact W.iret (v := 0) hx hb hr (fun t ht hW => ⟨⟨0, (cv), rfl, (by rw [hv, gM_hinge, if_pos c2, if_neg c3]), by have h9 := hP; rw [← ht] at h9; exact h9⟩, hS.F ht⟩) hS.2.2 md_M_hinge_146 hlocks
      · refine lv_aload_n hx hb md_M_hinge_32 rfl (lv_at hl 0 rfl) ?_
        refine va_get (D := (dC, dI)) (ci := 5) (v := .int cv) (C := mR_M) (T := mT_M) (N := 18) hx hb hg gu_M hown hK hP 0 rfl rfl 0 (by decide) (hg _ wd_532) (fun _ h9 => h9) rfl md_M_hinge_33 ?_
        refine lv_if_ne (tgt := 133) hx hb md_M_hinge_36 (by decide) (fun c4 => ?_) (fun c4 => ?_)
        · refine lv_aload_n hx hb md_M_hinge_133 rfl (lv_at hl 0 rfl) ?_
          refine va_get (D := (dC, dI)) (ci := 5) (v := .int cv) (C := mR_M) (T := mT_M) (N := 18) hx hb hg gu_M hown hK hP 0 rfl rfl 0 (by decide) (hg _ wd_532) (fun _ h9 => h9) rfl md_M_hinge_134 ?_
          refine lv_if_le (tgt := 144) hx hb md_M_hinge_137 (by decide) (fun c5 => ?_) (fun c5 => ?_)
          · refine lv_iload hx hb md_M_hinge_144 (lv_at hl 4 rfl) ?_
            exact W.iret (v := found) hx hb hr (fun t ht hW => ⟨⟨found, (cv), rfl, (by rw [hv, gM_hinge, if_neg c2, if_neg c4, if_pos c5]), by have h9 := hP; rw [← ht] at h9; exact h9⟩, hS.F ht⟩) hS.2.2 md_M_hinge_146 hlocks
          · refine lv_iconst (v := 0) hx hb md_M_hinge_140 (by decide) ?_
            refine lv_goto (tgt := 146) hx hb md_M_hinge_141 (by decide) ?_
            exact W.iret (v := 0) hx hb hr (fun t ht hW => ⟨⟨0, (cv), rfl, (by rw [hv, gM_hinge, if_neg c2, if_neg c4, if_neg c5]), by have h9 := hP; rw [← ht] at h9; exact h9⟩, hS.F ht⟩) hS.2.2 md_M_hinge_146 hlocks
        · have h8 := kd_8 hz h1 hj c2
          have hj1 := (kd_1 hj c2).1
          refine lv_lload_n hx hb md_M_hinge_39 rfl (lv_at hl 1 rfl) ?_
          refine lv_aload_n hx hb md_M_hinge_40 rfl (lv_at hl 0 rfl) ?_
          refine lv_iload hx hb md_M_hinge_41 (lv_at hl 5 rfl) ?_
          refine lv_iconst (v := 0) hx hb md_M_hinge_43 (by decide) ?_
          have hPc6 := hP.sub (ws' := [(nA, .inr (5, [.int cv, .ref nT, .int vs, .int va, .int vf, .int (nI vr), .ref nO, .ref nU, .ref nV, .long vw, .long vh, .long vt, .long vd, .ref nX, .ref nY, .ref nR, .ref nC, .ref nS])), (nT, .inl (cI, 300, .inl gT)), (nO, .inl (cI, 128, .inl gO)), (nU, .inl (cI, 128, .inl gU)), (nV, .inl (cI, 16, .inl gV)), (nX, .inl (cJ, 16, .inr (.inl gX))), (nY, .inl (cJ, 16, .inr (.inl gY))), (nR, .inl (cJ, 16, .inr (.inl gR))), (nC, .inl (cI, 9, .inl gC)), (nS, .inl (cI, 9, .inl gS))]) [0, 1, 2, 3, 4, 5, 6, 7, 8, 9] rfl
          refine pu_l (W.runV (As := [.int kk, .int 0]) (rest := [.long overlay]) ⟨hx, hb, hml, hown, hg⟩ (ct_M_number l dC dI cC cI cJ nA nT nO nU nV nX nY nR nC nS gT gO gU gV gX gY gR gC gS cv vs va vf (nI vr) vw vh vt vd kk 0 (h8.2.2.2.1 _ 0 (by decide) (by decide))) (gw_cwV hg wd_640 mv_M_number rfl rfl ⟨Nat.le_of_ble_eq_true rfl, Nat.le_of_ble_eq_true rfl⟩) (pu_preV (ci := 5) (q0 := 0) pu_blT hK hPc6 pu_e1 rfl rfl) rfl rfl hl.1 rfl (lv_room (Nat.le_of_ble_eq_true rfl)) md_M_hinge_44 ⟨Nat.zero_le _, Nat.zero_le _⟩) ?_
          refine lv_aload_n hx hb md_M_hinge_47 rfl (lv_at hl 0 rfl) ?_
          refine lv_iload hx hb md_M_hinge_48 (lv_at hl 5 rfl) ?_
          refine lv_iconst (v := 1) hx hb md_M_hinge_50 (by decide) ?_
          have hPc7 := hP.sub (ws' := [(nA, .inr (5, [.int cv, .ref nT, .int vs, .int va, .int vf, .int (nI vr), .ref nO, .ref nU, .ref nV, .long vw, .long vh, .long vt, .long vd, .ref nX, .ref nY, .ref nR, .ref nC, .ref nS])), (nT, .inl (cI, 300, .inl gT)), (nO, .inl (cI, 128, .inl gO)), (nU, .inl (cI, 128, .inl gU)), (nV, .inl (cI, 16, .inl gV)), (nX, .inl (cJ, 16, .inr (.inl gX))), (nY, .inl (cJ, 16, .inr (.inl gY))), (nR, .inl (cJ, 16, .inr (.inl gR))), (nC, .inl (cI, 9, .inl gC)), (nS, .inl (cI, 9, .inl gS))]) [0, 1, 2, 3, 4, 5, 6, 7, 8, 9] rfl
          refine pu_l (W.runV (As := [.int kk, .int 1]) (rest := [.long (fM_number gO kk 0), .long overlay]) ⟨hx, hb, hml, hown, hg⟩ (ct_M_number l dC dI cC cI cJ nA nT nO nU nV nX nY nR nC nS gT gO gU gV gX gY gR gC gS cv vs va vf (nI vr) vw vh vt vd kk 1 (h8.2.2.2.1 _ 1 (by decide) (by decide))) (gw_cwV hg wd_640 mv_M_number rfl rfl ⟨Nat.le_of_ble_eq_true rfl, Nat.le_of_ble_eq_true rfl⟩) (pu_preV (ci := 5) (q0 := 0) pu_blT hK hPc7 pu_e1 rfl rfl) rfl rfl hl.1 rfl (lv_room (Nat.le_of_ble_eq_true rfl)) md_M_hinge_51 ⟨Nat.zero_le _, Nat.zero_le _⟩) ?_
          have hPc8 := hP.sub (ws' := []) [] rfl
          refine pu_i (W.runS (As := [.long overlay, .long (fM_number gO kk 0), .long (fM_number gO kk 1)]) (rest := []) ⟨hx, hb, hml, hown, hg⟩ (ct_M_isIn l dC dI cC cI cJ overlay (fM_number gO kk 0) (fM_number gO kk 1)) (gw_cwS hg wd_620 mv_M_isIn rfl rfl ⟨Nat.le_of_ble_eq_true rfl, Nat.le_of_ble_eq_true rfl⟩) (pu_preS pu_blT hK hPc8 pu_e1) rfl rfl hl.1 rfl (lv_room (Nat.le_of_ble_eq_true rfl)) md_M_hinge_54 ⟨Nat.zero_le _, Nat.zero_le _⟩) ?_
          refine lv_if_eq (tgt := 99) hx hb md_M_hinge_57 (by decide) (fun c9 => ?_) (fun c9 => ?_)
          · refine lv_iconst (v := 0) hx hb md_M_hinge_99 (by decide) ?_
            refine lv_istore (lv' := [(8, .int 0), (0, .ref nA), (1, .long overlay), (3, .long thick), (5, .int angle), (6, .int found), (7, .int kk)]) hx hb md_M_hinge_100 hl (by decide) rfl (fun ls hl => ?_)
            refine lv_iload hx hb md_M_hinge_102 (lv_at hl 0 rfl) ?_
            refine lv_if_eq (tgt := 123) hx hb md_M_hinge_104 (by decide) (fun _ => ?_) (fun c10 => absurd (by decide) c10)
            refine lv_iload hx hb md_M_hinge_123 (lv_at hl 5 rfl) ?_
            refine lv_istore (lv' := [(6, .int found), (8, .int 0), (0, .ref nA), (1, .long overlay), (3, .long thick), (5, .int angle), (7, .int kk)]) hx hb md_M_hinge_125 hl (by decide) rfl (fun ls hl => ?_)
            refine lv_iinc (v := kk + (-1)) (lv' := [(7, .int (kk + (-1))), (6, .int found), (8, .int 0), (0, .ref nA), (1, .long overlay), (3, .long thick), (5, .int angle)]) hx hb md_M_hinge_127 hl (k := 6) rfl rfl (by decide) rfl (fun ls hl => ?_)
            refine lv_goto (tgt := 27) hx hb md_M_hinge_130 (by decide) ?_
            exact ih cv found (kk + (-1)) (j - 1) _ _ ls (by omega) (kd_2 hj c2) (by omega) (by rw [hv, gM_hinge, if_neg c2, if_pos c4, if_pos c9]) hP hD hS (lv_sub hl [3, 4, 5, 6, 1, 0] rfl)
          · refine lv_lload_n hx hb md_M_hinge_60 rfl (lv_at hl 2 rfl) ?_
            refine lv_aload_n hx hb md_M_hinge_61 rfl (lv_at hl 0 rfl) ?_
            refine lv_iload hx hb md_M_hinge_62 (lv_at hl 5 rfl) ?_
            refine lv_iconst (v := 2) hx hb md_M_hinge_64 (by decide) ?_
            have hPc11 := hP.sub (ws' := [(nA, .inr (5, [.int cv, .ref nT, .int vs, .int va, .int vf, .int (nI vr), .ref nO, .ref nU, .ref nV, .long vw, .long vh, .long vt, .long vd, .ref nX, .ref nY, .ref nR, .ref nC, .ref nS])), (nT, .inl (cI, 300, .inl gT)), (nO, .inl (cI, 128, .inl gO)), (nU, .inl (cI, 128, .inl gU)), (nV, .inl (cI, 16, .inl gV)), (nX, .inl (cJ, 16, .inr (.inl gX))), (nY, .inl (cJ, 16, .inr (.inl gY))), (nR, .inl (cJ, 16, .inr (.inl gR))), (nC, .inl (cI, 9, .inl gC)), (nS, .inl (cI, 9, .inl gS))]) [0, 1, 2, 3, 4, 5, 6, 7, 8, 9] rfl
            refine pu_l (W.runV (As := [.int kk, .int 2]) (rest := [.long thick]) ⟨hx, hb, hml, hown, hg⟩ (ct_M_number l dC dI cC cI cJ nA nT nO nU nV nX nY nR nC nS gT gO gU gV gX gY gR gC gS cv vs va vf (nI vr) vw vh vt vd kk 2 (h8.2.2.2.1 _ 2 (by decide) (by decide))) (gw_cwV hg wd_640 mv_M_number rfl rfl ⟨Nat.le_of_ble_eq_true rfl, Nat.le_of_ble_eq_true rfl⟩) (pu_preV (ci := 5) (q0 := 0) pu_blT hK hPc11 pu_e1 rfl rfl) rfl rfl hl.1 rfl (lv_room (Nat.le_of_ble_eq_true rfl)) md_M_hinge_65 ⟨Nat.zero_le _, Nat.zero_le _⟩) ?_
            refine lv_aload_n hx hb md_M_hinge_68 rfl (lv_at hl 0 rfl) ?_
            refine lv_iload hx hb md_M_hinge_69 (lv_at hl 5 rfl) ?_
            refine lv_iconst (v := 3) hx hb md_M_hinge_71 (by decide) ?_
            have hPc12 := hP.sub (ws' := [(nA, .inr (5, [.int cv, .ref nT, .int vs, .int va, .int vf, .int (nI vr), .ref nO, .ref nU, .ref nV, .long vw, .long vh, .long vt, .long vd, .ref nX, .ref nY, .ref nR, .ref nC, .ref nS])), (nT, .inl (cI, 300, .inl gT)), (nO, .inl (cI, 128, .inl gO)), (nU, .inl (cI, 128, .inl gU)), (nV, .inl (cI, 16, .inl gV)), (nX, .inl (cJ, 16, .inr (.inl gX))), (nY, .inl (cJ, 16, .inr (.inl gY))), (nR, .inl (cJ, 16, .inr (.inl gR))), (nC, .inl (cI, 9, .inl gC)), (nS, .inl (cI, 9, .inl gS))]) [0, 1, 2, 3, 4, 5, 6, 7, 8, 9] rfl
            refine pu_l (W.runV (As := [.int kk, .int 3]) (rest := [.long (fM_number gO kk 2), .long thick]) ⟨hx, hb, hml, hown, hg⟩ (ct_M_number l dC dI cC cI cJ nA nT nO nU nV nX nY nR nC nS gT gO gU gV gX gY gR gC gS cv vs va vf (nI vr) vw vh vt vd kk 3 (h8.2.2.2.1 _ 3 (by decide) (by decide))) (gw_cwV hg wd_640 mv_M_number rfl rfl ⟨Nat.le_of_ble_eq_true rfl, Nat.le_of_ble_eq_true rfl⟩) (pu_preV (ci := 5) (q0 := 0) pu_blT hK hPc12 pu_e1 rfl rfl) rfl rfl hl.1 rfl (lv_room (Nat.le_of_ble_eq_true rfl)) md_M_hinge_72 ⟨Nat.zero_le _, Nat.zero_le _⟩) ?_
            have hPc13 := hP.sub (ws' := []) [] rfl
            refine pu_i (W.runS (As := [.long thick, .long (fM_number gO kk 2), .long (fM_number gO kk 3)]) (rest := []) ⟨hx, hb, hml, hown, hg⟩ (ct_M_isIn l dC dI cC cI cJ thick (fM_number gO kk 2) (fM_number gO kk 3)) (gw_cwS hg wd_620 mv_M_isIn rfl rfl ⟨Nat.le_of_ble_eq_true rfl, Nat.le_of_ble_eq_true rfl⟩) (pu_preS pu_blT hK hPc13 pu_e1) rfl rfl hl.1 rfl (lv_room (Nat.le_of_ble_eq_true rfl)) md_M_hinge_75 ⟨Nat.zero_le _, Nat.zero_le _⟩) ?_
            refine lv_if_eq (tgt := 99) hx hb md_M_hinge_78 (by decide) (fun c14 => ?_) (fun c14 => ?_)
            · refine lv_iconst (v := 0) hx hb md_M_hinge_99 (by decide) ?_
              refine lv_istore (lv' := [(8, .int 0), (0, .ref nA), (1, .long overlay), (3, .long thick), (5, .int angle), (6, .int found), (7, .int kk)]) hx hb md_M_hinge_100 hl (by decide) rfl (fun ls hl => ?_)
              refine lv_iload hx hb md_M_hinge_102 (lv_at hl 0 rfl) ?_
              refine lv_if_eq (tgt := 123) hx hb md_M_hinge_104 (by decide) (fun _ => ?_) (fun c15 => absurd (by decide) c15)
              refine lv_iload hx hb md_M_hinge_123 (lv_at hl 5 rfl) ?_
              refine lv_istore (lv' := [(6, .int found), (8, .int 0), (0, .ref nA), (1, .long overlay), (3, .long thick), (5, .int angle), (7, .int kk)]) hx hb md_M_hinge_125 hl (by decide) rfl (fun ls hl => ?_)
              refine lv_iinc (v := kk + (-1)) (lv' := [(7, .int (kk + (-1))), (6, .int found), (8, .int 0), (0, .ref nA), (1, .long overlay), (3, .long thick), (5, .int angle)]) hx hb md_M_hinge_127 hl (k := 6) rfl rfl (by decide) rfl (fun ls hl => ?_)
              refine lv_goto (tgt := 27) hx hb md_M_hinge_130 (by decide) ?_
              exact ih cv found (kk + (-1)) (j - 1) _ _ ls (by omega) (kd_2 hj c2) (by omega) (by rw [hv, gM_hinge, if_neg c2, if_pos c4, if_neg c9, if_pos c14]) hP hD hS (lv_sub hl [3, 4, 5, 6, 1, 0] rfl)
            · refine lv_aload_n hx hb md_M_hinge_81 rfl (lv_at hl 0 rfl) ?_
              refine lv_iload hx hb md_M_hinge_82 (lv_at hl 5 rfl) ?_
              refine lv_iconst (v := 4) hx hb md_M_hinge_84 (by decide) ?_
              have hPc16 := hP.sub (ws' := [(nA, .inr (5, [.int cv, .ref nT, .int vs, .int va, .int vf, .int (nI vr), .ref nO, .ref nU, .ref nV, .long vw, .long vh, .long vt, .long vd, .ref nX, .ref nY, .ref nR, .ref nC, .ref nS])), (nT, .inl (cI, 300, .inl gT)), (nO, .inl (cI, 128, .inl gO)), (nU, .inl (cI, 128, .inl gU)), (nV, .inl (cI, 16, .inl gV)), (nX, .inl (cJ, 16, .inr (.inl gX))), (nY, .inl (cJ, 16, .inr (.inl gY))), (nR, .inl (cJ, 16, .inr (.inl gR))), (nC, .inl (cI, 9, .inl gC)), (nS, .inl (cI, 9, .inl gS))]) [0, 1, 2, 3, 4, 5, 6, 7, 8, 9] rfl
              refine pu_l (W.runV (As := [.int kk, .int 4]) (rest := []) ⟨hx, hb, hml, hown, hg⟩ (ct_M_number l dC dI cC cI cJ nA nT nO nU nV nX nY nR nC nS gT gO gU gV gX gY gR gC gS cv vs va vf (nI vr) vw vh vt vd kk 4 (h8.2.2.2.1 _ 4 (by decide) (by decide))) (gw_cwV hg wd_640 mv_M_number rfl rfl ⟨Nat.le_of_ble_eq_true rfl, Nat.le_of_ble_eq_true rfl⟩) (pu_preV (ci := 5) (q0 := 0) pu_blT hK hPc16 pu_e1 rfl rfl) rfl rfl hl.1 rfl (lv_room (Nat.le_of_ble_eq_true rfl)) md_M_hinge_85 ⟨Nat.zero_le _, Nat.zero_le _⟩) ?_
              refine lv_iload hx hb md_M_hinge_88 (lv_at hl 3 rfl) ?_
              refine lv_i2l (v := Int32.toInt64 angle) hx hb md_M_hinge_90 rfl ?_
              refine lx_lt (tgt := 99) hx hb md_M_hinge_91 md_M_hinge_92 (by decide) (fun c17 => ?_) (fun c17 => ?_)
              · refine lv_iconst (v := 0) hx hb md_M_hinge_99 (by decide) ?_
                refine lv_istore (lv' := [(8, .int 0), (0, .ref nA), (1, .long overlay), (3, .long thick), (5, .int angle), (6, .int found), (7, .int kk)]) hx hb md_M_hinge_100 hl (by decide) rfl (fun ls hl => ?_)
                refine lv_iload hx hb md_M_hinge_102 (lv_at hl 0 rfl) ?_
                refine lv_if_eq (tgt := 123) hx hb md_M_hinge_104 (by decide) (fun _ => ?_) (fun c18 => absurd (by decide) c18)
                refine lv_iload hx hb md_M_hinge_123 (lv_at hl 5 rfl) ?_
                refine lv_istore (lv' := [(6, .int found), (8, .int 0), (0, .ref nA), (1, .long overlay), (3, .long thick), (5, .int angle), (7, .int kk)]) hx hb md_M_hinge_125 hl (by decide) rfl (fun ls hl => ?_)
                refine lv_iinc (v := kk + (-1)) (lv' := [(7, .int (kk + (-1))), (6, .int found), (8, .int 0), (0, .ref nA), (1, .long overlay), (3, .long thick), (5, .int angle)]) hx hb md_M_hinge_127 hl (k := 6) rfl rfl (by decide) rfl (fun ls hl => ?_)
                refine lv_goto (tgt := 27) hx hb md_M_hinge_130 (by decide) ?_
                exact ih cv found (kk + (-1)) (j - 1) _ _ ls (by omega) (kd_2 hj c2) (by omega) (by rw [hv, gM_hinge, if_neg c2, if_pos c4, if_neg c9, if_neg c14, if_pos c17]) hP hD hS (lv_sub hl [3, 4, 5, 6, 1, 0] rfl)
              · refine lv_iconst (v := 1) hx hb md_M_hinge_95 (by decide) ?_
                refine lv_goto (tgt := 100) hx hb md_M_hinge_96 (by decide) ?_
                refine lv_istore (lv' := [(8, .int 1), (0, .ref nA), (1, .long overlay), (3, .long thick), (5, .int angle), (6, .int found), (7, .int kk)]) hx hb md_M_hinge_100 hl (by decide) rfl (fun ls hl => ?_)
                refine lv_iload hx hb md_M_hinge_102 (lv_at hl 0 rfl) ?_
                refine lv_if_eq (tgt := 123) hx hb md_M_hinge_104 (by decide) (fun c19 => absurd c19 (by decide)) (fun _ => ?_)
                refine lv_aload_n hx hb md_M_hinge_107 rfl (lv_at hl 1 rfl) ?_
                refine lv_iload hx hb md_M_hinge_108 (lv_at hl 6 rfl) ?_
                refine lv_bipush (v := 104) hx hb md_M_hinge_110 (by decide) ?_
                have hPc20 := hP.sub (ws' := [(nA, .inr (5, [.int cv, .ref nT, .int vs, .int va, .int vf, .int (nI vr), .ref nO, .ref nU, .ref nV, .long vw, .long vh, .long vt, .long vd, .ref nX, .ref nY, .ref nR, .ref nC, .ref nS])), (nT, .inl (cI, 300, .inl gT)), (nO, .inl (cI, 128, .inl gO)), (nU, .inl (cI, 128, .inl gU)), (nV, .inl (cI, 16, .inl gV)), (nX, .inl (cJ, 16, .inr (.inl gX))), (nY, .inl (cJ, 16, .inr (.inl gY))), (nR, .inl (cJ, 16, .inr (.inl gR))), (nC, .inl (cI, 9, .inl gC)), (nS, .inl (cI, 9, .inl gS))]) [0, 1, 2, 3, 4, 5, 6, 7, 8, 9] rfl
                refine pu_i (W.runV (As := [.int kk, .int 104]) (rest := []) ⟨hx, hb, hml, hown, hg⟩ (ct_M_isThere l dC dI cC cI cJ nA nT nO nU nV nX nY nR nC nS gT gO gU gV gX gY gR gC gS cv vs va vf (nI vr) vw vh vt vd kk 104 h8.2.1 h8.1) (gw_cwV hg wd_644 mv_M_isThere rfl rfl ⟨Nat.le_of_ble_eq_true rfl, Nat.le_of_ble_eq_true rfl⟩) (pu_preV (ci := 5) (q0 := 0) pu_blT hK hPc20 pu_e1 rfl rfl) rfl rfl hl.1 rfl (lv_room (Nat.le_of_ble_eq_true rfl)) md_M_hinge_112 ⟨Nat.zero_le _, Nat.zero_le _⟩) ?_
                refine lv_if_eq (tgt := 123) hx hb md_M_hinge_115 (by decide) (fun c21 => ?_) (fun c21 => ?_)
                · refine lv_iload hx hb md_M_hinge_123 (lv_at hl 5 rfl) ?_
                  refine lv_istore (lv' := [(6, .int found), (8, .int 1), (0, .ref nA), (1, .long overlay), (3, .long thick), (5, .int angle), (7, .int kk)]) hx hb md_M_hinge_125 hl (by decide) rfl (fun ls hl => ?_)
                  refine lv_iinc (v := kk + (-1)) (lv' := [(7, .int (kk + (-1))), (6, .int found), (8, .int 1), (0, .ref nA), (1, .long overlay), (3, .long thick), (5, .int angle)]) hx hb md_M_hinge_127 hl (k := 6) rfl rfl (by decide) rfl (fun ls hl => ?_)
                  refine lv_goto (tgt := 27) hx hb md_M_hinge_130 (by decide) ?_
                  exact ih cv found (kk + (-1)) (j - 1) _ _ ls (by omega) (kd_2 hj c2) (by omega) (by rw [hv, gM_hinge, if_neg c2, if_pos c4, if_neg c9, if_neg c14, if_neg c17, if_pos c21]) hP hD hS (lv_sub hl [3, 4, 5, 6, 1, 0] rfl)
                · refine lv_iload hx hb md_M_hinge_118 (lv_at hl 6 rfl) ?_
                  refine lv_goto (tgt := 125) hx hb md_M_hinge_120 (by decide) ?_
                  refine lv_istore (lv' := [(6, .int kk), (8, .int 1), (0, .ref nA), (1, .long overlay), (3, .long thick), (5, .int angle), (7, .int kk)]) hx hb md_M_hinge_125 hl (by decide) rfl (fun ls hl => ?_)
                  refine lv_iinc (v := kk + (-1)) (lv' := [(7, .int (kk + (-1))), (6, .int kk), (8, .int 1), (0, .ref nA), (1, .long overlay), (3, .long thick), (5, .int angle)]) hx hb md_M_hinge_127 hl (k := 6) rfl rfl (by decide) rfl (fun ls hl => ?_)
                  refine lv_goto (tgt := 27) hx hb md_M_hinge_130 (by decide) ?_
                  exact ih cv kk (kk + (-1)) (j - 1) _ _ ls (by omega) (kd_2 hj c2) (by omega) (by rw [hv, gM_hinge, if_neg c2, if_pos c4, if_neg c9, if_neg c14, if_neg c17, if_neg c21]) hP hD hS (lv_sub hl [3, 4, 5, 6, 1, 0] rfl)
  refine lv_aload_n hx hb md_M_hinge_0 rfl (lv_at hl 0 rfl) ?_
  refine lv_aload_n hx hb md_M_hinge_1 rfl (lv_at hl 0 rfl) ?_
  refine va_get (D := (dC, dI)) (ci := 5) (v := .int (nI vr)) (C := mR_M) (T := mT_M) (N := 18) hx hb hg gu_M hown hK hP 0 rfl rfl 5 (by decide) (hg _ wd_537) (fun _ h9 => h9) rfl md_M_hinge_2 ?_
  refine lv_if_ne (tgt := 12) hx hb md_M_hinge_5 (by decide) (fun c1 => ?_) (fun c1 => ?_)
  · refine lv_iconst (v := 0) hx hb md_M_hinge_12 (by decide) ?_
    refine va_put (D := (dC, dI)) (ci := 5) (v := .int 0) (ty := .int) (C := mR_M) (T := mT_M) (N := 18) hx hb hg gu_M mF_M mO_M mN_M hown hK hP hD hS 0 rfl rfl 0 (by decide) (hg _ wd_532) (fun _ h9 => h9) rfl (by decide +kernel) rfl rfl (Nat.le_of_ble_eq_true rfl) md_M_hinge_13 (fun H locs hP hD hS => ?_)
    have hP : va_P (dC, dI) mC [(nA, .inr (5, [.int 0, .ref nT, .int vs, .int va, .int vf, .int (nI vr), .ref nO, .ref nU, .ref nV, .long vw, .long vh, .long vt, .long vd, .ref nX, .ref nY, .ref nR, .ref nC, .ref nS])), (nT, .inl (cI, 300, .inl gT)), (nO, .inl (cI, 128, .inl gO)), (nU, .inl (cI, 128, .inl gU)), (nV, .inl (cI, 16, .inl gV)), (nX, .inl (cJ, 16, .inr (.inl gX))), (nY, .inl (cJ, 16, .inr (.inl gY))), (nR, .inl (cJ, 16, .inr (.inl gR))), (nC, .inl (cI, 9, .inl gC)), (nS, .inl (cI, 9, .inl gS))] H := hP
    have hD : va_D A [(nA, .inr (5, [.int 0, .ref nT, .int vs, .int va, .int vf, .int (nI vr), .ref nO, .ref nU, .ref nV, .long vw, .long vh, .long vt, .long vd, .ref nX, .ref nY, .ref nR, .ref nC, .ref nS])), (nT, .inl (cI, 300, .inl gT)), (nO, .inl (cI, 128, .inl gO)), (nU, .inl (cI, 128, .inl gU)), (nV, .inl (cI, 16, .inl gV)), (nX, .inl (cJ, 16, .inr (.inl gX))), (nY, .inl (cJ, 16, .inr (.inl gY))), (nR, .inl (cJ, 16, .inr (.inl gR))), (nC, .inl (cI, 9, .inl gC)), (nS, .inl (cI, 9, .inl gS))] := hD
    refine lv_iconst (v := (-1)) hx hb md_M_hinge_16 (by decide) ?_
    refine lv_istore (lv' := [(6, .int (-1)), (0, .ref nA), (1, .long overlay), (3, .long thick), (5, .int angle)]) hx hb md_M_hinge_17 hl (by decide) rfl (fun ls hl => ?_)
    refine lv_aload_n hx hb md_M_hinge_19 rfl (lv_at hl 1 rfl) ?_
    refine va_get (D := (dC, dI)) (ci := 5) (v := .int (nI vr)) (C := mR_M) (T := mT_M) (N := 18) hx hb hg gu_M hown hK hP 0 rfl rfl 5 (by decide) (hg _ wd_537) (fun _ h9 => h9) rfl md_M_hinge_20 ?_
    refine lv_iconst (v := 1) hx hb md_M_hinge_23 (by decide) ?_
    refine lv_isub hx hb md_M_hinge_24 ?_
    refine lv_istore (lv' := [(7, .int ((nI vr) - 1)), (6, .int (-1)), (0, .ref nA), (1, .long overlay), (3, .long thick), (5, .int angle)]) hx hb md_M_hinge_25 hl (by decide) rfl (fun ls hl => ?_)
    exact loop (vr + 1) 0 (-1) ((nI vr) - 1) vr _ _ ls (Nat.le_refl _) rfl (Nat.lt_succ_self _) (by rw [fM_hinge, if_neg c1]) hP hD hS (lv_sub hl [2, 3, 4, 5, 1, 0] rfl)
  · refine lv_iconst (v := 1) hx hb md_M_hinge_8 (by decide) ?_
    refine lv_goto (tgt := 13) hx hb md_M_hinge_9 (by decide) ?_
    refine va_put (D := (dC, dI)) (ci := 5) (v := .int 1) (ty := .int) (C := mR_M) (T := mT_M) (N := 18) hx hb hg gu_M mF_M mO_M mN_M hown hK hP hD hS 0 rfl rfl 0 (by decide) (hg _ wd_532) (fun _ h9 => h9) rfl (by decide +kernel) rfl rfl (Nat.le_of_ble_eq_true rfl) md_M_hinge_13 (fun H locs hP hD hS => ?_)
    have hP : va_P (dC, dI) mC [(nA, .inr (5, [.int 1, .ref nT, .int vs, .int va, .int vf, .int (nI vr), .ref nO, .ref nU, .ref nV, .long vw, .long vh, .long vt, .long vd, .ref nX, .ref nY, .ref nR, .ref nC, .ref nS])), (nT, .inl (cI, 300, .inl gT)), (nO, .inl (cI, 128, .inl gO)), (nU, .inl (cI, 128, .inl gU)), (nV, .inl (cI, 16, .inl gV)), (nX, .inl (cJ, 16, .inr (.inl gX))), (nY, .inl (cJ, 16, .inr (.inl gY))), (nR, .inl (cJ, 16, .inr (.inl gR))), (nC, .inl (cI, 9, .inl gC)), (nS, .inl (cI, 9, .inl gS))] H := hP
    have hD : va_D A [(nA, .inr (5, [.int 1, .ref nT, .int vs, .int va, .int vf, .int (nI vr), .ref nO, .ref nU, .ref nV, .long vw, .long vh, .long vt, .long vd, .ref nX, .ref nY, .ref nR, .ref nC, .ref nS])), (nT, .inl (cI, 300, .inl gT)), (nO, .inl (cI, 128, .inl gO)), (nU, .inl (cI, 128, .inl gU)), (nV, .inl (cI, 16, .inl gV)), (nX, .inl (cJ, 16, .inr (.inl gX))), (nY, .inl (cJ, 16, .inr (.inl gY))), (nR, .inl (cJ, 16, .inr (.inl gR))), (nC, .inl (cI, 9, .inl gC)), (nS, .inl (cI, 9, .inl gS))] := hD
    refine lv_iconst (v := (-1)) hx hb md_M_hinge_16 (by decide) ?_
    refine lv_istore (lv' := [(6, .int (-1)), (0, .ref nA), (1, .long overlay), (3, .long thick), (5, .int angle)]) hx hb md_M_hinge_17 hl (by decide) rfl (fun ls hl => ?_)
    refine lv_aload_n hx hb md_M_hinge_19 rfl (lv_at hl 1 rfl) ?_
    refine va_get (D := (dC, dI)) (ci := 5) (v := .int (nI vr)) (C := mR_M) (T := mT_M) (N := 18) hx hb hg gu_M hown hK hP 0 rfl rfl 5 (by decide) (hg _ wd_537) (fun _ h9 => h9) rfl md_M_hinge_20 ?_
    refine lv_iconst (v := 1) hx hb md_M_hinge_23 (by decide) ?_
    refine lv_isub hx hb md_M_hinge_24 ?_
    refine lv_istore (lv' := [(7, .int ((nI vr) - 1)), (6, .int (-1)), (0, .ref nA), (1, .long overlay), (3, .long thick), (5, .int angle)]) hx hb md_M_hinge_25 hl (by decide) rfl (fun ls hl => ?_)
    exact loop (vr + 1) 1 (-1) ((nI vr) - 1) vr _ _ ls (Nat.le_refl _) rfl (Nat.lt_succ_self _) (by rw [fM_hinge, if_pos c1]) hP hD hS (lv_sub hl [2, 3, 4, 5, 1, 0] rfl)

def gM_slide (gO : Nat → Int32) (gV : Nat → Int32) (vr : Nat) (depth : Int64) : Nat → Int32 → Int32 → Int32 → Nat → Int32 × Int32
  | 0, _, _, _, _ => (0, 0)
  | n + 1, cv, best, kk, j => if kk < 0 then (if cv ≤ 0 then (best, cv) else (0, cv)) else (if cv = 0 then (if (fM_isThere gO gV kk 115) = 0 then (gM_slide gO gV vr depth n cv best (kk + (-1)) (j - 1)) else (if depth < (fM_number gO kk 0) then (gM_slide gO gV vr depth n cv best (kk + (-1)) (j - 1)) else (if best < 0 then (gM_slide gO gV vr depth n cv kk (kk + (-1)) (j - 1)) else (if (fM_number gO kk 0) < (fM_number gO best 0) then (gM_slide gO gV vr depth n cv best (kk + (-1)) (j - 1)) else (gM_slide gO gV vr depth n cv kk (kk + (-1)) (j - 1)))))) else (if cv ≤ 0 then (best, cv) else (0, cv)))
def fM_slide (gO : Nat → Int32) (gV : Nat → Int32) (vr : Nat) (depth : Int64) : Int32 × Int32 := if (nI vr) = 0 then (gM_slide gO gV vr depth (vr + 1) 1 (-1) ((nI vr) - 1) vr) else (gM_slide gO gV vr depth (vr + 1) 0 (-1) ((nI vr) - 1) vr)
set_option maxHeartbeats 1000000 in
set_option maxRecDepth 100000 in
theorem ct_M_slide (l : Launch) (dC : Nat → ClassId) (dI : Nat → Nat → Nat) (cC cI cJ : ClassId) (nA : Nat) (nT : Nat) (nO : Nat) (nU : Nat) (nV : Nat) (nX : Nat) (nY : Nat) (nR : Nat) (nC : Nat) (nS : Nat) (gT : Nat → Int32) (gO : Nat → Int32) (gU : Nat → Int32) (gV : Nat → Int32) (gX : Nat → Int64) (gY : Nat → Int64) (gR : Nat → Int64) (gC : Nat → Int32) (gS : Nat → Int32) (vc : Int32) (vs : Int32) (va : Int32) (vf : Int32) (vr : Nat) (vw : Int64) (vh : Int64) (vt : Int64) (vd : Int64) (depth : Int64)  (hz : vr ≤ 16) : Met l my_M_slide (.code my_M_slide mb_M_slide 6 (some .int) :: gw_l) ({ frames := 1, cells := 0, slots := 0, locals := 22 }) (mu_Pc (dC, dI) mC [(cC, .char), (cI, .int), (cJ, .long)] [(nA, .inr (5, [.int vc, .ref nT, .int vs, .int va, .int vf, .int (nI vr), .ref nO, .ref nU, .ref nV, .long vw, .long vh, .long vt, .long vd, .ref nX, .ref nY, .ref nR, .ref nC, .ref nS])), (nT, .inl (cI, 300, .inl gT)), (nO, .inl (cI, 128, .inl gO)), (nU, .inl (cI, 128, .inl gU)), (nV, .inl (cI, 16, .inl gV)), (nX, .inl (cJ, 16, .inr (.inl gX))), (nY, .inl (cJ, 16, .inr (.inl gY))), (nR, .inl (cJ, 16, .inr (.inl gR))), (nC, .inl (cI, 9, .inl gC)), (nS, .inl (cI, 9, .inl gS))] (fun _ => True) [.ref nA, .long depth]) (va_Qi (fun (r : Int32) (u : Int32) => (r, u) = fM_slide gO gV vr depth) (fun u t => va_P (dC, dI) mC [(nA, .inr (5, [.int u, .ref nT, .int vs, .int va, .int vf, .int (nI vr), .ref nO, .ref nU, .ref nV, .long vw, .long vh, .long vt, .long vd, .ref nX, .ref nY, .ref nR, .ref nC, .ref nS])), (nT, .inl (cI, 300, .inl gT)), (nO, .inl (cI, 128, .inl gO)), (nU, .inl (cI, 128, .inl gU)), (nV, .inl (cI, 16, .inl gV)), (nX, .inl (cJ, 16, .inr (.inl gX))), (nY, .inl (cJ, 16, .inr (.inl gY))), (nR, .inl (cJ, 16, .inr (.inl gR))), (nC, .inl (cI, 9, .inl gC)), (nS, .inl (cI, 9, .inl gS))] t.heap) (mu_A [(nA, .inr (5, [.int vc, .ref nT, .int vs, .int va, .int vf, .int (nI vr), .ref nO, .ref nU, .ref nV, .long vw, .long vh, .long vt, .long vd, .ref nX, .ref nY, .ref nR, .ref nC, .ref nS])), (nT, .inl (cI, 300, .inl gT)), (nO, .inl (cI, 128, .inl gO)), (nU, .inl (cI, 128, .inl gU)), (nV, .inl (cI, 16, .inl gV)), (nX, .inl (cJ, 16, .inr (.inl gX))), (nY, .inl (cJ, 16, .inr (.inl gY))), (nR, .inl (cJ, 16, .inr (.inl gR))), (nC, .inl (cI, 9, .inl gC)), (nS, .inl (cI, 9, .inl gS))])) 0 0 (mu_A [(nA, .inr (5, [.int vc, .ref nT, .int vs, .int va, .int vf, .int (nI vr), .ref nO, .ref nU, .ref nV, .long vw, .long vh, .long vt, .long vd, .ref nX, .ref nY, .ref nR, .ref nC, .ref nS])), (nT, .inl (cI, 300, .inl gT)), (nO, .inl (cI, 128, .inl gO)), (nU, .inl (cI, 128, .inl gU)), (nV, .inl (cI, 16, .inl gV)), (nX, .inl (cJ, 16, .inr (.inl gX))), (nY, .inl (cJ, 16, .inr (.inl gY))), (nR, .inl (cJ, 16, .inr (.inl gR))), (nC, .inl (cI, 9, .inl gC)), (nS, .inl (cI, 9, .inl gS))]) := by
  refine Met.ofW (cc := mb_M_slide) (maxL := 6) (ret := (some .int)) (by decide) rfl ?_
  intro p e s m args below meth c s₁ B hml hv
  obtain ⟨rfl, hP, hK, hD0, hE⟩ := hv
  have hx := B.exec
  have hb := B.bytes
  have hr := B.returns
  have hts := atoms_spec (ws := (.code my_M_slide mb_M_slide 6 (some .int) :: gw_l)) B.pre
  have hg : ∀ w ∈ gw_l, w.before _ s = true := fun w h => hts w (List.mem_cons_of_mem _ h)
  have hown : s.vm.findClass mR_M = some m.cls := findClass_of_methodNamed B.named
  have hlocks := B.notSynchronized
  have hD := mu_self hD0
  have hS : va_S (mu_A [(nA, .inr (5, [.int vc, .ref nT, .int vs, .int va, .int vf, .int (nI vr), .ref nO, .ref nU, .ref nV, .long vw, .long vh, .long vt, .long vd, .ref nX, .ref nY, .ref nR, .ref nC, .ref nS])), (nT, .inl (cI, 300, .inl gT)), (nO, .inl (cI, 128, .inl gO)), (nU, .inl (cI, 128, .inl gU)), (nV, .inl (cI, 16, .inl gV)), (nX, .inl (cJ, 16, .inr (.inl gX))), (nY, .inl (cJ, 16, .inr (.inl gY))), (nR, .inl (cJ, 16, .inr (.inl gR))), (nC, .inl (cI, 9, .inl gC)), (nS, .inl (cI, 9, .inl gS))]) s.heap s.heap [] := va_S.rf
  generalize hAe : mu_A [(nA, .inr (5, [.int vc, .ref nT, .int vs, .int va, .int vf, .int (nI vr), .ref nO, .ref nU, .ref nV, .long vw, .long vh, .long vt, .long vd, .ref nX, .ref nY, .ref nR, .ref nC, .ref nS])), (nT, .inl (cI, 300, .inl gT)), (nO, .inl (cI, 128, .inl gO)), (nU, .inl (cI, 128, .inl gU)), (nV, .inl (cI, 16, .inl gV)), (nX, .inl (cJ, 16, .inr (.inl gX))), (nY, .inl (cJ, 16, .inr (.inl gY))), (nR, .inl (cJ, 16, .inr (.inl gR))), (nC, .inl (cI, 9, .inl gC)), (nS, .inl (cI, 9, .inl gS))] = A at hD hS ⊢
  have hl := lv_entry ([.ref nA, .long depth]) (n := 6) (Nat.le_of_ble_eq_true rfl)
  rw [lg_entry_eq]
  generalize (lg_sl ([.ref nA, .long depth]) ++ List.replicate (6 - (lg_sl ([.ref nA, .long depth])).length) Slot.unset).toArray = ls at hl ⊢
  have hl : lv_has ls 6 [(0, .ref nA), (1, .long depth)] := hl
  have loop : ∀ (n : Nat) (cv : Int32) (best : Int32) (kk : Int32) (j : Nat) (H : Heap) (locs : List Loc) (ls : Array Slot), (j ≤ vr) → (kk = nI j - 1) → (best < 0 ∨ ∃ j, j < 16 ∧ best = nI j) → j < n → fM_slide gO gV vr depth = gM_slide gO gV vr depth n cv best kk j → va_P (dC, dI) mC [(nA, .inr (5, [.int cv, .ref nT, .int vs, .int va, .int vf, .int (nI vr), .ref nO, .ref nU, .ref nV, .long vw, .long vh, .long vt, .long vd, .ref nX, .ref nY, .ref nR, .ref nC, .ref nS])), (nT, .inl (cI, 300, .inl gT)), (nO, .inl (cI, 128, .inl gO)), (nU, .inl (cI, 128, .inl gU)), (nV, .inl (cI, 16, .inl gV)), (nX, .inl (cJ, 16, .inr (.inl gX))), (nY, .inl (cJ, 16, .inr (.inl gY))), (nR, .inl (cJ, 16, .inr (.inl gR))), (nC, .inl (cI, 9, .inl gC)), (nS, .inl (cI, 9, .inl gS))] H → va_D A [(nA, .inr (5, [.int cv, .ref nT, .int vs, .int va, .int vf, .int (nI vr), .ref nO, .ref nU, .ref nV, .long vw, .long vh, .long vt, .long vd, .ref nX, .ref nY, .ref nR, .ref nC, .ref nS])), (nT, .inl (cI, 300, .inl gT)), (nO, .inl (cI, 128, .inl gO)), (nU, .inl (cI, 128, .inl gU)), (nV, .inl (cI, 16, .inl gV)), (nX, .inl (cJ, 16, .inr (.inl gX))), (nY, .inl (cJ, 16, .inr (.inl gY))), (nR, .inl (cJ, 16, .inr (.inl gR))), (nC, .inl (cI, 9, .inl gC)), (nS, .inl (cI, 9, .inl gS))] → va_S A s.heap H locs → lv_has ls 6 [(0, .ref nA), (1, .long depth), (3, .int best), (4, .int kk)] → W p l e (headSpec (.code my_M_slide mb_M_slide 6 (some .int) :: gw_l) ({ frames := 1, cells := 0, slots := 0, locals := 22 })).room s m ([.ref nA, .long depth] : List Value).toArray below meth c H locs 0 0 (MQ below (va_Qi (fun (r : Int32) (u : Int32) => (r, u) = fM_slide gO gV vr depth) (fun u t => va_P (dC, dI) mC [(nA, .inr (5, [.int u, .ref nT, .int vs, .int va, .int vf, .int (nI vr), .ref nO, .ref nU, .ref nV, .long vw, .long vh, .long vt, .long vd, .ref nX, .ref nY, .ref nR, .ref nC, .ref nS])), (nT, .inl (cI, 300, .inl gT)), (nO, .inl (cI, 128, .inl gO)), (nU, .inl (cI, 128, .inl gU)), (nV, .inl (cI, 16, .inl gV)), (nX, .inl (cJ, 16, .inr (.inl gX))), (nY, .inl (cJ, 16, .inr (.inl gY))), (nR, .inl (cJ, 16, .inr (.inl gR))), (nC, .inl (cI, 9, .inl gC)), (nS, .inl (cI, 9, .inl gS))] t.heap) A) ([.ref nA, .long depth] : List Value).toArray s 0 0 A) (F0 m 26 ls []) := by
    intro n
    induction n with
    | zero =>
      intro cv best kk j H locs ls h1 hj hb2 hm
      exact absurd hm (Nat.not_lt_zero _)
    | succ n ih =>
      intro cv best kk j H locs ls h1 hj hb2 hm hv hP hD hS hl
      refine lv_iload hx hb md_M_slide_26 (lv_at hl 3 rfl) ?_
      refine lv_if_lt (tgt := 107) hx hb md_M_slide_28 (by decide) (fun c2 => ?_) (fun c2 => ?_)
      · refine lv_aload_n hx hb md_M_slide_107 rfl (lv_at hl 0 rfl) ?_
        refine va_get (D := (dC, dI)) (ci := 5) (v := .int cv) (C := mR_M) (T := mT_M) (N := 18) hx hb hg gu_M hown hK hP 0 rfl rfl 0 (by decide) (hg _ wd_532) (fun _ h9 => h9) rfl md_M_slide_108 ?_
        refine lv_if_le (tgt := 118) hx hb md_M_slide_111 (by decide) (fun c3 => ?_) (fun c3 => ?_)
        · refine lv_iload_n hx hb md_M_slide_118 rfl (lv_at hl 2 rfl) ?_
          exact W.iret (v := best) hx hb hr (fun t ht hW => ⟨⟨best, (cv), rfl, (by rw [hv, gM_slide, if_pos c2, if_pos c3]), by have h9 := hP; rw [← ht] at h9; exact h9⟩, hS.F ht⟩) hS.2.2 md_M_slide_119 hlocks
        · refine lv_iconst (v := 0) hx hb md_M_slide_114 (by decide) ?_
          refine lv_goto (tgt := 119) hx hb md_M_slide_115 (by decide) ?_
          exact W.iret (v := 0) hx hb hr (fun t ht hW => ⟨⟨0, (cv), rfl, (by rw [hv, gM_slide, if_pos c2, if_neg c3]), by have h9 := hP; rw [← ht] at h9; exact h9⟩, hS.F ht⟩) hS.2.2 md_M_slide_119 hlocks
      · refine lv_aload_n hx hb md_M_slide_31 rfl (lv_at hl 0 rfl) ?_
        refine va_get (D := (dC, dI)) (ci := 5) (v := .int cv) (C := mR_M) (T := mT_M) (N := 18) hx hb hg gu_M hown hK hP 0 rfl rfl 0 (by decide) (hg _ wd_532) (fun _ h9 => h9) rfl md_M_slide_32 ?_
        refine lv_if_ne (tgt := 107) hx hb md_M_slide_35 (by decide) (fun c4 => ?_) (fun c4 => ?_)
        · refine lv_aload_n hx hb md_M_slide_107 rfl (lv_at hl 0 rfl) ?_
          refine va_get (D := (dC, dI)) (ci := 5) (v := .int cv) (C := mR_M) (T := mT_M) (N := 18) hx hb hg gu_M hown hK hP 0 rfl rfl 0 (by decide) (hg _ wd_532) (fun _ h9 => h9) rfl md_M_slide_108 ?_
          refine lv_if_le (tgt := 118) hx hb md_M_slide_111 (by decide) (fun c5 => ?_) (fun c5 => ?_)
          · refine lv_iload_n hx hb md_M_slide_118 rfl (lv_at hl 2 rfl) ?_
            exact W.iret (v := best) hx hb hr (fun t ht hW => ⟨⟨best, (cv), rfl, (by rw [hv, gM_slide, if_neg c2, if_neg c4, if_pos c5]), by have h9 := hP; rw [← ht] at h9; exact h9⟩, hS.F ht⟩) hS.2.2 md_M_slide_119 hlocks
          · refine lv_iconst (v := 0) hx hb md_M_slide_114 (by decide) ?_
            refine lv_goto (tgt := 119) hx hb md_M_slide_115 (by decide) ?_
            exact W.iret (v := 0) hx hb hr (fun t ht hW => ⟨⟨0, (cv), rfl, (by rw [hv, gM_slide, if_neg c2, if_neg c4, if_neg c5]), by have h9 := hP; rw [← ht] at h9; exact h9⟩, hS.F ht⟩) hS.2.2 md_M_slide_119 hlocks
        · have h8 := kd_8 hz h1 hj c2
          have hj1 := (kd_1 hj c2).1
          refine lv_aload_n hx hb md_M_slide_38 rfl (lv_at hl 0 rfl) ?_
          refine lv_iload hx hb md_M_slide_39 (lv_at hl 3 rfl) ?_
          refine lv_bipush (v := 115) hx hb md_M_slide_41 (by decide) ?_
          have hPc6 := hP.sub (ws' := [(nA, .inr (5, [.int cv, .ref nT, .int vs, .int va, .int vf, .int (nI vr), .ref nO, .ref nU, .ref nV, .long vw, .long vh, .long vt, .long vd, .ref nX, .ref nY, .ref nR, .ref nC, .ref nS])), (nT, .inl (cI, 300, .inl gT)), (nO, .inl (cI, 128, .inl gO)), (nU, .inl (cI, 128, .inl gU)), (nV, .inl (cI, 16, .inl gV)), (nX, .inl (cJ, 16, .inr (.inl gX))), (nY, .inl (cJ, 16, .inr (.inl gY))), (nR, .inl (cJ, 16, .inr (.inl gR))), (nC, .inl (cI, 9, .inl gC)), (nS, .inl (cI, 9, .inl gS))]) [0, 1, 2, 3, 4, 5, 6, 7, 8, 9] rfl
          refine pu_i (W.runV (As := [.int kk, .int 115]) (rest := []) ⟨hx, hb, hml, hown, hg⟩ (ct_M_isThere l dC dI cC cI cJ nA nT nO nU nV nX nY nR nC nS gT gO gU gV gX gY gR gC gS cv vs va vf (nI vr) vw vh vt vd kk 115 h8.2.1 h8.1) (gw_cwV hg wd_644 mv_M_isThere rfl rfl ⟨Nat.le_of_ble_eq_true rfl, Nat.le_of_ble_eq_true rfl⟩) (pu_preV (ci := 5) (q0 := 0) pu_blT hK hPc6 pu_e1 rfl rfl) rfl rfl hl.1 rfl (lv_room (Nat.le_of_ble_eq_true rfl)) md_M_slide_43 ⟨Nat.zero_le _, Nat.zero_le _⟩) ?_
          refine lv_if_eq (tgt := 65) hx hb md_M_slide_46 (by decide) (fun c7 => ?_) (fun c7 => ?_)
          · refine lv_iconst (v := 0) hx hb md_M_slide_65 (by decide) ?_
            refine lv_istore (lv' := [(5, .int 0), (0, .ref nA), (1, .long depth), (3, .int best), (4, .int kk)]) hx hb md_M_slide_66 hl (by decide) rfl (fun ls hl => ?_)
            refine lv_iload hx hb md_M_slide_68 (lv_at hl 0 rfl) ?_
            refine lv_if_eq (tgt := 99) hx hb md_M_slide_70 (by decide) (fun _ => ?_) (fun c8 => absurd (by decide) c8)
            refine lv_iload_n hx hb md_M_slide_99 rfl (lv_at hl 3 rfl) ?_
            refine lv_istore_n (lv' := [(3, .int best), (5, .int 0), (0, .ref nA), (1, .long depth), (4, .int kk)]) hx hb md_M_slide_100 rfl hl (by decide) rfl (fun ls hl => ?_)
            refine lv_iinc (v := kk + (-1)) (lv' := [(4, .int (kk + (-1))), (3, .int best), (5, .int 0), (0, .ref nA), (1, .long depth)]) hx hb md_M_slide_101 hl (k := 4) rfl rfl (by decide) rfl (fun ls hl => ?_)
            refine lv_goto (tgt := 26) hx hb md_M_slide_104 (by decide) ?_
            exact ih cv best (kk + (-1)) (j - 1) _ _ ls (by omega) (kd_2 hj c2) hb2 (by omega) (by rw [hv, gM_slide, if_neg c2, if_pos c4, if_pos c7]) hP hD hS (lv_sub hl [3, 4, 1, 0] rfl)
          · refine lv_aload_n hx hb md_M_slide_49 rfl (lv_at hl 0 rfl) ?_
            refine lv_iload hx hb md_M_slide_50 (lv_at hl 3 rfl) ?_
            refine lv_iconst (v := 0) hx hb md_M_slide_52 (by decide) ?_
            have hPc9 := hP.sub (ws' := [(nA, .inr (5, [.int cv, .ref nT, .int vs, .int va, .int vf, .int (nI vr), .ref nO, .ref nU, .ref nV, .long vw, .long vh, .long vt, .long vd, .ref nX, .ref nY, .ref nR, .ref nC, .ref nS])), (nT, .inl (cI, 300, .inl gT)), (nO, .inl (cI, 128, .inl gO)), (nU, .inl (cI, 128, .inl gU)), (nV, .inl (cI, 16, .inl gV)), (nX, .inl (cJ, 16, .inr (.inl gX))), (nY, .inl (cJ, 16, .inr (.inl gY))), (nR, .inl (cJ, 16, .inr (.inl gR))), (nC, .inl (cI, 9, .inl gC)), (nS, .inl (cI, 9, .inl gS))]) [0, 1, 2, 3, 4, 5, 6, 7, 8, 9] rfl
            refine pu_l (W.runV (As := [.int kk, .int 0]) (rest := []) ⟨hx, hb, hml, hown, hg⟩ (ct_M_number l dC dI cC cI cJ nA nT nO nU nV nX nY nR nC nS gT gO gU gV gX gY gR gC gS cv vs va vf (nI vr) vw vh vt vd kk 0 (h8.2.2.2.1 _ 0 (by decide) (by decide))) (gw_cwV hg wd_640 mv_M_number rfl rfl ⟨Nat.le_of_ble_eq_true rfl, Nat.le_of_ble_eq_true rfl⟩) (pu_preV (ci := 5) (q0 := 0) pu_blT hK hPc9 pu_e1 rfl rfl) rfl rfl hl.1 rfl (lv_room (Nat.le_of_ble_eq_true rfl)) md_M_slide_53 ⟨Nat.zero_le _, Nat.zero_le _⟩) ?_
            refine lv_lload_n hx hb md_M_slide_56 rfl (lv_at hl 1 rfl) ?_
            refine lx_gt (tgt := 65) hx hb md_M_slide_57 md_M_slide_58 (by decide) (fun c10 => ?_) (fun c10 => ?_)
            · refine lv_iconst (v := 0) hx hb md_M_slide_65 (by decide) ?_
              refine lv_istore (lv' := [(5, .int 0), (0, .ref nA), (1, .long depth), (3, .int best), (4, .int kk)]) hx hb md_M_slide_66 hl (by decide) rfl (fun ls hl => ?_)
              refine lv_iload hx hb md_M_slide_68 (lv_at hl 0 rfl) ?_
              refine lv_if_eq (tgt := 99) hx hb md_M_slide_70 (by decide) (fun _ => ?_) (fun c11 => absurd (by decide) c11)
              refine lv_iload_n hx hb md_M_slide_99 rfl (lv_at hl 3 rfl) ?_
              refine lv_istore_n (lv' := [(3, .int best), (5, .int 0), (0, .ref nA), (1, .long depth), (4, .int kk)]) hx hb md_M_slide_100 rfl hl (by decide) rfl (fun ls hl => ?_)
              refine lv_iinc (v := kk + (-1)) (lv' := [(4, .int (kk + (-1))), (3, .int best), (5, .int 0), (0, .ref nA), (1, .long depth)]) hx hb md_M_slide_101 hl (k := 4) rfl rfl (by decide) rfl (fun ls hl => ?_)
              refine lv_goto (tgt := 26) hx hb md_M_slide_104 (by decide) ?_
              exact ih cv best (kk + (-1)) (j - 1) _ _ ls (by omega) (kd_2 hj c2) hb2 (by omega) (by rw [hv, gM_slide, if_neg c2, if_pos c4, if_neg c7, if_pos c10]) hP hD hS (lv_sub hl [3, 4, 1, 0] rfl)
            · refine lv_iconst (v := 1) hx hb md_M_slide_61 (by decide) ?_
              refine lv_goto (tgt := 66) hx hb md_M_slide_62 (by decide) ?_
              refine lv_istore (lv' := [(5, .int 1), (0, .ref nA), (1, .long depth), (3, .int best), (4, .int kk)]) hx hb md_M_slide_66 hl (by decide) rfl (fun ls hl => ?_)
              refine lv_iload hx hb md_M_slide_68 (lv_at hl 0 rfl) ?_
              refine lv_if_eq (tgt := 99) hx hb md_M_slide_70 (by decide) (fun c12 => absurd c12 (by decide)) (fun _ => ?_)
              refine lv_iload_n hx hb md_M_slide_73 rfl (lv_at hl 3 rfl) ?_
              refine lv_if_lt (tgt := 94) hx hb md_M_slide_74 (by decide) (fun c13 => ?_) (fun c13 => ?_)
              · refine lv_iload hx hb md_M_slide_94 (lv_at hl 4 rfl) ?_
                refine lv_goto (tgt := 100) hx hb md_M_slide_96 (by decide) ?_
                refine lv_istore_n (lv' := [(3, .int kk), (5, .int 1), (0, .ref nA), (1, .long depth), (4, .int kk)]) hx hb md_M_slide_100 rfl hl (by decide) rfl (fun ls hl => ?_)
                refine lv_iinc (v := kk + (-1)) (lv' := [(4, .int (kk + (-1))), (3, .int kk), (5, .int 1), (0, .ref nA), (1, .long depth)]) hx hb md_M_slide_101 hl (k := 4) rfl rfl (by decide) rfl (fun ls hl => ?_)
                refine lv_goto (tgt := 26) hx hb md_M_slide_104 (by decide) ?_
                exact ih cv kk (kk + (-1)) (j - 1) _ _ ls (by omega) (kd_2 hj c2) (kb_1 hz h1 hj c2) (by omega) (by rw [hv, gM_slide, if_neg c2, if_pos c4, if_neg c7, if_neg c10, if_pos c13]) hP hD hS (lv_sub hl [3, 4, 1, 0] rfl)
              · have hb8 := mb_8 hb2 c13
                refine lv_aload_n hx hb md_M_slide_77 rfl (lv_at hl 1 rfl) ?_
                refine lv_iload hx hb md_M_slide_78 (lv_at hl 4 rfl) ?_
                refine lv_iconst (v := 0) hx hb md_M_slide_80 (by decide) ?_
                have hPc14 := hP.sub (ws' := [(nA, .inr (5, [.int cv, .ref nT, .int vs, .int va, .int vf, .int (nI vr), .ref nO, .ref nU, .ref nV, .long vw, .long vh, .long vt, .long vd, .ref nX, .ref nY, .ref nR, .ref nC, .ref nS])), (nT, .inl (cI, 300, .inl gT)), (nO, .inl (cI, 128, .inl gO)), (nU, .inl (cI, 128, .inl gU)), (nV, .inl (cI, 16, .inl gV)), (nX, .inl (cJ, 16, .inr (.inl gX))), (nY, .inl (cJ, 16, .inr (.inl gY))), (nR, .inl (cJ, 16, .inr (.inl gR))), (nC, .inl (cI, 9, .inl gC)), (nS, .inl (cI, 9, .inl gS))]) [0, 1, 2, 3, 4, 5, 6, 7, 8, 9] rfl
                refine pu_l (W.runV (As := [.int kk, .int 0]) (rest := []) ⟨hx, hb, hml, hown, hg⟩ (ct_M_number l dC dI cC cI cJ nA nT nO nU nV nX nY nR nC nS gT gO gU gV gX gY gR gC gS cv vs va vf (nI vr) vw vh vt vd kk 0 (h8.2.2.2.1 _ 0 (by decide) (by decide))) (gw_cwV hg wd_640 mv_M_number rfl rfl ⟨Nat.le_of_ble_eq_true rfl, Nat.le_of_ble_eq_true rfl⟩) (pu_preV (ci := 5) (q0 := 0) pu_blT hK hPc14 pu_e1 rfl rfl) rfl rfl hl.1 rfl (lv_room (Nat.le_of_ble_eq_true rfl)) md_M_slide_81 ⟨Nat.zero_le _, Nat.zero_le _⟩) ?_
                refine lv_aload_n hx hb md_M_slide_84 rfl (lv_at hl 1 rfl) ?_
                refine lv_iload_n hx hb md_M_slide_85 rfl (lv_at hl 3 rfl) ?_
                refine lv_iconst (v := 0) hx hb md_M_slide_86 (by decide) ?_
                have hPc15 := hP.sub (ws' := [(nA, .inr (5, [.int cv, .ref nT, .int vs, .int va, .int vf, .int (nI vr), .ref nO, .ref nU, .ref nV, .long vw, .long vh, .long vt, .long vd, .ref nX, .ref nY, .ref nR, .ref nC, .ref nS])), (nT, .inl (cI, 300, .inl gT)), (nO, .inl (cI, 128, .inl gO)), (nU, .inl (cI, 128, .inl gU)), (nV, .inl (cI, 16, .inl gV)), (nX, .inl (cJ, 16, .inr (.inl gX))), (nY, .inl (cJ, 16, .inr (.inl gY))), (nR, .inl (cJ, 16, .inr (.inl gR))), (nC, .inl (cI, 9, .inl gC)), (nS, .inl (cI, 9, .inl gS))]) [0, 1, 2, 3, 4, 5, 6, 7, 8, 9] rfl
                refine pu_l (W.runV (As := [.int best, .int 0]) (rest := [.long (fM_number gO kk 0)]) ⟨hx, hb, hml, hown, hg⟩ (ct_M_number l dC dI cC cI cJ nA nT nO nU nV nX nY nR nC nS gT gO gU gV gX gY gR gC gS cv vs va vf (nI vr) vw vh vt vd best 0 (hb8.2.2.2.1 _ 0 (by decide) (by decide))) (gw_cwV hg wd_640 mv_M_number rfl rfl ⟨Nat.le_of_ble_eq_true rfl, Nat.le_of_ble_eq_true rfl⟩) (pu_preV (ci := 5) (q0 := 0) pu_blT hK hPc15 pu_e1 rfl rfl) rfl rfl hl.1 rfl (lv_room (Nat.le_of_ble_eq_true rfl)) md_M_slide_87 ⟨Nat.zero_le _, Nat.zero_le _⟩) ?_
                refine lx_lt (tgt := 99) hx hb md_M_slide_90 md_M_slide_91 (by decide) (fun c16 => ?_) (fun c16 => ?_)
                · refine lv_iload_n hx hb md_M_slide_99 rfl (lv_at hl 3 rfl) ?_
                  refine lv_istore_n (lv' := [(3, .int best), (5, .int 1), (0, .ref nA), (1, .long depth), (4, .int kk)]) hx hb md_M_slide_100 rfl hl (by decide) rfl (fun ls hl => ?_)
                  refine lv_iinc (v := kk + (-1)) (lv' := [(4, .int (kk + (-1))), (3, .int best), (5, .int 1), (0, .ref nA), (1, .long depth)]) hx hb md_M_slide_101 hl (k := 4) rfl rfl (by decide) rfl (fun ls hl => ?_)
                  refine lv_goto (tgt := 26) hx hb md_M_slide_104 (by decide) ?_
                  exact ih cv best (kk + (-1)) (j - 1) _ _ ls (by omega) (kd_2 hj c2) hb2 (by omega) (by rw [hv, gM_slide, if_neg c2, if_pos c4, if_neg c7, if_neg c10, if_neg c13, if_pos c16]) hP hD hS (lv_sub hl [3, 4, 1, 0] rfl)
                · refine lv_iload hx hb md_M_slide_94 (lv_at hl 4 rfl) ?_
                  refine lv_goto (tgt := 100) hx hb md_M_slide_96 (by decide) ?_
                  refine lv_istore_n (lv' := [(3, .int kk), (5, .int 1), (0, .ref nA), (1, .long depth), (4, .int kk)]) hx hb md_M_slide_100 rfl hl (by decide) rfl (fun ls hl => ?_)
                  refine lv_iinc (v := kk + (-1)) (lv' := [(4, .int (kk + (-1))), (3, .int kk), (5, .int 1), (0, .ref nA), (1, .long depth)]) hx hb md_M_slide_101 hl (k := 4) rfl rfl (by decide) rfl (fun ls hl => ?_)
                  refine lv_goto (tgt := 26) hx hb md_M_slide_104 (by decide) ?_
                  exact ih cv kk (kk + (-1)) (j - 1) _ _ ls (by omega) (kd_2 hj c2) (kb_1 hz h1 hj c2) (by omega) (by rw [hv, gM_slide, if_neg c2, if_pos c4, if_neg c7, if_neg c10, if_neg c13, if_neg c16]) hP hD hS (lv_sub hl [3, 4, 1, 0] rfl)
  refine lv_aload_n hx hb md_M_slide_0 rfl (lv_at hl 0 rfl) ?_
  refine lv_aload_n hx hb md_M_slide_1 rfl (lv_at hl 0 rfl) ?_
  refine va_get (D := (dC, dI)) (ci := 5) (v := .int (nI vr)) (C := mR_M) (T := mT_M) (N := 18) hx hb hg gu_M hown hK hP 0 rfl rfl 5 (by decide) (hg _ wd_537) (fun _ h9 => h9) rfl md_M_slide_2 ?_
  refine lv_if_ne (tgt := 12) hx hb md_M_slide_5 (by decide) (fun c1 => ?_) (fun c1 => ?_)
  · refine lv_iconst (v := 0) hx hb md_M_slide_12 (by decide) ?_
    refine va_put (D := (dC, dI)) (ci := 5) (v := .int 0) (ty := .int) (C := mR_M) (T := mT_M) (N := 18) hx hb hg gu_M mF_M mO_M mN_M hown hK hP hD hS 0 rfl rfl 0 (by decide) (hg _ wd_532) (fun _ h9 => h9) rfl (by decide +kernel) rfl rfl (Nat.le_of_ble_eq_true rfl) md_M_slide_13 (fun H locs hP hD hS => ?_)
    have hP : va_P (dC, dI) mC [(nA, .inr (5, [.int 0, .ref nT, .int vs, .int va, .int vf, .int (nI vr), .ref nO, .ref nU, .ref nV, .long vw, .long vh, .long vt, .long vd, .ref nX, .ref nY, .ref nR, .ref nC, .ref nS])), (nT, .inl (cI, 300, .inl gT)), (nO, .inl (cI, 128, .inl gO)), (nU, .inl (cI, 128, .inl gU)), (nV, .inl (cI, 16, .inl gV)), (nX, .inl (cJ, 16, .inr (.inl gX))), (nY, .inl (cJ, 16, .inr (.inl gY))), (nR, .inl (cJ, 16, .inr (.inl gR))), (nC, .inl (cI, 9, .inl gC)), (nS, .inl (cI, 9, .inl gS))] H := hP
    have hD : va_D A [(nA, .inr (5, [.int 0, .ref nT, .int vs, .int va, .int vf, .int (nI vr), .ref nO, .ref nU, .ref nV, .long vw, .long vh, .long vt, .long vd, .ref nX, .ref nY, .ref nR, .ref nC, .ref nS])), (nT, .inl (cI, 300, .inl gT)), (nO, .inl (cI, 128, .inl gO)), (nU, .inl (cI, 128, .inl gU)), (nV, .inl (cI, 16, .inl gV)), (nX, .inl (cJ, 16, .inr (.inl gX))), (nY, .inl (cJ, 16, .inr (.inl gY))), (nR, .inl (cJ, 16, .inr (.inl gR))), (nC, .inl (cI, 9, .inl gC)), (nS, .inl (cI, 9, .inl gS))] := hD
    refine lv_iconst (v := (-1)) hx hb md_M_slide_16 (by decide) ?_
    refine lv_istore_n (lv' := [(3, .int (-1)), (0, .ref nA), (1, .long depth)]) hx hb md_M_slide_17 rfl hl (by decide) rfl (fun ls hl => ?_)
    refine lv_aload_n hx hb md_M_slide_18 rfl (lv_at hl 1 rfl) ?_
    refine va_get (D := (dC, dI)) (ci := 5) (v := .int (nI vr)) (C := mR_M) (T := mT_M) (N := 18) hx hb hg gu_M hown hK hP 0 rfl rfl 5 (by decide) (hg _ wd_537) (fun _ h9 => h9) rfl md_M_slide_19 ?_
    refine lv_iconst (v := 1) hx hb md_M_slide_22 (by decide) ?_
    refine lv_isub hx hb md_M_slide_23 ?_
    refine lv_istore (lv' := [(4, .int ((nI vr) - 1)), (3, .int (-1)), (0, .ref nA), (1, .long depth)]) hx hb md_M_slide_24 hl (by decide) rfl (fun ls hl => ?_)
    exact loop (vr + 1) 0 (-1) ((nI vr) - 1) vr _ _ ls (Nat.le_refl _) rfl (Or.inl (by decide)) (Nat.lt_succ_self _) (by rw [fM_slide, if_neg c1]) hP hD hS (lv_sub hl [2, 3, 1, 0] rfl)
  · refine lv_iconst (v := 1) hx hb md_M_slide_8 (by decide) ?_
    refine lv_goto (tgt := 13) hx hb md_M_slide_9 (by decide) ?_
    refine va_put (D := (dC, dI)) (ci := 5) (v := .int 1) (ty := .int) (C := mR_M) (T := mT_M) (N := 18) hx hb hg gu_M mF_M mO_M mN_M hown hK hP hD hS 0 rfl rfl 0 (by decide) (hg _ wd_532) (fun _ h9 => h9) rfl (by decide +kernel) rfl rfl (Nat.le_of_ble_eq_true rfl) md_M_slide_13 (fun H locs hP hD hS => ?_)
    have hP : va_P (dC, dI) mC [(nA, .inr (5, [.int 1, .ref nT, .int vs, .int va, .int vf, .int (nI vr), .ref nO, .ref nU, .ref nV, .long vw, .long vh, .long vt, .long vd, .ref nX, .ref nY, .ref nR, .ref nC, .ref nS])), (nT, .inl (cI, 300, .inl gT)), (nO, .inl (cI, 128, .inl gO)), (nU, .inl (cI, 128, .inl gU)), (nV, .inl (cI, 16, .inl gV)), (nX, .inl (cJ, 16, .inr (.inl gX))), (nY, .inl (cJ, 16, .inr (.inl gY))), (nR, .inl (cJ, 16, .inr (.inl gR))), (nC, .inl (cI, 9, .inl gC)), (nS, .inl (cI, 9, .inl gS))] H := hP
    have hD : va_D A [(nA, .inr (5, [.int 1, .ref nT, .int vs, .int va, .int vf, .int (nI vr), .ref nO, .ref nU, .ref nV, .long vw, .long vh, .long vt, .long vd, .ref nX, .ref nY, .ref nR, .ref nC, .ref nS])), (nT, .inl (cI, 300, .inl gT)), (nO, .inl (cI, 128, .inl gO)), (nU, .inl (cI, 128, .inl gU)), (nV, .inl (cI, 16, .inl gV)), (nX, .inl (cJ, 16, .inr (.inl gX))), (nY, .inl (cJ, 16, .inr (.inl gY))), (nR, .inl (cJ, 16, .inr (.inl gR))), (nC, .inl (cI, 9, .inl gC)), (nS, .inl (cI, 9, .inl gS))] := hD
    refine lv_iconst (v := (-1)) hx hb md_M_slide_16 (by decide) ?_
    refine lv_istore_n (lv' := [(3, .int (-1)), (0, .ref nA), (1, .long depth)]) hx hb md_M_slide_17 rfl hl (by decide) rfl (fun ls hl => ?_)
    refine lv_aload_n hx hb md_M_slide_18 rfl (lv_at hl 1 rfl) ?_
    refine va_get (D := (dC, dI)) (ci := 5) (v := .int (nI vr)) (C := mR_M) (T := mT_M) (N := 18) hx hb hg gu_M hown hK hP 0 rfl rfl 5 (by decide) (hg _ wd_537) (fun _ h9 => h9) rfl md_M_slide_19 ?_
    refine lv_iconst (v := 1) hx hb md_M_slide_22 (by decide) ?_
    refine lv_isub hx hb md_M_slide_23 ?_
    refine lv_istore (lv' := [(4, .int ((nI vr) - 1)), (3, .int (-1)), (0, .ref nA), (1, .long depth)]) hx hb md_M_slide_24 hl (by decide) rfl (fun ls hl => ?_)
    exact loop (vr + 1) 1 (-1) ((nI vr) - 1) vr _ _ ls (Nat.le_refl _) rfl (Or.inl (by decide)) (Nat.lt_succ_self _) (by rw [fM_slide, if_pos c1]) hP hD hS (lv_sub hl [2, 3, 1, 0] rfl)

def gM_other (gO : Nat → Int32) (gV : Nat → Int32) (vr : Nat) (row : Int32) (k : Int32) : Nat → Int32 → Nat → Int32 × Int32
  | 0, _, _ => (0, 0)
  | n + 1, left, i => if (nI vr) ≤ (nI i) then ((-1), 0) else (if (fM_replaces gO gV (nI i) row) = 0 then (gM_other gO gV vr row k n left (i + 1)) else (if left = 0 then (nI i, 0) else (gM_other gO gV vr row k n (left + (-1)) (i + 1))))
def fM_other (gO : Nat → Int32) (gV : Nat → Int32) (vr : Nat) (row : Int32) (k : Int32) : Int32 × Int32 := if (fM_rowCode (nI vr) row) ≤ 0 then (if 0 ≤ k then (if (gO (Int32.toNatClampNeg (8 * row))) = 104 then (gM_other gO gV vr row k (vr + 1) k 0) else (0, 3)) else (0, 2)) else (0, fM_rowCode (nI vr) row)
set_option maxHeartbeats 1000000 in
set_option maxRecDepth 100000 in
theorem ct_M_other (l : Launch) (dC : Nat → ClassId) (dI : Nat → Nat → Nat) (cC cI cJ : ClassId) (nA : Nat) (nT : Nat) (nO : Nat) (nU : Nat) (nV : Nat) (nX : Nat) (nY : Nat) (nR : Nat) (nC : Nat) (nS : Nat) (gT : Nat → Int32) (gO : Nat → Int32) (gU : Nat → Int32) (gV : Nat → Int32) (gX : Nat → Int64) (gY : Nat → Int64) (gR : Nat → Int64) (gC : Nat → Int32) (gS : Nat → Int32) (vc : Int32) (vs : Int32) (va : Int32) (vf : Int32) (vr : Nat) (vw : Int64) (vh : Int64) (vt : Int64) (vd : Int64) (row : Int32) (k : Int32)  (hz : vr ≤ 16) : Met l my_M_other (.code my_M_other mb_M_other 5 (some .int) :: gw_l) ({ frames := 2, cells := 0, slots := 0, locals := 45 }) (mu_Pc (dC, dI) mC [(cC, .char), (cI, .int), (cJ, .long)] [(nA, .inr (5, [.int vc, .ref nT, .int vs, .int va, .int vf, .int (nI vr), .ref nO, .ref nU, .ref nV, .long vw, .long vh, .long vt, .long vd, .ref nX, .ref nY, .ref nR, .ref nC, .ref nS])), (nT, .inl (cI, 300, .inl gT)), (nO, .inl (cI, 128, .inl gO)), (nU, .inl (cI, 128, .inl gU)), (nV, .inl (cI, 16, .inl gV)), (nX, .inl (cJ, 16, .inr (.inl gX))), (nY, .inl (cJ, 16, .inr (.inl gY))), (nR, .inl (cJ, 16, .inr (.inl gR))), (nC, .inl (cI, 9, .inl gC)), (nS, .inl (cI, 9, .inl gS))] (fun _ => True) [.ref nA, .int row, .int k]) (va_Qi (fun (r : Int32) (u : Int32) => (r, u) = fM_other gO gV vr row k) (fun u t => va_P (dC, dI) mC [(nA, .inr (5, [.int u, .ref nT, .int vs, .int va, .int vf, .int (nI vr), .ref nO, .ref nU, .ref nV, .long vw, .long vh, .long vt, .long vd, .ref nX, .ref nY, .ref nR, .ref nC, .ref nS])), (nT, .inl (cI, 300, .inl gT)), (nO, .inl (cI, 128, .inl gO)), (nU, .inl (cI, 128, .inl gU)), (nV, .inl (cI, 16, .inl gV)), (nX, .inl (cJ, 16, .inr (.inl gX))), (nY, .inl (cJ, 16, .inr (.inl gY))), (nR, .inl (cJ, 16, .inr (.inl gR))), (nC, .inl (cI, 9, .inl gC)), (nS, .inl (cI, 9, .inl gS))] t.heap) (mu_A [(nA, .inr (5, [.int vc, .ref nT, .int vs, .int va, .int vf, .int (nI vr), .ref nO, .ref nU, .ref nV, .long vw, .long vh, .long vt, .long vd, .ref nX, .ref nY, .ref nR, .ref nC, .ref nS])), (nT, .inl (cI, 300, .inl gT)), (nO, .inl (cI, 128, .inl gO)), (nU, .inl (cI, 128, .inl gU)), (nV, .inl (cI, 16, .inl gV)), (nX, .inl (cJ, 16, .inr (.inl gX))), (nY, .inl (cJ, 16, .inr (.inl gY))), (nR, .inl (cJ, 16, .inr (.inl gR))), (nC, .inl (cI, 9, .inl gC)), (nS, .inl (cI, 9, .inl gS))])) 0 0 (mu_A [(nA, .inr (5, [.int vc, .ref nT, .int vs, .int va, .int vf, .int (nI vr), .ref nO, .ref nU, .ref nV, .long vw, .long vh, .long vt, .long vd, .ref nX, .ref nY, .ref nR, .ref nC, .ref nS])), (nT, .inl (cI, 300, .inl gT)), (nO, .inl (cI, 128, .inl gO)), (nU, .inl (cI, 128, .inl gU)), (nV, .inl (cI, 16, .inl gV)), (nX, .inl (cJ, 16, .inr (.inl gX))), (nY, .inl (cJ, 16, .inr (.inl gY))), (nR, .inl (cJ, 16, .inr (.inl gR))), (nC, .inl (cI, 9, .inl gC)), (nS, .inl (cI, 9, .inl gS))]) := by
  refine Met.ofW (cc := mb_M_other) (maxL := 5) (ret := (some .int)) (by decide) rfl ?_
  intro p e s m args below meth c s₁ B hml hv
  obtain ⟨rfl, hP, hK, hD0, hE⟩ := hv
  have hx := B.exec
  have hb := B.bytes
  have hr := B.returns
  have hts := atoms_spec (ws := (.code my_M_other mb_M_other 5 (some .int) :: gw_l)) B.pre
  have hg : ∀ w ∈ gw_l, w.before _ s = true := fun w h => hts w (List.mem_cons_of_mem _ h)
  have hown : s.vm.findClass mR_M = some m.cls := findClass_of_methodNamed B.named
  have hlocks := B.notSynchronized
  have hD := mu_self hD0
  have hS : va_S (mu_A [(nA, .inr (5, [.int vc, .ref nT, .int vs, .int va, .int vf, .int (nI vr), .ref nO, .ref nU, .ref nV, .long vw, .long vh, .long vt, .long vd, .ref nX, .ref nY, .ref nR, .ref nC, .ref nS])), (nT, .inl (cI, 300, .inl gT)), (nO, .inl (cI, 128, .inl gO)), (nU, .inl (cI, 128, .inl gU)), (nV, .inl (cI, 16, .inl gV)), (nX, .inl (cJ, 16, .inr (.inl gX))), (nY, .inl (cJ, 16, .inr (.inl gY))), (nR, .inl (cJ, 16, .inr (.inl gR))), (nC, .inl (cI, 9, .inl gC)), (nS, .inl (cI, 9, .inl gS))]) s.heap s.heap [] := va_S.rf
  generalize hAe : mu_A [(nA, .inr (5, [.int vc, .ref nT, .int vs, .int va, .int vf, .int (nI vr), .ref nO, .ref nU, .ref nV, .long vw, .long vh, .long vt, .long vd, .ref nX, .ref nY, .ref nR, .ref nC, .ref nS])), (nT, .inl (cI, 300, .inl gT)), (nO, .inl (cI, 128, .inl gO)), (nU, .inl (cI, 128, .inl gU)), (nV, .inl (cI, 16, .inl gV)), (nX, .inl (cJ, 16, .inr (.inl gX))), (nY, .inl (cJ, 16, .inr (.inl gY))), (nR, .inl (cJ, 16, .inr (.inl gR))), (nC, .inl (cI, 9, .inl gC)), (nS, .inl (cI, 9, .inl gS))] = A at hD hS ⊢
  have hl := lv_entry ([.ref nA, .int row, .int k]) (n := 5) (Nat.le_of_ble_eq_true rfl)
  rw [lg_entry_eq]
  generalize (lg_sl ([.ref nA, .int row, .int k]) ++ List.replicate (5 - (lg_sl ([.ref nA, .int row, .int k])).length) Slot.unset).toArray = ls at hl ⊢
  have hl : lv_has ls 5 [(0, .ref nA), (1, .int row), (2, .int k)] := hl
  have loop : ∀ (n : Nat) (left : Int32) (i : Nat) (H : Heap) (locs : List Loc) (ls : Array Slot), (i ≤ vr) → (m8 row) → vr - i < n → fM_other gO gV vr row k = gM_other gO gV vr row k n left i → va_P (dC, dI) mC [(nA, .inr (5, [.int 0, .ref nT, .int vs, .int va, .int vf, .int (nI vr), .ref nO, .ref nU, .ref nV, .long vw, .long vh, .long vt, .long vd, .ref nX, .ref nY, .ref nR, .ref nC, .ref nS])), (nT, .inl (cI, 300, .inl gT)), (nO, .inl (cI, 128, .inl gO)), (nU, .inl (cI, 128, .inl gU)), (nV, .inl (cI, 16, .inl gV)), (nX, .inl (cJ, 16, .inr (.inl gX))), (nY, .inl (cJ, 16, .inr (.inl gY))), (nR, .inl (cJ, 16, .inr (.inl gR))), (nC, .inl (cI, 9, .inl gC)), (nS, .inl (cI, 9, .inl gS))] H → va_D A [(nA, .inr (5, [.int 0, .ref nT, .int vs, .int va, .int vf, .int (nI vr), .ref nO, .ref nU, .ref nV, .long vw, .long vh, .long vt, .long vd, .ref nX, .ref nY, .ref nR, .ref nC, .ref nS])), (nT, .inl (cI, 300, .inl gT)), (nO, .inl (cI, 128, .inl gO)), (nU, .inl (cI, 128, .inl gU)), (nV, .inl (cI, 16, .inl gV)), (nX, .inl (cJ, 16, .inr (.inl gX))), (nY, .inl (cJ, 16, .inr (.inl gY))), (nR, .inl (cJ, 16, .inr (.inl gR))), (nC, .inl (cI, 9, .inl gC)), (nS, .inl (cI, 9, .inl gS))] → va_S A s.heap H locs → lv_has ls 5 [(0, .ref nA), (1, .int row), (2, .int k), (3, .int left), (4, .int (nI i))] → W p l e (headSpec (.code my_M_other mb_M_other 5 (some .int) :: gw_l) ({ frames := 2, cells := 0, slots := 0, locals := 45 })).room s m ([.ref nA, .int row, .int k] : List Value).toArray below meth c H locs 0 0 (MQ below (va_Qi (fun (r : Int32) (u : Int32) => (r, u) = fM_other gO gV vr row k) (fun u t => va_P (dC, dI) mC [(nA, .inr (5, [.int u, .ref nT, .int vs, .int va, .int vf, .int (nI vr), .ref nO, .ref nU, .ref nV, .long vw, .long vh, .long vt, .long vd, .ref nX, .ref nY, .ref nR, .ref nC, .ref nS])), (nT, .inl (cI, 300, .inl gT)), (nO, .inl (cI, 128, .inl gO)), (nU, .inl (cI, 128, .inl gU)), (nV, .inl (cI, 16, .inl gV)), (nX, .inl (cJ, 16, .inr (.inl gX))), (nY, .inl (cJ, 16, .inr (.inl gY))), (nR, .inl (cJ, 16, .inr (.inl gR))), (nC, .inl (cI, 9, .inl gC)), (nS, .inl (cI, 9, .inl gS))] t.heap) A) ([.ref nA, .int row, .int k] : List Value).toArray s 0 0 A) (F0 m 63 ls []) := by
    intro n
    induction n with
    | zero =>
      intro left i H locs ls h1 hr8 hm
      exact absurd hm (Nat.not_lt_zero _)
    | succ n ih =>
      intro left i H locs ls h1 hr8 hm hv hP hD hS hl
      refine lv_iload hx hb md_M_other_63 (lv_at hl 4 rfl) ?_
      refine lv_aload_n hx hb md_M_other_65 rfl (lv_at hl 0 rfl) ?_
      refine va_get (D := (dC, dI)) (ci := 5) (v := .int (nI vr)) (C := mR_M) (T := mT_M) (N := 18) hx hb hg gu_M hown hK hP 0 rfl rfl 5 (by decide) (hg _ wd_537) (fun _ h9 => h9) rfl md_M_other_66 ?_
      refine lv_icmp_ge (tgt := 98) hx hb md_M_other_69 (by decide) (fun c8 => ?_) (fun c8 => ?_)
      · refine lv_iconst (v := (-1)) hx hb md_M_other_98 (by decide) ?_
        exact W.iret (v := (-1)) hx hb hr (fun t ht hW => ⟨⟨(-1), (0), rfl, (by rw [hv, gM_other, if_pos c8]), by have h9 := hP; rw [← ht] at h9; exact h9⟩, hS.F ht⟩) hS.2.2 md_M_other_99 hlocks
      · have hlt : i < vr := nx_lt (by omega) (by omega) c8
        have hi8 := m8_n (r := i) (by omega)
        refine lv_aload_n hx hb md_M_other_72 rfl (lv_at hl 0 rfl) ?_
        refine lv_iload hx hb md_M_other_73 (lv_at hl 4 rfl) ?_
        refine lv_iload_n hx hb md_M_other_75 rfl (lv_at hl 1 rfl) ?_
        have hPc9 := hP.sub (ws' := [(nA, .inr (5, [.int 0, .ref nT, .int vs, .int va, .int vf, .int (nI vr), .ref nO, .ref nU, .ref nV, .long vw, .long vh, .long vt, .long vd, .ref nX, .ref nY, .ref nR, .ref nC, .ref nS])), (nT, .inl (cI, 300, .inl gT)), (nO, .inl (cI, 128, .inl gO)), (nU, .inl (cI, 128, .inl gU)), (nV, .inl (cI, 16, .inl gV)), (nX, .inl (cJ, 16, .inr (.inl gX))), (nY, .inl (cJ, 16, .inr (.inl gY))), (nR, .inl (cJ, 16, .inr (.inl gR))), (nC, .inl (cI, 9, .inl gC)), (nS, .inl (cI, 9, .inl gS))]) [0, 1, 2, 3, 4, 5, 6, 7, 8, 9] rfl
        refine pu_i (W.runV (As := [.int (nI i), .int row]) (rest := []) ⟨hx, hb, hml, hown, hg⟩ (ct_M_replaces l dC dI cC cI cJ nA nT nO nU nV nX nY nR nC nS gT gO gU gV gX gY gR gC gS 0 vs va vf (nI vr) vw vh vt vd (nI i) row (hi8.2.2.2.1 _ 0 (by decide) (by decide)) (hi8.2.2.2.1 _ 1 (by decide) (by decide)) (hi8.2.2.2.1 _ 2 (by decide) (by decide)) (hi8.2.2.2.1 _ 3 (by decide) (by decide)) (hi8.2.2.2.1 _ 4 (by decide) (by decide)) (hr8.2.2.2.1 _ 0 (by decide) (by decide)) (hr8.2.2.2.1 _ 1 (by decide) (by decide)) (hr8.2.2.2.1 _ 2 (by decide) (by decide)) (hr8.2.2.2.1 _ 3 (by decide) (by decide)) (hr8.2.2.2.1 _ 4 (by decide) (by decide)) hi8.2.1 hi8.1) (gw_cwV hg wd_652 mv_M_replaces rfl rfl ⟨Nat.le_of_ble_eq_true rfl, Nat.le_of_ble_eq_true rfl⟩) (pu_preV (ci := 5) (q0 := 0) pu_blT hK hPc9 pu_e1 rfl rfl) rfl rfl hl.1 rfl (lv_room (Nat.le_of_ble_eq_true rfl)) md_M_other_76 ⟨Nat.zero_le _, Nat.zero_le _⟩) ?_
        refine lv_if_eq (tgt := 92) hx hb md_M_other_79 (by decide) (fun c10 => ?_) (fun c10 => ?_)
        · refine lv_iinc (v := nI (i + 1)) (lv' := [(4, .int (nI (i + 1))), (0, .ref nA), (1, .int row), (2, .int k), (3, .int left)]) hx hb md_M_other_92 hl (k := 4) rfl (by rw [nI_succ]; rfl) (by decide) rfl (fun ls hl => ?_)
          refine lv_goto (tgt := 63) hx hb md_M_other_95 (by decide) ?_
          exact ih left (i + 1) _ _ ls (by omega) hr8 (by omega) (by rw [hv, gM_other, if_neg c8, if_pos c10]) hP hD hS (lv_sub hl [1, 2, 3, 4, 0] rfl)
        · refine lv_iload_n hx hb md_M_other_82 rfl (lv_at hl 3 rfl) ?_
          refine lv_if_ne (tgt := 89) hx hb md_M_other_83 (by decide) (fun c11 => ?_) (fun c11 => ?_)
          · refine lv_iinc (v := left + (-1)) (lv' := [(3, .int (left + (-1))), (0, .ref nA), (1, .int row), (2, .int k), (4, .int (nI i))]) hx hb md_M_other_89 hl (k := 3) rfl rfl (by decide) rfl (fun ls hl => ?_)
            refine lv_iinc (v := nI (i + 1)) (lv' := [(4, .int (nI (i + 1))), (3, .int (left + (-1))), (0, .ref nA), (1, .int row), (2, .int k)]) hx hb md_M_other_92 hl (k := 4) rfl (by rw [nI_succ]; rfl) (by decide) rfl (fun ls hl => ?_)
            refine lv_goto (tgt := 63) hx hb md_M_other_95 (by decide) ?_
            exact ih (left + (-1)) (i + 1) _ _ ls (by omega) hr8 (by omega) (by rw [hv, gM_other, if_neg c8, if_neg c10, if_neg c11]) hP hD hS (lv_sub hl [2, 3, 4, 1, 0] rfl)
          · refine lv_iload hx hb md_M_other_86 (lv_at hl 4 rfl) ?_
            exact W.iret (v := nI i) hx hb hr (fun t ht hW => ⟨⟨nI i, (0), rfl, (by rw [hv, gM_other, if_neg c8, if_neg c10, if_pos c11]), by have h9 := hP; rw [← ht] at h9; exact h9⟩, hS.F ht⟩) hS.2.2 md_M_other_88 hlocks
  refine lv_aload_n hx hb md_M_other_0 rfl (lv_at hl 0 rfl) ?_
  refine lv_aload_n hx hb md_M_other_1 rfl (lv_at hl 0 rfl) ?_
  refine lv_iload_n hx hb md_M_other_2 rfl (lv_at hl 1 rfl) ?_
  have hPc1 := hP.sub (ws' := [(nA, .inr (5, [.int vc, .ref nT, .int vs, .int va, .int vf, .int (nI vr), .ref nO, .ref nU, .ref nV, .long vw, .long vh, .long vt, .long vd, .ref nX, .ref nY, .ref nR, .ref nC, .ref nS])), (nT, .inl (cI, 300, .inl gT)), (nO, .inl (cI, 128, .inl gO)), (nU, .inl (cI, 128, .inl gU)), (nV, .inl (cI, 16, .inl gV)), (nX, .inl (cJ, 16, .inr (.inl gX))), (nY, .inl (cJ, 16, .inr (.inl gY))), (nR, .inl (cJ, 16, .inr (.inl gR))), (nC, .inl (cI, 9, .inl gC)), (nS, .inl (cI, 9, .inl gS))]) [0, 1, 2, 3, 4, 5, 6, 7, 8, 9] rfl
  refine pu_i (W.runV (As := [.int row]) (rest := [.ref nA]) ⟨hx, hb, hml, hown, hg⟩ (ct_M_rowCode l dC dI cC cI cJ nA nT nO nU nV nX nY nR nC nS gT gO gU gV gX gY gR gC gS vc vs va vf (nI vr) vw vh vt vd row) (gw_cwV hg wd_627 mv_M_rowCode rfl rfl ⟨Nat.le_of_ble_eq_true rfl, Nat.le_of_ble_eq_true rfl⟩) (pu_preV (ci := 5) (q0 := 0) pu_blT hK hPc1 pu_e1 rfl rfl) rfl rfl hl.1 rfl (lv_room (Nat.le_of_ble_eq_true rfl)) md_M_other_3 ⟨Nat.zero_le _, Nat.zero_le _⟩) ?_
  refine va_put (D := (dC, dI)) (ci := 5) (v := .int (fM_rowCode (nI vr) row)) (ty := .int) (C := mR_M) (T := mT_M) (N := 18) hx hb hg gu_M mF_M mO_M mN_M hown hK hP hD hS 0 rfl rfl 0 (by decide) (hg _ wd_532) (fun _ h9 => h9) rfl (by decide +kernel) rfl rfl (Nat.le_of_ble_eq_true rfl) md_M_other_6 (fun H locs hP hD hS => ?_)
  have hP : va_P (dC, dI) mC [(nA, .inr (5, [.int (fM_rowCode (nI vr) row), .ref nT, .int vs, .int va, .int vf, .int (nI vr), .ref nO, .ref nU, .ref nV, .long vw, .long vh, .long vt, .long vd, .ref nX, .ref nY, .ref nR, .ref nC, .ref nS])), (nT, .inl (cI, 300, .inl gT)), (nO, .inl (cI, 128, .inl gO)), (nU, .inl (cI, 128, .inl gU)), (nV, .inl (cI, 16, .inl gV)), (nX, .inl (cJ, 16, .inr (.inl gX))), (nY, .inl (cJ, 16, .inr (.inl gY))), (nR, .inl (cJ, 16, .inr (.inl gR))), (nC, .inl (cI, 9, .inl gC)), (nS, .inl (cI, 9, .inl gS))] H := hP
  have hD : va_D A [(nA, .inr (5, [.int (fM_rowCode (nI vr) row), .ref nT, .int vs, .int va, .int vf, .int (nI vr), .ref nO, .ref nU, .ref nV, .long vw, .long vh, .long vt, .long vd, .ref nX, .ref nY, .ref nR, .ref nC, .ref nS])), (nT, .inl (cI, 300, .inl gT)), (nO, .inl (cI, 128, .inl gO)), (nU, .inl (cI, 128, .inl gU)), (nV, .inl (cI, 16, .inl gV)), (nX, .inl (cJ, 16, .inr (.inl gX))), (nY, .inl (cJ, 16, .inr (.inl gY))), (nR, .inl (cJ, 16, .inr (.inl gR))), (nC, .inl (cI, 9, .inl gC)), (nS, .inl (cI, 9, .inl gS))] := hD
  refine lv_aload_n hx hb md_M_other_9 rfl (lv_at hl 0 rfl) ?_
  refine va_get (D := (dC, dI)) (ci := 5) (v := .int (fM_rowCode (nI vr) row)) (C := mR_M) (T := mT_M) (N := 18) hx hb hg gu_M hown hK hP 0 rfl rfl 0 (by decide) (hg _ wd_532) (fun _ h9 => h9) rfl md_M_other_10 ?_
  refine lv_if_le (tgt := 18) hx hb md_M_other_13 (by decide) (fun c2 => ?_) (fun c2 => ?_)
  · have h8 := m8_r hz (rc_ok c2).2.1 (rc_ok c2).2.2
    refine lv_aload_n hx hb md_M_other_18 rfl (lv_at hl 0 rfl) ?_
    refine lv_iload_n hx hb md_M_other_19 rfl (lv_at hl 2 rfl) ?_
    refine lv_if_ge (tgt := 27) hx hb md_M_other_20 (by decide) (fun c3 => ?_) (fun c3 => ?_)
    · refine lv_aload_n hx hb md_M_other_27 rfl (lv_at hl 0 rfl) ?_
      refine va_get (D := (dC, dI)) (ci := 5) (v := .ref nO) (C := mR_M) (T := mT_M) (N := 18) hx hb hg gu_M hown hK hP 0 rfl rfl 6 (by decide) (hg _ wd_538) (fun _ h9 => h9) rfl md_M_other_28 ?_
      refine lv_bipush (v := 8) hx hb md_M_other_31 (by decide) ?_
      refine lv_iload_n hx hb md_M_other_33 rfl (lv_at hl 1 rfl) ?_
      refine lv_imul hx hb md_M_other_34 ?_
      refine va_iald hx hb hK hP 2 1 rfl rfl h8.2.1 md_M_other_35 ?_
      refine lv_bipush (v := 104) hx hb md_M_other_36 (by decide) ?_
      refine lv_icmp_eq (tgt := 45) hx hb md_M_other_38 (by decide) (fun c4 => ?_) (fun c4 => ?_)
      · refine lv_iconst (v := 0) hx hb md_M_other_45 (by decide) ?_
        refine va_put (D := (dC, dI)) (ci := 5) (v := .int 0) (ty := .int) (C := mR_M) (T := mT_M) (N := 18) hx hb hg gu_M mF_M mO_M mN_M hown hK hP hD hS 0 rfl rfl 0 (by decide) (hg _ wd_532) (fun _ h9 => h9) rfl (by decide +kernel) rfl rfl (Nat.le_of_ble_eq_true rfl) md_M_other_46 (fun H locs hP hD hS => ?_)
        have hP : va_P (dC, dI) mC [(nA, .inr (5, [.int 0, .ref nT, .int vs, .int va, .int vf, .int (nI vr), .ref nO, .ref nU, .ref nV, .long vw, .long vh, .long vt, .long vd, .ref nX, .ref nY, .ref nR, .ref nC, .ref nS])), (nT, .inl (cI, 300, .inl gT)), (nO, .inl (cI, 128, .inl gO)), (nU, .inl (cI, 128, .inl gU)), (nV, .inl (cI, 16, .inl gV)), (nX, .inl (cJ, 16, .inr (.inl gX))), (nY, .inl (cJ, 16, .inr (.inl gY))), (nR, .inl (cJ, 16, .inr (.inl gR))), (nC, .inl (cI, 9, .inl gC)), (nS, .inl (cI, 9, .inl gS))] H := hP
        have hD : va_D A [(nA, .inr (5, [.int 0, .ref nT, .int vs, .int va, .int vf, .int (nI vr), .ref nO, .ref nU, .ref nV, .long vw, .long vh, .long vt, .long vd, .ref nX, .ref nY, .ref nR, .ref nC, .ref nS])), (nT, .inl (cI, 300, .inl gT)), (nO, .inl (cI, 128, .inl gO)), (nU, .inl (cI, 128, .inl gU)), (nV, .inl (cI, 16, .inl gV)), (nX, .inl (cJ, 16, .inr (.inl gX))), (nY, .inl (cJ, 16, .inr (.inl gY))), (nR, .inl (cJ, 16, .inr (.inl gR))), (nC, .inl (cI, 9, .inl gC)), (nS, .inl (cI, 9, .inl gS))] := hD
        refine lv_aload_n hx hb md_M_other_49 rfl (lv_at hl 0 rfl) ?_
        refine va_get (D := (dC, dI)) (ci := 5) (v := .int 0) (C := mR_M) (T := mT_M) (N := 18) hx hb hg gu_M hown hK hP 0 rfl rfl 0 (by decide) (hg _ wd_532) (fun _ h9 => h9) rfl md_M_other_50 ?_
        refine lv_if_le (tgt := 58) hx hb md_M_other_53 (by decide) (fun _ => ?_) (fun c5 => absurd (by decide) c5)
        refine lv_iload_n hx hb md_M_other_58 rfl (lv_at hl 2 rfl) ?_
        refine lv_istore_n (lv' := [(3, .int k), (0, .ref nA), (1, .int row), (2, .int k)]) hx hb md_M_other_59 rfl hl (by decide) rfl (fun ls hl => ?_)
        refine lv_iconst (v := 0) hx hb md_M_other_60 (by decide) ?_
        refine lv_istore (lv' := [(4, .int 0), (3, .int k), (0, .ref nA), (1, .int row), (2, .int k)]) hx hb md_M_other_61 hl (by decide) rfl (fun ls hl => ?_)
        exact loop (vr + 1) k 0 _ _ ls (by omega) h8 (by omega) (by rw [fM_other, if_pos c2, if_pos c3, if_pos c4]) hP hD hS (lv_sub hl [2, 3, 4, 1, 0] rfl)
      · refine lv_iconst (v := 3) hx hb md_M_other_41 (by decide) ?_
        refine lv_goto (tgt := 46) hx hb md_M_other_42 (by decide) ?_
        refine va_put (D := (dC, dI)) (ci := 5) (v := .int 3) (ty := .int) (C := mR_M) (T := mT_M) (N := 18) hx hb hg gu_M mF_M mO_M mN_M hown hK hP hD hS 0 rfl rfl 0 (by decide) (hg _ wd_532) (fun _ h9 => h9) rfl (by decide +kernel) rfl rfl (Nat.le_of_ble_eq_true rfl) md_M_other_46 (fun H locs hP hD hS => ?_)
        have hP : va_P (dC, dI) mC [(nA, .inr (5, [.int 3, .ref nT, .int vs, .int va, .int vf, .int (nI vr), .ref nO, .ref nU, .ref nV, .long vw, .long vh, .long vt, .long vd, .ref nX, .ref nY, .ref nR, .ref nC, .ref nS])), (nT, .inl (cI, 300, .inl gT)), (nO, .inl (cI, 128, .inl gO)), (nU, .inl (cI, 128, .inl gU)), (nV, .inl (cI, 16, .inl gV)), (nX, .inl (cJ, 16, .inr (.inl gX))), (nY, .inl (cJ, 16, .inr (.inl gY))), (nR, .inl (cJ, 16, .inr (.inl gR))), (nC, .inl (cI, 9, .inl gC)), (nS, .inl (cI, 9, .inl gS))] H := hP
        have hD : va_D A [(nA, .inr (5, [.int 3, .ref nT, .int vs, .int va, .int vf, .int (nI vr), .ref nO, .ref nU, .ref nV, .long vw, .long vh, .long vt, .long vd, .ref nX, .ref nY, .ref nR, .ref nC, .ref nS])), (nT, .inl (cI, 300, .inl gT)), (nO, .inl (cI, 128, .inl gO)), (nU, .inl (cI, 128, .inl gU)), (nV, .inl (cI, 16, .inl gV)), (nX, .inl (cJ, 16, .inr (.inl gX))), (nY, .inl (cJ, 16, .inr (.inl gY))), (nR, .inl (cJ, 16, .inr (.inl gR))), (nC, .inl (cI, 9, .inl gC)), (nS, .inl (cI, 9, .inl gS))] := hD
        refine lv_aload_n hx hb md_M_other_49 rfl (lv_at hl 0 rfl) ?_
        refine va_get (D := (dC, dI)) (ci := 5) (v := .int 3) (C := mR_M) (T := mT_M) (N := 18) hx hb hg gu_M hown hK hP 0 rfl rfl 0 (by decide) (hg _ wd_532) (fun _ h9 => h9) rfl md_M_other_50 ?_
        refine lv_if_le (tgt := 58) hx hb md_M_other_53 (by decide) (fun c6 => absurd c6 (by decide)) (fun _ => ?_)
        refine lv_iconst (v := 0) hx hb md_M_other_56 (by decide) ?_
        exact W.iret (v := 0) hx hb hr (fun t ht hW => ⟨⟨0, (3), rfl, (by rw [fM_other, if_pos c2, if_pos c3, if_neg c4]), by have h9 := hP; rw [← ht] at h9; exact h9⟩, hS.F ht⟩) hS.2.2 md_M_other_57 hlocks
    · refine lv_iconst (v := 2) hx hb md_M_other_23 (by decide) ?_
      refine lv_goto (tgt := 46) hx hb md_M_other_24 (by decide) ?_
      refine va_put (D := (dC, dI)) (ci := 5) (v := .int 2) (ty := .int) (C := mR_M) (T := mT_M) (N := 18) hx hb hg gu_M mF_M mO_M mN_M hown hK hP hD hS 0 rfl rfl 0 (by decide) (hg _ wd_532) (fun _ h9 => h9) rfl (by decide +kernel) rfl rfl (Nat.le_of_ble_eq_true rfl) md_M_other_46 (fun H locs hP hD hS => ?_)
      have hP : va_P (dC, dI) mC [(nA, .inr (5, [.int 2, .ref nT, .int vs, .int va, .int vf, .int (nI vr), .ref nO, .ref nU, .ref nV, .long vw, .long vh, .long vt, .long vd, .ref nX, .ref nY, .ref nR, .ref nC, .ref nS])), (nT, .inl (cI, 300, .inl gT)), (nO, .inl (cI, 128, .inl gO)), (nU, .inl (cI, 128, .inl gU)), (nV, .inl (cI, 16, .inl gV)), (nX, .inl (cJ, 16, .inr (.inl gX))), (nY, .inl (cJ, 16, .inr (.inl gY))), (nR, .inl (cJ, 16, .inr (.inl gR))), (nC, .inl (cI, 9, .inl gC)), (nS, .inl (cI, 9, .inl gS))] H := hP
      have hD : va_D A [(nA, .inr (5, [.int 2, .ref nT, .int vs, .int va, .int vf, .int (nI vr), .ref nO, .ref nU, .ref nV, .long vw, .long vh, .long vt, .long vd, .ref nX, .ref nY, .ref nR, .ref nC, .ref nS])), (nT, .inl (cI, 300, .inl gT)), (nO, .inl (cI, 128, .inl gO)), (nU, .inl (cI, 128, .inl gU)), (nV, .inl (cI, 16, .inl gV)), (nX, .inl (cJ, 16, .inr (.inl gX))), (nY, .inl (cJ, 16, .inr (.inl gY))), (nR, .inl (cJ, 16, .inr (.inl gR))), (nC, .inl (cI, 9, .inl gC)), (nS, .inl (cI, 9, .inl gS))] := hD
      refine lv_aload_n hx hb md_M_other_49 rfl (lv_at hl 0 rfl) ?_
      refine va_get (D := (dC, dI)) (ci := 5) (v := .int 2) (C := mR_M) (T := mT_M) (N := 18) hx hb hg gu_M hown hK hP 0 rfl rfl 0 (by decide) (hg _ wd_532) (fun _ h9 => h9) rfl md_M_other_50 ?_
      refine lv_if_le (tgt := 58) hx hb md_M_other_53 (by decide) (fun c7 => absurd c7 (by decide)) (fun _ => ?_)
      refine lv_iconst (v := 0) hx hb md_M_other_56 (by decide) ?_
      exact W.iret (v := 0) hx hb hr (fun t ht hW => ⟨⟨0, (2), rfl, (by rw [fM_other, if_pos c2, if_neg c3]), by have h9 := hP; rw [← ht] at h9; exact h9⟩, hS.F ht⟩) hS.2.2 md_M_other_57 hlocks
  · refine lv_iconst (v := 0) hx hb md_M_other_16 (by decide) ?_
    exact W.iret (v := 0) hx hb hr (fun t ht hW => ⟨⟨0, (fM_rowCode (nI vr) row), rfl, (by rw [fM_other, if_neg c2]), by have h9 := hP; rw [← ht] at h9; exact h9⟩, hS.F ht⟩) hS.2.2 md_M_other_17 hlocks

def fM_count (gO : Nat → Int32) (vr : Nat) (vw : Int64) (vh : Int64) (vt : Int64) (vd : Int64) : Int32 × Int32 := if (nI vr) = 0 then (0, 1) else (fM_hinges gO vr vw vh vt vd, 0)
set_option maxHeartbeats 1000000 in
set_option maxRecDepth 100000 in
theorem ct_M_count (l : Launch) (dC : Nat → ClassId) (dI : Nat → Nat → Nat) (cC cI cJ : ClassId) (nA : Nat) (nT : Nat) (nO : Nat) (nU : Nat) (nV : Nat) (nX : Nat) (nY : Nat) (nR : Nat) (nC : Nat) (nS : Nat) (gT : Nat → Int32) (gO : Nat → Int32) (gU : Nat → Int32) (gV : Nat → Int32) (gX : Nat → Int64) (gY : Nat → Int64) (gR : Nat → Int64) (gC : Nat → Int32) (gS : Nat → Int32) (vc : Int32) (vs : Int32) (va : Int32) (vf : Int32) (vr : Nat) (vw : Int64) (vh : Int64) (vt : Int64) (vd : Int64)   (hz : vr ≤ 16) : Met l my_M_count (.code my_M_count mb_M_count 1 (some .int) :: gw_l) ({ frames := 2, cells := 0, slots := 0, locals := 45 }) (mu_Pc (dC, dI) mC [(cC, .char), (cI, .int), (cJ, .long)] [(nA, .inr (5, [.int vc, .ref nT, .int vs, .int va, .int vf, .int (nI vr), .ref nO, .ref nU, .ref nV, .long vw, .long vh, .long vt, .long vd, .ref nX, .ref nY, .ref nR, .ref nC, .ref nS])), (nT, .inl (cI, 300, .inl gT)), (nO, .inl (cI, 128, .inl gO)), (nU, .inl (cI, 128, .inl gU)), (nV, .inl (cI, 16, .inl gV)), (nX, .inl (cJ, 16, .inr (.inl gX))), (nY, .inl (cJ, 16, .inr (.inl gY))), (nR, .inl (cJ, 16, .inr (.inl gR))), (nC, .inl (cI, 9, .inl gC)), (nS, .inl (cI, 9, .inl gS))] (fun _ => True) [.ref nA]) (va_Qi (fun (r : Int32) (u : Int32) => (r, u) = fM_count gO vr vw vh vt vd) (fun u t => va_P (dC, dI) mC [(nA, .inr (5, [.int u, .ref nT, .int vs, .int va, .int vf, .int (nI vr), .ref nO, .ref nU, .ref nV, .long vw, .long vh, .long vt, .long vd, .ref nX, .ref nY, .ref nR, .ref nC, .ref nS])), (nT, .inl (cI, 300, .inl gT)), (nO, .inl (cI, 128, .inl gO)), (nU, .inl (cI, 128, .inl gU)), (nV, .inl (cI, 16, .inl gV)), (nX, .inl (cJ, 16, .inr (.inl gX))), (nY, .inl (cJ, 16, .inr (.inl gY))), (nR, .inl (cJ, 16, .inr (.inl gR))), (nC, .inl (cI, 9, .inl gC)), (nS, .inl (cI, 9, .inl gS))] t.heap) (mu_A [(nA, .inr (5, [.int vc, .ref nT, .int vs, .int va, .int vf, .int (nI vr), .ref nO, .ref nU, .ref nV, .long vw, .long vh, .long vt, .long vd, .ref nX, .ref nY, .ref nR, .ref nC, .ref nS])), (nT, .inl (cI, 300, .inl gT)), (nO, .inl (cI, 128, .inl gO)), (nU, .inl (cI, 128, .inl gU)), (nV, .inl (cI, 16, .inl gV)), (nX, .inl (cJ, 16, .inr (.inl gX))), (nY, .inl (cJ, 16, .inr (.inl gY))), (nR, .inl (cJ, 16, .inr (.inl gR))), (nC, .inl (cI, 9, .inl gC)), (nS, .inl (cI, 9, .inl gS))])) 0 0 (mu_A [(nA, .inr (5, [.int vc, .ref nT, .int vs, .int va, .int vf, .int (nI vr), .ref nO, .ref nU, .ref nV, .long vw, .long vh, .long vt, .long vd, .ref nX, .ref nY, .ref nR, .ref nC, .ref nS])), (nT, .inl (cI, 300, .inl gT)), (nO, .inl (cI, 128, .inl gO)), (nU, .inl (cI, 128, .inl gU)), (nV, .inl (cI, 16, .inl gV)), (nX, .inl (cJ, 16, .inr (.inl gX))), (nY, .inl (cJ, 16, .inr (.inl gY))), (nR, .inl (cJ, 16, .inr (.inl gR))), (nC, .inl (cI, 9, .inl gC)), (nS, .inl (cI, 9, .inl gS))]) := by
  refine Met.ofW (cc := mb_M_count) (maxL := 1) (ret := (some .int)) (by decide) rfl ?_
  intro p e s m args below meth c s₁ B hml hv
  obtain ⟨rfl, hP, hK, hD0, hE⟩ := hv
  have hx := B.exec
  have hb := B.bytes
  have hr := B.returns
  have hts := atoms_spec (ws := (.code my_M_count mb_M_count 1 (some .int) :: gw_l)) B.pre
  have hg : ∀ w ∈ gw_l, w.before _ s = true := fun w h => hts w (List.mem_cons_of_mem _ h)
  have hown : s.vm.findClass mR_M = some m.cls := findClass_of_methodNamed B.named
  have hlocks := B.notSynchronized
  have hD := mu_self hD0
  have hS : va_S (mu_A [(nA, .inr (5, [.int vc, .ref nT, .int vs, .int va, .int vf, .int (nI vr), .ref nO, .ref nU, .ref nV, .long vw, .long vh, .long vt, .long vd, .ref nX, .ref nY, .ref nR, .ref nC, .ref nS])), (nT, .inl (cI, 300, .inl gT)), (nO, .inl (cI, 128, .inl gO)), (nU, .inl (cI, 128, .inl gU)), (nV, .inl (cI, 16, .inl gV)), (nX, .inl (cJ, 16, .inr (.inl gX))), (nY, .inl (cJ, 16, .inr (.inl gY))), (nR, .inl (cJ, 16, .inr (.inl gR))), (nC, .inl (cI, 9, .inl gC)), (nS, .inl (cI, 9, .inl gS))]) s.heap s.heap [] := va_S.rf
  generalize hAe : mu_A [(nA, .inr (5, [.int vc, .ref nT, .int vs, .int va, .int vf, .int (nI vr), .ref nO, .ref nU, .ref nV, .long vw, .long vh, .long vt, .long vd, .ref nX, .ref nY, .ref nR, .ref nC, .ref nS])), (nT, .inl (cI, 300, .inl gT)), (nO, .inl (cI, 128, .inl gO)), (nU, .inl (cI, 128, .inl gU)), (nV, .inl (cI, 16, .inl gV)), (nX, .inl (cJ, 16, .inr (.inl gX))), (nY, .inl (cJ, 16, .inr (.inl gY))), (nR, .inl (cJ, 16, .inr (.inl gR))), (nC, .inl (cI, 9, .inl gC)), (nS, .inl (cI, 9, .inl gS))] = A at hD hS ⊢
  have hl := lv_entry ([.ref nA]) (n := 1) (Nat.le_of_ble_eq_true rfl)
  rw [lg_entry_eq]
  generalize (lg_sl ([.ref nA]) ++ List.replicate (1 - (lg_sl ([.ref nA])).length) Slot.unset).toArray = ls at hl ⊢
  have hl : lv_has ls 1 [(0, .ref nA)] := hl
  refine lv_aload_n hx hb md_M_count_0 rfl (lv_at hl 0 rfl) ?_
  refine lv_aload_n hx hb md_M_count_1 rfl (lv_at hl 0 rfl) ?_
  refine va_get (D := (dC, dI)) (ci := 5) (v := .int (nI vr)) (C := mR_M) (T := mT_M) (N := 18) hx hb hg gu_M hown hK hP 0 rfl rfl 5 (by decide) (hg _ wd_537) (fun _ h9 => h9) rfl md_M_count_2 ?_
  refine lv_if_ne (tgt := 12) hx hb md_M_count_5 (by decide) (fun c1 => ?_) (fun c1 => ?_)
  · refine lv_iconst (v := 0) hx hb md_M_count_12 (by decide) ?_
    refine va_put (D := (dC, dI)) (ci := 5) (v := .int 0) (ty := .int) (C := mR_M) (T := mT_M) (N := 18) hx hb hg gu_M mF_M mO_M mN_M hown hK hP hD hS 0 rfl rfl 0 (by decide) (hg _ wd_532) (fun _ h9 => h9) rfl (by decide +kernel) rfl rfl (Nat.le_of_ble_eq_true rfl) md_M_count_13 (fun H locs hP hD hS => ?_)
    have hP : va_P (dC, dI) mC [(nA, .inr (5, [.int 0, .ref nT, .int vs, .int va, .int vf, .int (nI vr), .ref nO, .ref nU, .ref nV, .long vw, .long vh, .long vt, .long vd, .ref nX, .ref nY, .ref nR, .ref nC, .ref nS])), (nT, .inl (cI, 300, .inl gT)), (nO, .inl (cI, 128, .inl gO)), (nU, .inl (cI, 128, .inl gU)), (nV, .inl (cI, 16, .inl gV)), (nX, .inl (cJ, 16, .inr (.inl gX))), (nY, .inl (cJ, 16, .inr (.inl gY))), (nR, .inl (cJ, 16, .inr (.inl gR))), (nC, .inl (cI, 9, .inl gC)), (nS, .inl (cI, 9, .inl gS))] H := hP
    have hD : va_D A [(nA, .inr (5, [.int 0, .ref nT, .int vs, .int va, .int vf, .int (nI vr), .ref nO, .ref nU, .ref nV, .long vw, .long vh, .long vt, .long vd, .ref nX, .ref nY, .ref nR, .ref nC, .ref nS])), (nT, .inl (cI, 300, .inl gT)), (nO, .inl (cI, 128, .inl gO)), (nU, .inl (cI, 128, .inl gU)), (nV, .inl (cI, 16, .inl gV)), (nX, .inl (cJ, 16, .inr (.inl gX))), (nY, .inl (cJ, 16, .inr (.inl gY))), (nR, .inl (cJ, 16, .inr (.inl gR))), (nC, .inl (cI, 9, .inl gC)), (nS, .inl (cI, 9, .inl gS))] := hD
    refine lv_aload_n hx hb md_M_count_16 rfl (lv_at hl 0 rfl) ?_
    refine va_get (D := (dC, dI)) (ci := 5) (v := .int 0) (C := mR_M) (T := mT_M) (N := 18) hx hb hg gu_M hown hK hP 0 rfl rfl 0 (by decide) (hg _ wd_532) (fun _ h9 => h9) rfl md_M_count_17 ?_
    refine lv_if_le (tgt := 27) hx hb md_M_count_20 (by decide) (fun _ => ?_) (fun c2 => absurd (by decide) c2)
    refine lv_aload_n hx hb md_M_count_27 rfl (lv_at hl 0 rfl) ?_
    have hPc3 := hP.sub (ws' := [(nA, .inr (5, [.int 0, .ref nT, .int vs, .int va, .int vf, .int (nI vr), .ref nO, .ref nU, .ref nV, .long vw, .long vh, .long vt, .long vd, .ref nX, .ref nY, .ref nR, .ref nC, .ref nS])), (nT, .inl (cI, 300, .inl gT)), (nO, .inl (cI, 128, .inl gO)), (nU, .inl (cI, 128, .inl gU)), (nV, .inl (cI, 16, .inl gV)), (nX, .inl (cJ, 16, .inr (.inl gX))), (nY, .inl (cJ, 16, .inr (.inl gY))), (nR, .inl (cJ, 16, .inr (.inl gR))), (nC, .inl (cI, 9, .inl gC)), (nS, .inl (cI, 9, .inl gS))]) [0, 1, 2, 3, 4, 5, 6, 7, 8, 9] rfl
    refine pu_i (W.runV (As := []) (rest := []) ⟨hx, hb, hml, hown, hg⟩ (ct_M_hinges l dC dI cC cI cJ nA nT nO nU nV nX nY nR nC nS gT gO gU gV gX gY gR gC gS 0 vs va vf vr vw vh vt vd hz) (gw_cwV hg wd_684 mv_M_hinges rfl rfl ⟨Nat.le_of_ble_eq_true rfl, Nat.le_of_ble_eq_true rfl⟩) (pu_preV (ci := 5) (q0 := 0) pu_blT hK hPc3 pu_e1 rfl rfl) rfl rfl hl.1 rfl (lv_room (Nat.le_of_ble_eq_true rfl)) md_M_count_28 ⟨Nat.zero_le _, Nat.zero_le _⟩) ?_
    exact W.iret (v := fM_hinges gO vr vw vh vt vd) hx hb hr (fun t ht hW => ⟨⟨fM_hinges gO vr vw vh vt vd, (0), rfl, (by rw [fM_count, if_neg c1]), by have h9 := hP; rw [← ht] at h9; exact h9⟩, hS.F ht⟩) hS.2.2 md_M_count_31 hlocks
  · refine lv_iconst (v := 1) hx hb md_M_count_8 (by decide) ?_
    refine lv_goto (tgt := 13) hx hb md_M_count_9 (by decide) ?_
    refine va_put (D := (dC, dI)) (ci := 5) (v := .int 1) (ty := .int) (C := mR_M) (T := mT_M) (N := 18) hx hb hg gu_M mF_M mO_M mN_M hown hK hP hD hS 0 rfl rfl 0 (by decide) (hg _ wd_532) (fun _ h9 => h9) rfl (by decide +kernel) rfl rfl (Nat.le_of_ble_eq_true rfl) md_M_count_13 (fun H locs hP hD hS => ?_)
    have hP : va_P (dC, dI) mC [(nA, .inr (5, [.int 1, .ref nT, .int vs, .int va, .int vf, .int (nI vr), .ref nO, .ref nU, .ref nV, .long vw, .long vh, .long vt, .long vd, .ref nX, .ref nY, .ref nR, .ref nC, .ref nS])), (nT, .inl (cI, 300, .inl gT)), (nO, .inl (cI, 128, .inl gO)), (nU, .inl (cI, 128, .inl gU)), (nV, .inl (cI, 16, .inl gV)), (nX, .inl (cJ, 16, .inr (.inl gX))), (nY, .inl (cJ, 16, .inr (.inl gY))), (nR, .inl (cJ, 16, .inr (.inl gR))), (nC, .inl (cI, 9, .inl gC)), (nS, .inl (cI, 9, .inl gS))] H := hP
    have hD : va_D A [(nA, .inr (5, [.int 1, .ref nT, .int vs, .int va, .int vf, .int (nI vr), .ref nO, .ref nU, .ref nV, .long vw, .long vh, .long vt, .long vd, .ref nX, .ref nY, .ref nR, .ref nC, .ref nS])), (nT, .inl (cI, 300, .inl gT)), (nO, .inl (cI, 128, .inl gO)), (nU, .inl (cI, 128, .inl gU)), (nV, .inl (cI, 16, .inl gV)), (nX, .inl (cJ, 16, .inr (.inl gX))), (nY, .inl (cJ, 16, .inr (.inl gY))), (nR, .inl (cJ, 16, .inr (.inl gR))), (nC, .inl (cI, 9, .inl gC)), (nS, .inl (cI, 9, .inl gS))] := hD
    refine lv_aload_n hx hb md_M_count_16 rfl (lv_at hl 0 rfl) ?_
    refine va_get (D := (dC, dI)) (ci := 5) (v := .int 1) (C := mR_M) (T := mT_M) (N := 18) hx hb hg gu_M hown hK hP 0 rfl rfl 0 (by decide) (hg _ wd_532) (fun _ h9 => h9) rfl md_M_count_17 ?_
    refine lv_if_le (tgt := 27) hx hb md_M_count_20 (by decide) (fun c4 => absurd c4 (by decide)) (fun _ => ?_)
    refine lv_iconst (v := 0) hx hb md_M_count_23 (by decide) ?_
    refine lv_goto (tgt := 31) hx hb md_M_count_24 (by decide) ?_
    exact W.iret (v := 0) hx hb hr (fun t ht hW => ⟨⟨0, (1), rfl, (by rw [fM_count, if_pos c1]), by have h9 := hP; rw [← ht] at h9; exact h9⟩, hS.F ht⟩) hS.2.2 md_M_count_31 hlocks

def fM_weight (vw : Int64) (vh : Int64) (vt : Int64) (vd : Int64) (part : Int32) : Int64 × Int32 := if part < 0 then (0, 1) else (if part ≤ 1 then (if part = 0 then ((fM_grams vw vh vt vd) / (fM_common (fM_grams vw vh vt vd) 1000000), 0) else (1000000 / (fM_common (fM_grams vw vh vt vd) 1000000), 0)) else (0, 1))
set_option maxHeartbeats 1000000 in
set_option maxRecDepth 100000 in
theorem ct_M_weight (l : Launch) (dC : Nat → ClassId) (dI : Nat → Nat → Nat) (cC cI cJ : ClassId) (nA : Nat) (nT : Nat) (nO : Nat) (nU : Nat) (nV : Nat) (nX : Nat) (nY : Nat) (nR : Nat) (nC : Nat) (nS : Nat) (gT : Nat → Int32) (gO : Nat → Int32) (gU : Nat → Int32) (gV : Nat → Int32) (gX : Nat → Int64) (gY : Nat → Int64) (gR : Nat → Int64) (gC : Nat → Int32) (gS : Nat → Int32) (vc : Int32) (vs : Int32) (va : Int32) (vf : Int32) (vr : Int32) (vw : Int64) (vh : Int64) (vt : Int64) (vd : Int64) (part : Int32)  (hg0 : ¬ fM_grams vw vh vt vd < 0) (hg1 : ¬ fM_common (fM_grams vw vh vt vd) 1000000 = 0) : Met l my_M_weight (.code my_M_weight mb_M_weight 2 (some .long) :: gw_l) ({ frames := 1, cells := 0, slots := 0, locals := 29 }) (mu_Pc (dC, dI) mC [(cC, .char), (cI, .int), (cJ, .long)] [(nA, .inr (5, [.int vc, .ref nT, .int vs, .int va, .int vf, .int vr, .ref nO, .ref nU, .ref nV, .long vw, .long vh, .long vt, .long vd, .ref nX, .ref nY, .ref nR, .ref nC, .ref nS])), (nT, .inl (cI, 300, .inl gT)), (nO, .inl (cI, 128, .inl gO)), (nU, .inl (cI, 128, .inl gU)), (nV, .inl (cI, 16, .inl gV)), (nX, .inl (cJ, 16, .inr (.inl gX))), (nY, .inl (cJ, 16, .inr (.inl gY))), (nR, .inl (cJ, 16, .inr (.inl gR))), (nC, .inl (cI, 9, .inl gC)), (nS, .inl (cI, 9, .inl gS))] (fun _ => True) [.ref nA, .int part]) (va_Ql (fun (r : Int64) (u : Int32) => (r, u) = fM_weight vw vh vt vd part) (fun u t => va_P (dC, dI) mC [(nA, .inr (5, [.int u, .ref nT, .int vs, .int va, .int vf, .int vr, .ref nO, .ref nU, .ref nV, .long vw, .long vh, .long vt, .long vd, .ref nX, .ref nY, .ref nR, .ref nC, .ref nS])), (nT, .inl (cI, 300, .inl gT)), (nO, .inl (cI, 128, .inl gO)), (nU, .inl (cI, 128, .inl gU)), (nV, .inl (cI, 16, .inl gV)), (nX, .inl (cJ, 16, .inr (.inl gX))), (nY, .inl (cJ, 16, .inr (.inl gY))), (nR, .inl (cJ, 16, .inr (.inl gR))), (nC, .inl (cI, 9, .inl gC)), (nS, .inl (cI, 9, .inl gS))] t.heap) (mu_A [(nA, .inr (5, [.int vc, .ref nT, .int vs, .int va, .int vf, .int vr, .ref nO, .ref nU, .ref nV, .long vw, .long vh, .long vt, .long vd, .ref nX, .ref nY, .ref nR, .ref nC, .ref nS])), (nT, .inl (cI, 300, .inl gT)), (nO, .inl (cI, 128, .inl gO)), (nU, .inl (cI, 128, .inl gU)), (nV, .inl (cI, 16, .inl gV)), (nX, .inl (cJ, 16, .inr (.inl gX))), (nY, .inl (cJ, 16, .inr (.inl gY))), (nR, .inl (cJ, 16, .inr (.inl gR))), (nC, .inl (cI, 9, .inl gC)), (nS, .inl (cI, 9, .inl gS))])) 0 0 (mu_A [(nA, .inr (5, [.int vc, .ref nT, .int vs, .int va, .int vf, .int vr, .ref nO, .ref nU, .ref nV, .long vw, .long vh, .long vt, .long vd, .ref nX, .ref nY, .ref nR, .ref nC, .ref nS])), (nT, .inl (cI, 300, .inl gT)), (nO, .inl (cI, 128, .inl gO)), (nU, .inl (cI, 128, .inl gU)), (nV, .inl (cI, 16, .inl gV)), (nX, .inl (cJ, 16, .inr (.inl gX))), (nY, .inl (cJ, 16, .inr (.inl gY))), (nR, .inl (cJ, 16, .inr (.inl gR))), (nC, .inl (cI, 9, .inl gC)), (nS, .inl (cI, 9, .inl gS))]) := by
  refine Met.ofW (cc := mb_M_weight) (maxL := 2) (ret := (some .long)) (by decide) rfl ?_
  intro p e s m args below meth c s₁ B hml hv
  obtain ⟨rfl, hP, hK, hD0, hE⟩ := hv
  have hx := B.exec
  have hb := B.bytes
  have hr := B.returns
  have hts := atoms_spec (ws := (.code my_M_weight mb_M_weight 2 (some .long) :: gw_l)) B.pre
  have hg : ∀ w ∈ gw_l, w.before _ s = true := fun w h => hts w (List.mem_cons_of_mem _ h)
  have hown : s.vm.findClass mR_M = some m.cls := findClass_of_methodNamed B.named
  have hlocks := B.notSynchronized
  have hD := mu_self hD0
  have hS : va_S (mu_A [(nA, .inr (5, [.int vc, .ref nT, .int vs, .int va, .int vf, .int vr, .ref nO, .ref nU, .ref nV, .long vw, .long vh, .long vt, .long vd, .ref nX, .ref nY, .ref nR, .ref nC, .ref nS])), (nT, .inl (cI, 300, .inl gT)), (nO, .inl (cI, 128, .inl gO)), (nU, .inl (cI, 128, .inl gU)), (nV, .inl (cI, 16, .inl gV)), (nX, .inl (cJ, 16, .inr (.inl gX))), (nY, .inl (cJ, 16, .inr (.inl gY))), (nR, .inl (cJ, 16, .inr (.inl gR))), (nC, .inl (cI, 9, .inl gC)), (nS, .inl (cI, 9, .inl gS))]) s.heap s.heap [] := va_S.rf
  generalize hAe : mu_A [(nA, .inr (5, [.int vc, .ref nT, .int vs, .int va, .int vf, .int vr, .ref nO, .ref nU, .ref nV, .long vw, .long vh, .long vt, .long vd, .ref nX, .ref nY, .ref nR, .ref nC, .ref nS])), (nT, .inl (cI, 300, .inl gT)), (nO, .inl (cI, 128, .inl gO)), (nU, .inl (cI, 128, .inl gU)), (nV, .inl (cI, 16, .inl gV)), (nX, .inl (cJ, 16, .inr (.inl gX))), (nY, .inl (cJ, 16, .inr (.inl gY))), (nR, .inl (cJ, 16, .inr (.inl gR))), (nC, .inl (cI, 9, .inl gC)), (nS, .inl (cI, 9, .inl gS))] = A at hD hS ⊢
  have hl := lv_entry ([.ref nA, .int part]) (n := 2) (Nat.le_of_ble_eq_true rfl)
  rw [lg_entry_eq]
  generalize (lg_sl ([.ref nA, .int part]) ++ List.replicate (2 - (lg_sl ([.ref nA, .int part])).length) Slot.unset).toArray = ls at hl ⊢
  have hl : lv_has ls 2 [(0, .ref nA), (1, .int part)] := hl
  refine lv_aload_n hx hb md_M_weight_0 rfl (lv_at hl 0 rfl) ?_
  refine lv_iload_n hx hb md_M_weight_1 rfl (lv_at hl 1 rfl) ?_
  refine lv_if_lt (tgt := 10) hx hb md_M_weight_2 (by decide) (fun c1 => ?_) (fun c1 => ?_)
  · refine lv_iconst (v := 1) hx hb md_M_weight_10 (by decide) ?_
    refine lv_goto (tgt := 15) hx hb md_M_weight_11 (by decide) ?_
    refine va_put (D := (dC, dI)) (ci := 5) (v := .int 1) (ty := .int) (C := mR_M) (T := mT_M) (N := 18) hx hb hg gu_M mF_M mO_M mN_M hown hK hP hD hS 0 rfl rfl 0 (by decide) (hg _ wd_532) (fun _ h9 => h9) rfl (by decide +kernel) rfl rfl (Nat.le_of_ble_eq_true rfl) md_M_weight_15 (fun H locs hP hD hS => ?_)
    have hP : va_P (dC, dI) mC [(nA, .inr (5, [.int 1, .ref nT, .int vs, .int va, .int vf, .int vr, .ref nO, .ref nU, .ref nV, .long vw, .long vh, .long vt, .long vd, .ref nX, .ref nY, .ref nR, .ref nC, .ref nS])), (nT, .inl (cI, 300, .inl gT)), (nO, .inl (cI, 128, .inl gO)), (nU, .inl (cI, 128, .inl gU)), (nV, .inl (cI, 16, .inl gV)), (nX, .inl (cJ, 16, .inr (.inl gX))), (nY, .inl (cJ, 16, .inr (.inl gY))), (nR, .inl (cJ, 16, .inr (.inl gR))), (nC, .inl (cI, 9, .inl gC)), (nS, .inl (cI, 9, .inl gS))] H := hP
    have hD : va_D A [(nA, .inr (5, [.int 1, .ref nT, .int vs, .int va, .int vf, .int vr, .ref nO, .ref nU, .ref nV, .long vw, .long vh, .long vt, .long vd, .ref nX, .ref nY, .ref nR, .ref nC, .ref nS])), (nT, .inl (cI, 300, .inl gT)), (nO, .inl (cI, 128, .inl gO)), (nU, .inl (cI, 128, .inl gU)), (nV, .inl (cI, 16, .inl gV)), (nX, .inl (cJ, 16, .inr (.inl gX))), (nY, .inl (cJ, 16, .inr (.inl gY))), (nR, .inl (cJ, 16, .inr (.inl gR))), (nC, .inl (cI, 9, .inl gC)), (nS, .inl (cI, 9, .inl gS))] := hD
    refine lv_aload_n hx hb md_M_weight_18 rfl (lv_at hl 0 rfl) ?_
    refine va_get (D := (dC, dI)) (ci := 5) (v := .int 1) (C := mR_M) (T := mT_M) (N := 18) hx hb hg gu_M hown hK hP 0 rfl rfl 0 (by decide) (hg _ wd_532) (fun _ h9 => h9) rfl md_M_weight_19 ?_
    refine lv_if_le (tgt := 29) hx hb md_M_weight_22 (by decide) (fun c2 => absurd c2 (by decide)) (fun _ => ?_)
    refine lv_lconst (v := 0) hx hb md_M_weight_25 (by decide) ?_
    refine lv_goto (tgt := 54) hx hb md_M_weight_26 (by decide) ?_
    exact W.lret (v := 0) hx hb hr (fun t ht hW => ⟨⟨0, (1), rfl, (by rw [fM_weight, if_pos c1]), by have h9 := hP; rw [← ht] at h9; exact h9⟩, hS.F ht⟩) hS.2.2 md_M_weight_54 hlocks
  · refine lv_iload_n hx hb md_M_weight_5 rfl (lv_at hl 1 rfl) ?_
    refine lv_iconst (v := 1) hx hb md_M_weight_6 (by decide) ?_
    refine lv_icmp_le (tgt := 14) hx hb md_M_weight_7 (by decide) (fun c3 => ?_) (fun c3 => ?_)
    · refine lv_iconst (v := 0) hx hb md_M_weight_14 (by decide) ?_
      refine va_put (D := (dC, dI)) (ci := 5) (v := .int 0) (ty := .int) (C := mR_M) (T := mT_M) (N := 18) hx hb hg gu_M mF_M mO_M mN_M hown hK hP hD hS 0 rfl rfl 0 (by decide) (hg _ wd_532) (fun _ h9 => h9) rfl (by decide +kernel) rfl rfl (Nat.le_of_ble_eq_true rfl) md_M_weight_15 (fun H locs hP hD hS => ?_)
      have hP : va_P (dC, dI) mC [(nA, .inr (5, [.int 0, .ref nT, .int vs, .int va, .int vf, .int vr, .ref nO, .ref nU, .ref nV, .long vw, .long vh, .long vt, .long vd, .ref nX, .ref nY, .ref nR, .ref nC, .ref nS])), (nT, .inl (cI, 300, .inl gT)), (nO, .inl (cI, 128, .inl gO)), (nU, .inl (cI, 128, .inl gU)), (nV, .inl (cI, 16, .inl gV)), (nX, .inl (cJ, 16, .inr (.inl gX))), (nY, .inl (cJ, 16, .inr (.inl gY))), (nR, .inl (cJ, 16, .inr (.inl gR))), (nC, .inl (cI, 9, .inl gC)), (nS, .inl (cI, 9, .inl gS))] H := hP
      have hD : va_D A [(nA, .inr (5, [.int 0, .ref nT, .int vs, .int va, .int vf, .int vr, .ref nO, .ref nU, .ref nV, .long vw, .long vh, .long vt, .long vd, .ref nX, .ref nY, .ref nR, .ref nC, .ref nS])), (nT, .inl (cI, 300, .inl gT)), (nO, .inl (cI, 128, .inl gO)), (nU, .inl (cI, 128, .inl gU)), (nV, .inl (cI, 16, .inl gV)), (nX, .inl (cJ, 16, .inr (.inl gX))), (nY, .inl (cJ, 16, .inr (.inl gY))), (nR, .inl (cJ, 16, .inr (.inl gR))), (nC, .inl (cI, 9, .inl gC)), (nS, .inl (cI, 9, .inl gS))] := hD
      refine lv_aload_n hx hb md_M_weight_18 rfl (lv_at hl 0 rfl) ?_
      refine va_get (D := (dC, dI)) (ci := 5) (v := .int 0) (C := mR_M) (T := mT_M) (N := 18) hx hb hg gu_M hown hK hP 0 rfl rfl 0 (by decide) (hg _ wd_532) (fun _ h9 => h9) rfl md_M_weight_19 ?_
      refine lv_if_le (tgt := 29) hx hb md_M_weight_22 (by decide) (fun _ => ?_) (fun c4 => absurd (by decide) c4)
      refine lv_iload_n hx hb md_M_weight_29 rfl (lv_at hl 1 rfl) ?_
      refine lv_if_ne (tgt := 40) hx hb md_M_weight_30 (by decide) (fun c5 => ?_) (fun c5 => ?_)
      · refine lv_ldc2 hx hb hown (hg _ wd_676) md_M_weight_40 ?_
        refine lv_aload_n hx hb md_M_weight_43 rfl (lv_at hl 0 rfl) ?_
        have hPc6 := hP.sub (ws' := [(nA, .inr (5, [.int 0, .ref nT, .int vs, .int va, .int vf, .int vr, .ref nO, .ref nU, .ref nV, .long vw, .long vh, .long vt, .long vd, .ref nX, .ref nY, .ref nR, .ref nC, .ref nS])), (nT, .inl (cI, 300, .inl gT)), (nO, .inl (cI, 128, .inl gO)), (nU, .inl (cI, 128, .inl gU)), (nV, .inl (cI, 16, .inl gV)), (nX, .inl (cJ, 16, .inr (.inl gX))), (nY, .inl (cJ, 16, .inr (.inl gY))), (nR, .inl (cJ, 16, .inr (.inl gR))), (nC, .inl (cI, 9, .inl gC)), (nS, .inl (cI, 9, .inl gS))]) [0, 1, 2, 3, 4, 5, 6, 7, 8, 9] rfl
        refine pu_l (W.runV (As := []) (rest := [.long 1000000]) ⟨hx, hb, hml, hown, hg⟩ (ct_M_grams l dC dI cC cI cJ nA nT nO nU nV nX nY nR nC nS gT gO gU gV gX gY gR gC gS 0 vs va vf vr vw vh vt vd) (gw_cwV hg wd_672 mv_M_grams rfl rfl ⟨Nat.le_of_ble_eq_true rfl, Nat.le_of_ble_eq_true rfl⟩) (pu_preV (ci := 5) (q0 := 0) pu_blT hK hPc6 pu_e1 rfl rfl) rfl rfl hl.1 rfl (lv_room (Nat.le_of_ble_eq_true rfl)) md_M_weight_44 ⟨Nat.zero_le _, Nat.zero_le _⟩) ?_
        refine lv_ldc2 hx hb hown (hg _ wd_676) md_M_weight_47 ?_
        have hPc7 := hP.sub (ws' := []) [] rfl
        refine pu_l (W.runS (As := [.long (fM_grams vw vh vt vd), .long 1000000]) (rest := [.long 1000000]) ⟨hx, hb, hml, hown, hg⟩ (ct_M_common l dC dI cC cI cJ (fM_grams vw vh vt vd) 1000000 hg0 (by decide)) (gw_cwS hg wd_677 mv_M_common rfl rfl ⟨Nat.le_of_ble_eq_true rfl, Nat.le_of_ble_eq_true rfl⟩) (pu_preS pu_blT hK hPc7 pu_e1) rfl rfl hl.1 rfl (lv_room (Nat.le_of_ble_eq_true rfl)) md_M_weight_50 ⟨Nat.zero_le _, Nat.zero_le _⟩) ?_
        refine lv_ldiv hx hb md_M_weight_53 hg1 ?_
        exact W.lret (v := 1000000 / (fM_common (fM_grams vw vh vt vd) 1000000)) hx hb hr (fun t ht hW => ⟨⟨1000000 / (fM_common (fM_grams vw vh vt vd) 1000000), (0), rfl, (by rw [fM_weight, if_neg c1, if_pos c3, if_neg c5]), by have h9 := hP; rw [← ht] at h9; exact h9⟩, hS.F ht⟩) hS.2.2 md_M_weight_54 hlocks
      · refine lv_aload_n hx hb md_M_weight_33 rfl (lv_at hl 0 rfl) ?_
        have hPc8 := hP.sub (ws' := [(nA, .inr (5, [.int 0, .ref nT, .int vs, .int va, .int vf, .int vr, .ref nO, .ref nU, .ref nV, .long vw, .long vh, .long vt, .long vd, .ref nX, .ref nY, .ref nR, .ref nC, .ref nS])), (nT, .inl (cI, 300, .inl gT)), (nO, .inl (cI, 128, .inl gO)), (nU, .inl (cI, 128, .inl gU)), (nV, .inl (cI, 16, .inl gV)), (nX, .inl (cJ, 16, .inr (.inl gX))), (nY, .inl (cJ, 16, .inr (.inl gY))), (nR, .inl (cJ, 16, .inr (.inl gR))), (nC, .inl (cI, 9, .inl gC)), (nS, .inl (cI, 9, .inl gS))]) [0, 1, 2, 3, 4, 5, 6, 7, 8, 9] rfl
        refine pu_l (W.runV (As := []) (rest := []) ⟨hx, hb, hml, hown, hg⟩ (ct_M_grams l dC dI cC cI cJ nA nT nO nU nV nX nY nR nC nS gT gO gU gV gX gY gR gC gS 0 vs va vf vr vw vh vt vd) (gw_cwV hg wd_672 mv_M_grams rfl rfl ⟨Nat.le_of_ble_eq_true rfl, Nat.le_of_ble_eq_true rfl⟩) (pu_preV (ci := 5) (q0 := 0) pu_blT hK hPc8 pu_e1 rfl rfl) rfl rfl hl.1 rfl (lv_room (Nat.le_of_ble_eq_true rfl)) md_M_weight_34 ⟨Nat.zero_le _, Nat.zero_le _⟩) ?_
        refine lv_goto (tgt := 43) hx hb md_M_weight_37 (by decide) ?_
        refine lv_aload_n hx hb md_M_weight_43 rfl (lv_at hl 0 rfl) ?_
        have hPc9 := hP.sub (ws' := [(nA, .inr (5, [.int 0, .ref nT, .int vs, .int va, .int vf, .int vr, .ref nO, .ref nU, .ref nV, .long vw, .long vh, .long vt, .long vd, .ref nX, .ref nY, .ref nR, .ref nC, .ref nS])), (nT, .inl (cI, 300, .inl gT)), (nO, .inl (cI, 128, .inl gO)), (nU, .inl (cI, 128, .inl gU)), (nV, .inl (cI, 16, .inl gV)), (nX, .inl (cJ, 16, .inr (.inl gX))), (nY, .inl (cJ, 16, .inr (.inl gY))), (nR, .inl (cJ, 16, .inr (.inl gR))), (nC, .inl (cI, 9, .inl gC)), (nS, .inl (cI, 9, .inl gS))]) [0, 1, 2, 3, 4, 5, 6, 7, 8, 9] rfl
        refine pu_l (W.runV (As := []) (rest := [.long (fM_grams vw vh vt vd)]) ⟨hx, hb, hml, hown, hg⟩ (ct_M_grams l dC dI cC cI cJ nA nT nO nU nV nX nY nR nC nS gT gO gU gV gX gY gR gC gS 0 vs va vf vr vw vh vt vd) (gw_cwV hg wd_672 mv_M_grams rfl rfl ⟨Nat.le_of_ble_eq_true rfl, Nat.le_of_ble_eq_true rfl⟩) (pu_preV (ci := 5) (q0 := 0) pu_blT hK hPc9 pu_e1 rfl rfl) rfl rfl hl.1 rfl (lv_room (Nat.le_of_ble_eq_true rfl)) md_M_weight_44 ⟨Nat.zero_le _, Nat.zero_le _⟩) ?_
        refine lv_ldc2 hx hb hown (hg _ wd_676) md_M_weight_47 ?_
        have hPc10 := hP.sub (ws' := []) [] rfl
        refine pu_l (W.runS (As := [.long (fM_grams vw vh vt vd), .long 1000000]) (rest := [.long (fM_grams vw vh vt vd)]) ⟨hx, hb, hml, hown, hg⟩ (ct_M_common l dC dI cC cI cJ (fM_grams vw vh vt vd) 1000000 hg0 (by decide)) (gw_cwS hg wd_677 mv_M_common rfl rfl ⟨Nat.le_of_ble_eq_true rfl, Nat.le_of_ble_eq_true rfl⟩) (pu_preS pu_blT hK hPc10 pu_e1) rfl rfl hl.1 rfl (lv_room (Nat.le_of_ble_eq_true rfl)) md_M_weight_50 ⟨Nat.zero_le _, Nat.zero_le _⟩) ?_
        refine lv_ldiv hx hb md_M_weight_53 hg1 ?_
        exact W.lret (v := (fM_grams vw vh vt vd) / (fM_common (fM_grams vw vh vt vd) 1000000)) hx hb hr (fun t ht hW => ⟨⟨(fM_grams vw vh vt vd) / (fM_common (fM_grams vw vh vt vd) 1000000), (0), rfl, (by rw [fM_weight, if_neg c1, if_pos c3, if_pos c5]), by have h9 := hP; rw [← ht] at h9; exact h9⟩, hS.F ht⟩) hS.2.2 md_M_weight_54 hlocks
    · refine lv_iconst (v := 1) hx hb md_M_weight_10 (by decide) ?_
      refine lv_goto (tgt := 15) hx hb md_M_weight_11 (by decide) ?_
      refine va_put (D := (dC, dI)) (ci := 5) (v := .int 1) (ty := .int) (C := mR_M) (T := mT_M) (N := 18) hx hb hg gu_M mF_M mO_M mN_M hown hK hP hD hS 0 rfl rfl 0 (by decide) (hg _ wd_532) (fun _ h9 => h9) rfl (by decide +kernel) rfl rfl (Nat.le_of_ble_eq_true rfl) md_M_weight_15 (fun H locs hP hD hS => ?_)
      have hP : va_P (dC, dI) mC [(nA, .inr (5, [.int 1, .ref nT, .int vs, .int va, .int vf, .int vr, .ref nO, .ref nU, .ref nV, .long vw, .long vh, .long vt, .long vd, .ref nX, .ref nY, .ref nR, .ref nC, .ref nS])), (nT, .inl (cI, 300, .inl gT)), (nO, .inl (cI, 128, .inl gO)), (nU, .inl (cI, 128, .inl gU)), (nV, .inl (cI, 16, .inl gV)), (nX, .inl (cJ, 16, .inr (.inl gX))), (nY, .inl (cJ, 16, .inr (.inl gY))), (nR, .inl (cJ, 16, .inr (.inl gR))), (nC, .inl (cI, 9, .inl gC)), (nS, .inl (cI, 9, .inl gS))] H := hP
      have hD : va_D A [(nA, .inr (5, [.int 1, .ref nT, .int vs, .int va, .int vf, .int vr, .ref nO, .ref nU, .ref nV, .long vw, .long vh, .long vt, .long vd, .ref nX, .ref nY, .ref nR, .ref nC, .ref nS])), (nT, .inl (cI, 300, .inl gT)), (nO, .inl (cI, 128, .inl gO)), (nU, .inl (cI, 128, .inl gU)), (nV, .inl (cI, 16, .inl gV)), (nX, .inl (cJ, 16, .inr (.inl gX))), (nY, .inl (cJ, 16, .inr (.inl gY))), (nR, .inl (cJ, 16, .inr (.inl gR))), (nC, .inl (cI, 9, .inl gC)), (nS, .inl (cI, 9, .inl gS))] := hD
      refine lv_aload_n hx hb md_M_weight_18 rfl (lv_at hl 0 rfl) ?_
      refine va_get (D := (dC, dI)) (ci := 5) (v := .int 1) (C := mR_M) (T := mT_M) (N := 18) hx hb hg gu_M hown hK hP 0 rfl rfl 0 (by decide) (hg _ wd_532) (fun _ h9 => h9) rfl md_M_weight_19 ?_
      refine lv_if_le (tgt := 29) hx hb md_M_weight_22 (by decide) (fun c11 => absurd c11 (by decide)) (fun _ => ?_)
      refine lv_lconst (v := 0) hx hb md_M_weight_25 (by decide) ?_
      refine lv_goto (tgt := 54) hx hb md_M_weight_26 (by decide) ?_
      exact W.lret (v := 0) hx hb hr (fun t ht hW => ⟨⟨0, (1), rfl, (by rw [fM_weight, if_neg c1, if_neg c3]), by have h9 := hP; rw [← ht] at h9; exact h9⟩, hS.F ht⟩) hS.2.2 md_M_weight_54 hlocks

def gM_pair (gX : Nat → Int64) (gY : Nat → Int64) (gR : Nat → Int64) (k : Int32) : Nat → Int32 → Nat → Nat → Int32 × Int32
  | 0, _, _, _ => (0, 0)
  | n + 1, left, a, b => if 16 ≤ (nI b) then (if 16 ≤ (nI (a + 1)) then ((-1), 0) else (gM_pair gX gY gR k n left (a + 1) ((a + 1) + 1))) else (if (fM_meets gX gY gR (nI a) (nI b)) = 0 then (gM_pair gX gY gR k n left a (b + 1)) else (if left = 0 then ((16 * (nI a)) + (nI b), 0) else (gM_pair gX gY gR k n (left + (-1)) a (b + 1))))
def fM_pair (gX : Nat → Int64) (gY : Nat → Int64) (gR : Nat → Int64) (k : Int32) : Int32 × Int32 := if 0 ≤ k then (gM_pair gX gY gR k 300 k 0 1) else (0, 1)
set_option maxHeartbeats 1000000 in
set_option maxRecDepth 100000 in
theorem ct_M_pair (l : Launch) (dC : Nat → ClassId) (dI : Nat → Nat → Nat) (cC cI cJ : ClassId) (nA : Nat) (nT : Nat) (nO : Nat) (nU : Nat) (nV : Nat) (nX : Nat) (nY : Nat) (nR : Nat) (nC : Nat) (nS : Nat) (gT : Nat → Int32) (gO : Nat → Int32) (gU : Nat → Int32) (gV : Nat → Int32) (gX : Nat → Int64) (gY : Nat → Int64) (gR : Nat → Int64) (gC : Nat → Int32) (gS : Nat → Int32) (vc : Int32) (vs : Int32) (va : Int32) (vf : Int32) (vr : Int32) (vw : Int64) (vh : Int64) (vt : Int64) (vd : Int64) (k : Int32)   : Met l my_M_pair (.code my_M_pair mb_M_pair 5 (some .int) :: gw_l) ({ frames := 1, cells := 0, slots := 0, locals := 28 }) (mu_Pc (dC, dI) mC [(cC, .char), (cI, .int), (cJ, .long)] [(nA, .inr (5, [.int vc, .ref nT, .int vs, .int va, .int vf, .int vr, .ref nO, .ref nU, .ref nV, .long vw, .long vh, .long vt, .long vd, .ref nX, .ref nY, .ref nR, .ref nC, .ref nS])), (nT, .inl (cI, 300, .inl gT)), (nO, .inl (cI, 128, .inl gO)), (nU, .inl (cI, 128, .inl gU)), (nV, .inl (cI, 16, .inl gV)), (nX, .inl (cJ, 16, .inr (.inl gX))), (nY, .inl (cJ, 16, .inr (.inl gY))), (nR, .inl (cJ, 16, .inr (.inl gR))), (nC, .inl (cI, 9, .inl gC)), (nS, .inl (cI, 9, .inl gS))] (fun _ => True) [.ref nA, .int k]) (va_Qi (fun (r : Int32) (u : Int32) => (r, u) = fM_pair gX gY gR k) (fun u t => va_P (dC, dI) mC [(nA, .inr (5, [.int u, .ref nT, .int vs, .int va, .int vf, .int vr, .ref nO, .ref nU, .ref nV, .long vw, .long vh, .long vt, .long vd, .ref nX, .ref nY, .ref nR, .ref nC, .ref nS])), (nT, .inl (cI, 300, .inl gT)), (nO, .inl (cI, 128, .inl gO)), (nU, .inl (cI, 128, .inl gU)), (nV, .inl (cI, 16, .inl gV)), (nX, .inl (cJ, 16, .inr (.inl gX))), (nY, .inl (cJ, 16, .inr (.inl gY))), (nR, .inl (cJ, 16, .inr (.inl gR))), (nC, .inl (cI, 9, .inl gC)), (nS, .inl (cI, 9, .inl gS))] t.heap) (mu_A [(nA, .inr (5, [.int vc, .ref nT, .int vs, .int va, .int vf, .int vr, .ref nO, .ref nU, .ref nV, .long vw, .long vh, .long vt, .long vd, .ref nX, .ref nY, .ref nR, .ref nC, .ref nS])), (nT, .inl (cI, 300, .inl gT)), (nO, .inl (cI, 128, .inl gO)), (nU, .inl (cI, 128, .inl gU)), (nV, .inl (cI, 16, .inl gV)), (nX, .inl (cJ, 16, .inr (.inl gX))), (nY, .inl (cJ, 16, .inr (.inl gY))), (nR, .inl (cJ, 16, .inr (.inl gR))), (nC, .inl (cI, 9, .inl gC)), (nS, .inl (cI, 9, .inl gS))])) 0 0 (mu_A [(nA, .inr (5, [.int vc, .ref nT, .int vs, .int va, .int vf, .int vr, .ref nO, .ref nU, .ref nV, .long vw, .long vh, .long vt, .long vd, .ref nX, .ref nY, .ref nR, .ref nC, .ref nS])), (nT, .inl (cI, 300, .inl gT)), (nO, .inl (cI, 128, .inl gO)), (nU, .inl (cI, 128, .inl gU)), (nV, .inl (cI, 16, .inl gV)), (nX, .inl (cJ, 16, .inr (.inl gX))), (nY, .inl (cJ, 16, .inr (.inl gY))), (nR, .inl (cJ, 16, .inr (.inl gR))), (nC, .inl (cI, 9, .inl gC)), (nS, .inl (cI, 9, .inl gS))]) := by
  refine Met.ofW (cc := mb_M_pair) (maxL := 5) (ret := (some .int)) (by decide) rfl ?_
  intro p e s m args below meth c s₁ B hml hv
  obtain ⟨rfl, hP, hK, hD0, hE⟩ := hv
  have hx := B.exec
  have hb := B.bytes
  have hr := B.returns
  have hts := atoms_spec (ws := (.code my_M_pair mb_M_pair 5 (some .int) :: gw_l)) B.pre
  have hg : ∀ w ∈ gw_l, w.before _ s = true := fun w h => hts w (List.mem_cons_of_mem _ h)
  have hown : s.vm.findClass mR_M = some m.cls := findClass_of_methodNamed B.named
  have hlocks := B.notSynchronized
  have hD := mu_self hD0
  have hS : va_S (mu_A [(nA, .inr (5, [.int vc, .ref nT, .int vs, .int va, .int vf, .int vr, .ref nO, .ref nU, .ref nV, .long vw, .long vh, .long vt, .long vd, .ref nX, .ref nY, .ref nR, .ref nC, .ref nS])), (nT, .inl (cI, 300, .inl gT)), (nO, .inl (cI, 128, .inl gO)), (nU, .inl (cI, 128, .inl gU)), (nV, .inl (cI, 16, .inl gV)), (nX, .inl (cJ, 16, .inr (.inl gX))), (nY, .inl (cJ, 16, .inr (.inl gY))), (nR, .inl (cJ, 16, .inr (.inl gR))), (nC, .inl (cI, 9, .inl gC)), (nS, .inl (cI, 9, .inl gS))]) s.heap s.heap [] := va_S.rf
  generalize hAe : mu_A [(nA, .inr (5, [.int vc, .ref nT, .int vs, .int va, .int vf, .int vr, .ref nO, .ref nU, .ref nV, .long vw, .long vh, .long vt, .long vd, .ref nX, .ref nY, .ref nR, .ref nC, .ref nS])), (nT, .inl (cI, 300, .inl gT)), (nO, .inl (cI, 128, .inl gO)), (nU, .inl (cI, 128, .inl gU)), (nV, .inl (cI, 16, .inl gV)), (nX, .inl (cJ, 16, .inr (.inl gX))), (nY, .inl (cJ, 16, .inr (.inl gY))), (nR, .inl (cJ, 16, .inr (.inl gR))), (nC, .inl (cI, 9, .inl gC)), (nS, .inl (cI, 9, .inl gS))] = A at hD hS ⊢
  have hl := lv_entry ([.ref nA, .int k]) (n := 5) (Nat.le_of_ble_eq_true rfl)
  rw [lg_entry_eq]
  generalize (lg_sl ([.ref nA, .int k]) ++ List.replicate (5 - (lg_sl ([.ref nA, .int k])).length) Slot.unset).toArray = ls at hl ⊢
  have hl : lv_has ls 5 [(0, .ref nA), (1, .int k)] := hl
  have loop : ∀ (n : Nat) (left : Int32) (a : Nat) (b : Nat) (H : Heap) (locs : List Loc) (ls : Array Slot), (a < 16) → (a < b) → (b ≤ 16) → (16 - a) * 17 + (16 - b) < n → fM_pair gX gY gR k = gM_pair gX gY gR k n left a b → va_P (dC, dI) mC [(nA, .inr (5, [.int 0, .ref nT, .int vs, .int va, .int vf, .int vr, .ref nO, .ref nU, .ref nV, .long vw, .long vh, .long vt, .long vd, .ref nX, .ref nY, .ref nR, .ref nC, .ref nS])), (nT, .inl (cI, 300, .inl gT)), (nO, .inl (cI, 128, .inl gO)), (nU, .inl (cI, 128, .inl gU)), (nV, .inl (cI, 16, .inl gV)), (nX, .inl (cJ, 16, .inr (.inl gX))), (nY, .inl (cJ, 16, .inr (.inl gY))), (nR, .inl (cJ, 16, .inr (.inl gR))), (nC, .inl (cI, 9, .inl gC)), (nS, .inl (cI, 9, .inl gS))] H → va_D A [(nA, .inr (5, [.int 0, .ref nT, .int vs, .int va, .int vf, .int vr, .ref nO, .ref nU, .ref nV, .long vw, .long vh, .long vt, .long vd, .ref nX, .ref nY, .ref nR, .ref nC, .ref nS])), (nT, .inl (cI, 300, .inl gT)), (nO, .inl (cI, 128, .inl gO)), (nU, .inl (cI, 128, .inl gU)), (nV, .inl (cI, 16, .inl gV)), (nX, .inl (cJ, 16, .inr (.inl gX))), (nY, .inl (cJ, 16, .inr (.inl gY))), (nR, .inl (cJ, 16, .inr (.inl gR))), (nC, .inl (cI, 9, .inl gC)), (nS, .inl (cI, 9, .inl gS))] → va_S A s.heap H locs → lv_has ls 5 [(0, .ref nA), (1, .int k), (2, .int left), (3, .int (nI a)), (4, .int (nI b))] → W p l e (headSpec (.code my_M_pair mb_M_pair 5 (some .int) :: gw_l) ({ frames := 1, cells := 0, slots := 0, locals := 28 })).room s m ([.ref nA, .int k] : List Value).toArray below meth c H locs 0 0 (MQ below (va_Qi (fun (r : Int32) (u : Int32) => (r, u) = fM_pair gX gY gR k) (fun u t => va_P (dC, dI) mC [(nA, .inr (5, [.int u, .ref nT, .int vs, .int va, .int vf, .int vr, .ref nO, .ref nU, .ref nV, .long vw, .long vh, .long vt, .long vd, .ref nX, .ref nY, .ref nR, .ref nC, .ref nS])), (nT, .inl (cI, 300, .inl gT)), (nO, .inl (cI, 128, .inl gO)), (nU, .inl (cI, 128, .inl gU)), (nV, .inl (cI, 16, .inl gV)), (nX, .inl (cJ, 16, .inr (.inl gX))), (nY, .inl (cJ, 16, .inr (.inl gY))), (nR, .inl (cJ, 16, .inr (.inl gR))), (nC, .inl (cI, 9, .inl gC)), (nS, .inl (cI, 9, .inl gS))] t.heap) A) ([.ref nA, .int k] : List Value).toArray s 0 0 A) (F0 m 35 ls []) := by
    intro n
    induction n with
    | zero =>
      intro left a b H locs ls h1 h2 h3 hm
      exact absurd hm (Nat.not_lt_zero _)
    | succ n ih =>
      intro left a b H locs ls h1 h2 h3 hm hv hP hD hS hl
      refine lv_iload hx hb md_M_pair_35 (lv_at hl 4 rfl) ?_
      refine lv_bipush (v := 16) hx hb md_M_pair_37 (by decide) ?_
      refine lv_icmp_ge (tgt := 73) hx hb md_M_pair_39 (by decide) (fun c7 => ?_) (fun c7 => ?_)
      · refine lv_iinc (v := nI (a + 1)) (lv' := [(3, .int (nI (a + 1))), (0, .ref nA), (1, .int k), (2, .int left), (4, .int (nI b))]) hx hb md_M_pair_73 hl (k := 3) rfl (by rw [nI_succ]; rfl) (by decide) rfl (fun ls hl => ?_)
        refine lv_goto (tgt := 17) hx hb md_M_pair_76 (by decide) ?_
        refine lv_iload_n hx hb md_M_pair_17 rfl (lv_at hl 0 rfl) ?_
        refine lv_bipush (v := 16) hx hb md_M_pair_18 (by decide) ?_
        refine lv_icmp_ge (tgt := 79) hx hb md_M_pair_20 (by decide) (fun c8 => ?_) (fun c8 => ?_)
        · refine lv_aload_n hx hb md_M_pair_79 rfl (lv_at hl 1 rfl) ?_
          refine va_get (D := (dC, dI)) (ci := 5) (v := .int 0) (C := mR_M) (T := mT_M) (N := 18) hx hb hg gu_M hown hK hP 0 rfl rfl 0 (by decide) (hg _ wd_532) (fun _ h9 => h9) rfl md_M_pair_80 ?_
          refine lv_if_le (tgt := 90) hx hb md_M_pair_83 (by decide) (fun _ => ?_) (fun c9 => absurd (by decide) c9)
          refine lv_iconst (v := (-1)) hx hb md_M_pair_90 (by decide) ?_
          exact W.iret (v := (-1)) hx hb hr (fun t ht hW => ⟨⟨(-1), (0), rfl, (by rw [hv, gM_pair, if_pos c7, if_pos c8]), by have h9 := hP; rw [← ht] at h9; exact h9⟩, hS.F ht⟩) hS.2.2 md_M_pair_91 hlocks
        · refine lv_aload_n hx hb md_M_pair_23 rfl (lv_at hl 1 rfl) ?_
          refine va_get (D := (dC, dI)) (ci := 5) (v := .int 0) (C := mR_M) (T := mT_M) (N := 18) hx hb hg gu_M hown hK hP 0 rfl rfl 0 (by decide) (hg _ wd_532) (fun _ h9 => h9) rfl md_M_pair_24 ?_
          refine lv_if_ne (tgt := 79) hx hb md_M_pair_27 (by decide) (fun c10 => absurd (by decide) c10) (fun _ => ?_)
          refine lv_iload_n hx hb md_M_pair_30 rfl (lv_at hl 0 rfl) ?_
          refine lv_iconst (v := 1) hx hb md_M_pair_31 (by decide) ?_
          refine lv_iadd hx hb md_M_pair_32 ?_
          rw [← nI_succ]
          refine lv_istore (lv' := [(4, .int (nI ((a + 1) + 1))), (3, .int (nI (a + 1))), (0, .ref nA), (1, .int k), (2, .int left)]) hx hb md_M_pair_33 hl (by decide) rfl (fun ls hl => ?_)
          exact ih left (a + 1) ((a + 1) + 1) _ _ ls (nx_lt (a := a + 1) (b := 16) (by omega) (by omega) c8) (by omega) (by have := nx_lt (a := a + 1) (b := 16) (by omega) (by omega) c8; omega) (by have := nx_lt (a := a + 1) (b := 16) (by omega) (by omega) c8; omega) (by rw [hv, gM_pair, if_pos c7, if_neg c8]) hP hD hS (lv_sub hl [2, 3, 4, 1, 0] rfl)
      · have hlt : b < 16 := nx_lt (a := b) (b := 16) (by omega) (by omega) c7
        refine lv_aload_n hx hb md_M_pair_42 rfl (lv_at hl 0 rfl) ?_
        refine lv_iload_n hx hb md_M_pair_43 rfl (lv_at hl 3 rfl) ?_
        refine lv_iload hx hb md_M_pair_44 (lv_at hl 4 rfl) ?_
        have hPc11 := hP.sub (ws' := [(nA, .inr (5, [.int 0, .ref nT, .int vs, .int va, .int vf, .int vr, .ref nO, .ref nU, .ref nV, .long vw, .long vh, .long vt, .long vd, .ref nX, .ref nY, .ref nR, .ref nC, .ref nS])), (nT, .inl (cI, 300, .inl gT)), (nO, .inl (cI, 128, .inl gO)), (nU, .inl (cI, 128, .inl gU)), (nV, .inl (cI, 16, .inl gV)), (nX, .inl (cJ, 16, .inr (.inl gX))), (nY, .inl (cJ, 16, .inr (.inl gY))), (nR, .inl (cJ, 16, .inr (.inl gR))), (nC, .inl (cI, 9, .inl gC)), (nS, .inl (cI, 9, .inl gS))]) [0, 1, 2, 3, 4, 5, 6, 7, 8, 9] rfl
        refine pu_i (W.runV (As := [.int (nI a), .int (nI b)]) (rest := []) ⟨hx, hb, hml, hown, hg⟩ (ct_M_meets l dC dI cC cI cJ nA nT nO nU nV nX nY nR nC nS gT gO gU gV gX gY gR gC gS 0 vs va vf vr vw vh vt vd (nI a) (nI b) (nx_16 (by omega)) (nx_16 (by omega))) (gw_cwV hg wd_705 mv_M_meets rfl rfl ⟨Nat.le_of_ble_eq_true rfl, Nat.le_of_ble_eq_true rfl⟩) (pu_preV (ci := 5) (q0 := 0) pu_blT hK hPc11 pu_e1 rfl rfl) rfl rfl hl.1 rfl (lv_room (Nat.le_of_ble_eq_true rfl)) md_M_pair_46 ⟨Nat.zero_le _, Nat.zero_le _⟩) ?_
        refine lv_if_eq (tgt := 67) hx hb md_M_pair_49 (by decide) (fun c12 => ?_) (fun c12 => ?_)
        · refine lv_iinc (v := nI (b + 1)) (lv' := [(4, .int (nI (b + 1))), (0, .ref nA), (1, .int k), (2, .int left), (3, .int (nI a))]) hx hb md_M_pair_67 hl (k := 4) rfl (by rw [nI_succ]; rfl) (by decide) rfl (fun ls hl => ?_)
          refine lv_goto (tgt := 35) hx hb md_M_pair_70 (by decide) ?_
          exact ih left a (b + 1) _ _ ls (by omega) (by omega) (by omega) (by omega) (by rw [hv, gM_pair, if_neg c7, if_pos c12]) hP hD hS (lv_sub hl [1, 2, 3, 4, 0] rfl)
        · refine lv_iload_n hx hb md_M_pair_52 rfl (lv_at hl 2 rfl) ?_
          refine lv_if_ne (tgt := 64) hx hb md_M_pair_53 (by decide) (fun c13 => ?_) (fun c13 => ?_)
          · refine lv_iinc (v := left + (-1)) (lv' := [(2, .int (left + (-1))), (0, .ref nA), (1, .int k), (3, .int (nI a)), (4, .int (nI b))]) hx hb md_M_pair_64 hl (k := 2) rfl rfl (by decide) rfl (fun ls hl => ?_)
            refine lv_iinc (v := nI (b + 1)) (lv' := [(4, .int (nI (b + 1))), (2, .int (left + (-1))), (0, .ref nA), (1, .int k), (3, .int (nI a))]) hx hb md_M_pair_67 hl (k := 4) rfl (by rw [nI_succ]; rfl) (by decide) rfl (fun ls hl => ?_)
            refine lv_goto (tgt := 35) hx hb md_M_pair_70 (by decide) ?_
            exact ih (left + (-1)) a (b + 1) _ _ ls (by omega) (by omega) (by omega) (by omega) (by rw [hv, gM_pair, if_neg c7, if_neg c12, if_neg c13]) hP hD hS (lv_sub hl [2, 3, 1, 4, 0] rfl)
          · refine lv_bipush (v := 16) hx hb md_M_pair_56 (by decide) ?_
            refine lv_iload_n hx hb md_M_pair_58 rfl (lv_at hl 3 rfl) ?_
            refine lv_imul hx hb md_M_pair_59 ?_
            refine lv_iload hx hb md_M_pair_60 (lv_at hl 4 rfl) ?_
            refine lv_iadd hx hb md_M_pair_62 ?_
            exact W.iret (v := (16 * (nI a)) + (nI b)) hx hb hr (fun t ht hW => ⟨⟨(16 * (nI a)) + (nI b), (0), rfl, (by rw [hv, gM_pair, if_neg c7, if_neg c12, if_pos c13]), by have h9 := hP; rw [← ht] at h9; exact h9⟩, hS.F ht⟩) hS.2.2 md_M_pair_63 hlocks
  refine lv_aload_n hx hb md_M_pair_0 rfl (lv_at hl 0 rfl) ?_
  refine lv_iload_n hx hb md_M_pair_1 rfl (lv_at hl 1 rfl) ?_
  refine lv_if_ge (tgt := 9) hx hb md_M_pair_2 (by decide) (fun c1 => ?_) (fun c1 => ?_)
  · refine lv_iconst (v := 0) hx hb md_M_pair_9 (by decide) ?_
    refine va_put (D := (dC, dI)) (ci := 5) (v := .int 0) (ty := .int) (C := mR_M) (T := mT_M) (N := 18) hx hb hg gu_M mF_M mO_M mN_M hown hK hP hD hS 0 rfl rfl 0 (by decide) (hg _ wd_532) (fun _ h9 => h9) rfl (by decide +kernel) rfl rfl (Nat.le_of_ble_eq_true rfl) md_M_pair_10 (fun H locs hP hD hS => ?_)
    have hP : va_P (dC, dI) mC [(nA, .inr (5, [.int 0, .ref nT, .int vs, .int va, .int vf, .int vr, .ref nO, .ref nU, .ref nV, .long vw, .long vh, .long vt, .long vd, .ref nX, .ref nY, .ref nR, .ref nC, .ref nS])), (nT, .inl (cI, 300, .inl gT)), (nO, .inl (cI, 128, .inl gO)), (nU, .inl (cI, 128, .inl gU)), (nV, .inl (cI, 16, .inl gV)), (nX, .inl (cJ, 16, .inr (.inl gX))), (nY, .inl (cJ, 16, .inr (.inl gY))), (nR, .inl (cJ, 16, .inr (.inl gR))), (nC, .inl (cI, 9, .inl gC)), (nS, .inl (cI, 9, .inl gS))] H := hP
    have hD : va_D A [(nA, .inr (5, [.int 0, .ref nT, .int vs, .int va, .int vf, .int vr, .ref nO, .ref nU, .ref nV, .long vw, .long vh, .long vt, .long vd, .ref nX, .ref nY, .ref nR, .ref nC, .ref nS])), (nT, .inl (cI, 300, .inl gT)), (nO, .inl (cI, 128, .inl gO)), (nU, .inl (cI, 128, .inl gU)), (nV, .inl (cI, 16, .inl gV)), (nX, .inl (cJ, 16, .inr (.inl gX))), (nY, .inl (cJ, 16, .inr (.inl gY))), (nR, .inl (cJ, 16, .inr (.inl gR))), (nC, .inl (cI, 9, .inl gC)), (nS, .inl (cI, 9, .inl gS))] := hD
    refine lv_iload_n hx hb md_M_pair_13 rfl (lv_at hl 1 rfl) ?_
    refine lv_istore_n (lv' := [(2, .int k), (0, .ref nA), (1, .int k)]) hx hb md_M_pair_14 rfl hl (by decide) rfl (fun ls hl => ?_)
    refine lv_iconst (v := 0) hx hb md_M_pair_15 (by decide) ?_
    refine lv_istore_n (lv' := [(3, .int 0), (2, .int k), (0, .ref nA), (1, .int k)]) hx hb md_M_pair_16 rfl hl (by decide) rfl (fun ls hl => ?_)
    refine lv_iload_n hx hb md_M_pair_17 rfl (lv_at hl 0 rfl) ?_
    refine lv_bipush (v := 16) hx hb md_M_pair_18 (by decide) ?_
    refine lv_icmp_ge (tgt := 79) hx hb md_M_pair_20 (by decide) (fun c2 => absurd c2 (by decide)) (fun _ => ?_)
    refine lv_aload_n hx hb md_M_pair_23 rfl (lv_at hl 2 rfl) ?_
    refine va_get (D := (dC, dI)) (ci := 5) (v := .int 0) (C := mR_M) (T := mT_M) (N := 18) hx hb hg gu_M hown hK hP 0 rfl rfl 0 (by decide) (hg _ wd_532) (fun _ h9 => h9) rfl md_M_pair_24 ?_
    refine lv_if_ne (tgt := 79) hx hb md_M_pair_27 (by decide) (fun c3 => absurd (by decide) c3) (fun _ => ?_)
    refine lv_iload_n hx hb md_M_pair_30 rfl (lv_at hl 0 rfl) ?_
    refine lv_iconst (v := 1) hx hb md_M_pair_31 (by decide) ?_
    refine lv_iadd hx hb md_M_pair_32 ?_
    refine lv_istore (lv' := [(4, .int (0 + 1)), (3, .int 0), (2, .int k), (0, .ref nA), (1, .int k)]) hx hb md_M_pair_33 hl (by decide) rfl (fun ls hl => ?_)
    exact loop 300 k 0 1 _ _ ls (by omega) (by omega) (by omega) (by omega) (by rw [fM_pair, if_pos c1]) hP hD hS (lv_sub hl [3, 4, 2, 1, 0] rfl)
  · refine lv_iconst (v := 1) hx hb md_M_pair_5 (by decide) ?_
    refine lv_goto (tgt := 10) hx hb md_M_pair_6 (by decide) ?_
    refine va_put (D := (dC, dI)) (ci := 5) (v := .int 1) (ty := .int) (C := mR_M) (T := mT_M) (N := 18) hx hb hg gu_M mF_M mO_M mN_M hown hK hP hD hS 0 rfl rfl 0 (by decide) (hg _ wd_532) (fun _ h9 => h9) rfl (by decide +kernel) rfl rfl (Nat.le_of_ble_eq_true rfl) md_M_pair_10 (fun H locs hP hD hS => ?_)
    have hP : va_P (dC, dI) mC [(nA, .inr (5, [.int 1, .ref nT, .int vs, .int va, .int vf, .int vr, .ref nO, .ref nU, .ref nV, .long vw, .long vh, .long vt, .long vd, .ref nX, .ref nY, .ref nR, .ref nC, .ref nS])), (nT, .inl (cI, 300, .inl gT)), (nO, .inl (cI, 128, .inl gO)), (nU, .inl (cI, 128, .inl gU)), (nV, .inl (cI, 16, .inl gV)), (nX, .inl (cJ, 16, .inr (.inl gX))), (nY, .inl (cJ, 16, .inr (.inl gY))), (nR, .inl (cJ, 16, .inr (.inl gR))), (nC, .inl (cI, 9, .inl gC)), (nS, .inl (cI, 9, .inl gS))] H := hP
    have hD : va_D A [(nA, .inr (5, [.int 1, .ref nT, .int vs, .int va, .int vf, .int vr, .ref nO, .ref nU, .ref nV, .long vw, .long vh, .long vt, .long vd, .ref nX, .ref nY, .ref nR, .ref nC, .ref nS])), (nT, .inl (cI, 300, .inl gT)), (nO, .inl (cI, 128, .inl gO)), (nU, .inl (cI, 128, .inl gU)), (nV, .inl (cI, 16, .inl gV)), (nX, .inl (cJ, 16, .inr (.inl gX))), (nY, .inl (cJ, 16, .inr (.inl gY))), (nR, .inl (cJ, 16, .inr (.inl gR))), (nC, .inl (cI, 9, .inl gC)), (nS, .inl (cI, 9, .inl gS))] := hD
    refine lv_iload_n hx hb md_M_pair_13 rfl (lv_at hl 1 rfl) ?_
    refine lv_istore_n (lv' := [(2, .int k), (0, .ref nA), (1, .int k)]) hx hb md_M_pair_14 rfl hl (by decide) rfl (fun ls hl => ?_)
    refine lv_iconst (v := 0) hx hb md_M_pair_15 (by decide) ?_
    refine lv_istore_n (lv' := [(3, .int 0), (2, .int k), (0, .ref nA), (1, .int k)]) hx hb md_M_pair_16 rfl hl (by decide) rfl (fun ls hl => ?_)
    refine lv_iload_n hx hb md_M_pair_17 rfl (lv_at hl 0 rfl) ?_
    refine lv_bipush (v := 16) hx hb md_M_pair_18 (by decide) ?_
    refine lv_icmp_ge (tgt := 79) hx hb md_M_pair_20 (by decide) (fun c4 => absurd c4 (by decide)) (fun _ => ?_)
    refine lv_aload_n hx hb md_M_pair_23 rfl (lv_at hl 2 rfl) ?_
    refine va_get (D := (dC, dI)) (ci := 5) (v := .int 1) (C := mR_M) (T := mT_M) (N := 18) hx hb hg gu_M hown hK hP 0 rfl rfl 0 (by decide) (hg _ wd_532) (fun _ h9 => h9) rfl md_M_pair_24 ?_
    refine lv_if_ne (tgt := 79) hx hb md_M_pair_27 (by decide) (fun _ => ?_) (fun c5 => absurd c5 (by decide))
    refine lv_aload_n hx hb md_M_pair_79 rfl (lv_at hl 2 rfl) ?_
    refine va_get (D := (dC, dI)) (ci := 5) (v := .int 1) (C := mR_M) (T := mT_M) (N := 18) hx hb hg gu_M hown hK hP 0 rfl rfl 0 (by decide) (hg _ wd_532) (fun _ h9 => h9) rfl md_M_pair_80 ?_
    refine lv_if_le (tgt := 90) hx hb md_M_pair_83 (by decide) (fun c6 => absurd c6 (by decide)) (fun _ => ?_)
    refine lv_iconst (v := 0) hx hb md_M_pair_86 (by decide) ?_
    refine lv_goto (tgt := 91) hx hb md_M_pair_87 (by decide) ?_
    exact W.iret (v := 0) hx hb hr (fun t ht hW => ⟨⟨0, (1), rfl, (by rw [fM_pair, if_neg c1]), by have h9 := hP; rw [← ht] at h9; exact h9⟩, hS.F ht⟩) hS.2.2 md_M_pair_91 hlocks

def gM_wall (gC : Nat → Int32) (gS : Nat → Int32) (vw : Int64) (vt : Int64) (dist : Int64) : Nat → Nat → Nat → Int32 × Int32
  | 0, _, _ => (0, 0)
  | n + 1, tu, co => if 4 ≤ (nI co) then (if 9 ≤ (nI (tu + 1)) then (8, 0) else (gM_wall gC gS vw vt dist n (tu + 1) 0)) else (if ((-65) * dist) ≤ (fM_placeOf gC gS vw vt (nI co) (nI tu) 0) then (gM_wall gC gS vw vt dist n tu (co + 1)) else ((nI tu) - 1, 0))
def fM_wall (gC : Nat → Int32) (gS : Nat → Int32) (vw : Int64) (vt : Int64) (dist : Int64) : Int32 × Int32 := if (fM_isIn dist (-10000) 10000) = 0 then (0, 1) else (gM_wall gC gS vw vt dist 50 0 0)
set_option maxHeartbeats 1000000 in
set_option maxRecDepth 100000 in
theorem ct_M_wall (l : Launch) (dC : Nat → ClassId) (dI : Nat → Nat → Nat) (cC cI cJ : ClassId) (nA : Nat) (nT : Nat) (nO : Nat) (nU : Nat) (nV : Nat) (nX : Nat) (nY : Nat) (nR : Nat) (nC : Nat) (nS : Nat) (gT : Nat → Int32) (gO : Nat → Int32) (gU : Nat → Int32) (gV : Nat → Int32) (gX : Nat → Int64) (gY : Nat → Int64) (gR : Nat → Int64) (gC : Nat → Int32) (gS : Nat → Int32) (vc : Int32) (vs : Int32) (va : Int32) (vf : Int32) (vr : Int32) (vw : Int64) (vh : Int64) (vt : Int64) (vd : Int64) (dist : Int64)   : Met l my_M_wall (.code my_M_wall mb_M_wall 5 (some .int) :: gw_l) ({ frames := 1, cells := 0, slots := 0, locals := 27 }) (mu_Pc (dC, dI) mC [(cC, .char), (cI, .int), (cJ, .long)] [(nA, .inr (5, [.int vc, .ref nT, .int vs, .int va, .int vf, .int vr, .ref nO, .ref nU, .ref nV, .long vw, .long vh, .long vt, .long vd, .ref nX, .ref nY, .ref nR, .ref nC, .ref nS])), (nT, .inl (cI, 300, .inl gT)), (nO, .inl (cI, 128, .inl gO)), (nU, .inl (cI, 128, .inl gU)), (nV, .inl (cI, 16, .inl gV)), (nX, .inl (cJ, 16, .inr (.inl gX))), (nY, .inl (cJ, 16, .inr (.inl gY))), (nR, .inl (cJ, 16, .inr (.inl gR))), (nC, .inl (cI, 9, .inl gC)), (nS, .inl (cI, 9, .inl gS))] (fun _ => True) [.ref nA, .long dist]) (va_Qi (fun (r : Int32) (u : Int32) => (r, u) = fM_wall gC gS vw vt dist) (fun u t => va_P (dC, dI) mC [(nA, .inr (5, [.int u, .ref nT, .int vs, .int va, .int vf, .int vr, .ref nO, .ref nU, .ref nV, .long vw, .long vh, .long vt, .long vd, .ref nX, .ref nY, .ref nR, .ref nC, .ref nS])), (nT, .inl (cI, 300, .inl gT)), (nO, .inl (cI, 128, .inl gO)), (nU, .inl (cI, 128, .inl gU)), (nV, .inl (cI, 16, .inl gV)), (nX, .inl (cJ, 16, .inr (.inl gX))), (nY, .inl (cJ, 16, .inr (.inl gY))), (nR, .inl (cJ, 16, .inr (.inl gR))), (nC, .inl (cI, 9, .inl gC)), (nS, .inl (cI, 9, .inl gS))] t.heap) (mu_A [(nA, .inr (5, [.int vc, .ref nT, .int vs, .int va, .int vf, .int vr, .ref nO, .ref nU, .ref nV, .long vw, .long vh, .long vt, .long vd, .ref nX, .ref nY, .ref nR, .ref nC, .ref nS])), (nT, .inl (cI, 300, .inl gT)), (nO, .inl (cI, 128, .inl gO)), (nU, .inl (cI, 128, .inl gU)), (nV, .inl (cI, 16, .inl gV)), (nX, .inl (cJ, 16, .inr (.inl gX))), (nY, .inl (cJ, 16, .inr (.inl gY))), (nR, .inl (cJ, 16, .inr (.inl gR))), (nC, .inl (cI, 9, .inl gC)), (nS, .inl (cI, 9, .inl gS))])) 0 0 (mu_A [(nA, .inr (5, [.int vc, .ref nT, .int vs, .int va, .int vf, .int vr, .ref nO, .ref nU, .ref nV, .long vw, .long vh, .long vt, .long vd, .ref nX, .ref nY, .ref nR, .ref nC, .ref nS])), (nT, .inl (cI, 300, .inl gT)), (nO, .inl (cI, 128, .inl gO)), (nU, .inl (cI, 128, .inl gU)), (nV, .inl (cI, 16, .inl gV)), (nX, .inl (cJ, 16, .inr (.inl gX))), (nY, .inl (cJ, 16, .inr (.inl gY))), (nR, .inl (cJ, 16, .inr (.inl gR))), (nC, .inl (cI, 9, .inl gC)), (nS, .inl (cI, 9, .inl gS))]) := by
  refine Met.ofW (cc := mb_M_wall) (maxL := 5) (ret := (some .int)) (by decide) rfl ?_
  intro p e s m args below meth c s₁ B hml hv
  obtain ⟨rfl, hP, hK, hD0, hE⟩ := hv
  have hx := B.exec
  have hb := B.bytes
  have hr := B.returns
  have hts := atoms_spec (ws := (.code my_M_wall mb_M_wall 5 (some .int) :: gw_l)) B.pre
  have hg : ∀ w ∈ gw_l, w.before _ s = true := fun w h => hts w (List.mem_cons_of_mem _ h)
  have hown : s.vm.findClass mR_M = some m.cls := findClass_of_methodNamed B.named
  have hlocks := B.notSynchronized
  have hD := mu_self hD0
  have hS : va_S (mu_A [(nA, .inr (5, [.int vc, .ref nT, .int vs, .int va, .int vf, .int vr, .ref nO, .ref nU, .ref nV, .long vw, .long vh, .long vt, .long vd, .ref nX, .ref nY, .ref nR, .ref nC, .ref nS])), (nT, .inl (cI, 300, .inl gT)), (nO, .inl (cI, 128, .inl gO)), (nU, .inl (cI, 128, .inl gU)), (nV, .inl (cI, 16, .inl gV)), (nX, .inl (cJ, 16, .inr (.inl gX))), (nY, .inl (cJ, 16, .inr (.inl gY))), (nR, .inl (cJ, 16, .inr (.inl gR))), (nC, .inl (cI, 9, .inl gC)), (nS, .inl (cI, 9, .inl gS))]) s.heap s.heap [] := va_S.rf
  generalize hAe : mu_A [(nA, .inr (5, [.int vc, .ref nT, .int vs, .int va, .int vf, .int vr, .ref nO, .ref nU, .ref nV, .long vw, .long vh, .long vt, .long vd, .ref nX, .ref nY, .ref nR, .ref nC, .ref nS])), (nT, .inl (cI, 300, .inl gT)), (nO, .inl (cI, 128, .inl gO)), (nU, .inl (cI, 128, .inl gU)), (nV, .inl (cI, 16, .inl gV)), (nX, .inl (cJ, 16, .inr (.inl gX))), (nY, .inl (cJ, 16, .inr (.inl gY))), (nR, .inl (cJ, 16, .inr (.inl gR))), (nC, .inl (cI, 9, .inl gC)), (nS, .inl (cI, 9, .inl gS))] = A at hD hS ⊢
  have hl := lv_entry ([.ref nA, .long dist]) (n := 5) (Nat.le_of_ble_eq_true rfl)
  rw [lg_entry_eq]
  generalize (lg_sl ([.ref nA, .long dist]) ++ List.replicate (5 - (lg_sl ([.ref nA, .long dist])).length) Slot.unset).toArray = ls at hl ⊢
  have hl : lv_has ls 5 [(0, .ref nA), (1, .long dist)] := hl
  have loop : ∀ (n : Nat) (tu : Nat) (co : Nat) (H : Heap) (locs : List Loc) (ls : Array Slot), (tu < 9) → (co ≤ 4) → (9 - tu) * 5 + (4 - co) < n → fM_wall gC gS vw vt dist = gM_wall gC gS vw vt dist n tu co → va_P (dC, dI) mC [(nA, .inr (5, [.int 0, .ref nT, .int vs, .int va, .int vf, .int vr, .ref nO, .ref nU, .ref nV, .long vw, .long vh, .long vt, .long vd, .ref nX, .ref nY, .ref nR, .ref nC, .ref nS])), (nT, .inl (cI, 300, .inl gT)), (nO, .inl (cI, 128, .inl gO)), (nU, .inl (cI, 128, .inl gU)), (nV, .inl (cI, 16, .inl gV)), (nX, .inl (cJ, 16, .inr (.inl gX))), (nY, .inl (cJ, 16, .inr (.inl gY))), (nR, .inl (cJ, 16, .inr (.inl gR))), (nC, .inl (cI, 9, .inl gC)), (nS, .inl (cI, 9, .inl gS))] H → va_D A [(nA, .inr (5, [.int 0, .ref nT, .int vs, .int va, .int vf, .int vr, .ref nO, .ref nU, .ref nV, .long vw, .long vh, .long vt, .long vd, .ref nX, .ref nY, .ref nR, .ref nC, .ref nS])), (nT, .inl (cI, 300, .inl gT)), (nO, .inl (cI, 128, .inl gO)), (nU, .inl (cI, 128, .inl gU)), (nV, .inl (cI, 16, .inl gV)), (nX, .inl (cJ, 16, .inr (.inl gX))), (nY, .inl (cJ, 16, .inr (.inl gY))), (nR, .inl (cJ, 16, .inr (.inl gR))), (nC, .inl (cI, 9, .inl gC)), (nS, .inl (cI, 9, .inl gS))] → va_S A s.heap H locs → lv_has ls 5 [(0, .ref nA), (1, .long dist), (3, .int (nI tu)), (4, .int (nI co))] → W p l e (headSpec (.code my_M_wall mb_M_wall 5 (some .int) :: gw_l) ({ frames := 1, cells := 0, slots := 0, locals := 27 })).room s m ([.ref nA, .long dist] : List Value).toArray below meth c H locs 0 0 (MQ below (va_Qi (fun (r : Int32) (u : Int32) => (r, u) = fM_wall gC gS vw vt dist) (fun u t => va_P (dC, dI) mC [(nA, .inr (5, [.int u, .ref nT, .int vs, .int va, .int vf, .int vr, .ref nO, .ref nU, .ref nV, .long vw, .long vh, .long vt, .long vd, .ref nX, .ref nY, .ref nR, .ref nC, .ref nS])), (nT, .inl (cI, 300, .inl gT)), (nO, .inl (cI, 128, .inl gO)), (nU, .inl (cI, 128, .inl gU)), (nV, .inl (cI, 16, .inl gV)), (nX, .inl (cJ, 16, .inr (.inl gX))), (nY, .inl (cJ, 16, .inr (.inl gY))), (nR, .inl (cJ, 16, .inr (.inl gR))), (nC, .inl (cI, 9, .inl gC)), (nS, .inl (cI, 9, .inl gS))] t.heap) A) ([.ref nA, .long dist] : List Value).toArray s 0 0 A) (F0 m 42 ls []) := by
    intro n
    induction n with
    | zero =>
      intro tu co H locs ls h1 h3 hm
      exact absurd hm (Nat.not_lt_zero _)
    | succ n ih =>
      intro tu co H locs ls h1 h3 hm hv hP hD hS hl
      refine lv_iload hx hb md_M_wall_42 (lv_at hl 3 rfl) ?_
      refine lv_iconst (v := 4) hx hb md_M_wall_44 (by decide) ?_
      refine lv_icmp_ge (tgt := 75) hx hb md_M_wall_45 (by decide) (fun c6 => ?_) (fun c6 => ?_)
      · refine lv_iinc (v := nI (tu + 1)) (lv' := [(3, .int (nI (tu + 1))), (0, .ref nA), (1, .long dist), (4, .int (nI co))]) hx hb md_M_wall_75 hl (k := 2) rfl (by rw [nI_succ]; rfl) (by decide) rfl (fun ls hl => ?_)
        refine lv_goto (tgt := 33) hx hb md_M_wall_78 (by decide) ?_
        refine lv_iload_n hx hb md_M_wall_33 rfl (lv_at hl 0 rfl) ?_
        refine lv_bipush (v := 9) hx hb md_M_wall_34 (by decide) ?_
        refine lv_icmp_ge (tgt := 81) hx hb md_M_wall_36 (by decide) (fun c7 => ?_) (fun c7 => ?_)
        · refine lv_bipush (v := 8) hx hb md_M_wall_81 (by decide) ?_
          exact W.iret (v := 8) hx hb hr (fun t ht hW => ⟨⟨8, (0), rfl, (by rw [hv, gM_wall, if_pos c6, if_pos c7]), by have h9 := hP; rw [← ht] at h9; exact h9⟩, hS.F ht⟩) hS.2.2 md_M_wall_83 hlocks
        · refine lv_iconst (v := 0) hx hb md_M_wall_39 (by decide) ?_
          refine lv_istore (lv' := [(4, .int 0), (3, .int (nI (tu + 1))), (0, .ref nA), (1, .long dist)]) hx hb md_M_wall_40 hl (by decide) rfl (fun ls hl => ?_)
          exact ih (tu + 1) 0 _ _ ls (nx_lt (a := tu + 1) (b := 9) (by omega) (by omega) c7) (by omega) (by have := nx_lt (a := tu + 1) (b := 9) (by omega) (by omega) c7; omega) (by rw [hv, gM_wall, if_pos c6, if_neg c7]) hP hD hS (lv_sub hl [2, 3, 1, 0] rfl)
      · have hlt : co < 4 := nx_lt (a := co) (b := 4) (by omega) (by omega) c6
        refine lv_aload_n hx hb md_M_wall_48 rfl (lv_at hl 0 rfl) ?_
        refine lv_iload hx hb md_M_wall_49 (lv_at hl 3 rfl) ?_
        refine lv_iload_n hx hb md_M_wall_51 rfl (lv_at hl 2 rfl) ?_
        refine lv_iconst (v := 0) hx hb md_M_wall_52 (by decide) ?_
        have hPc8 := hP.sub (ws' := [(nA, .inr (5, [.int 0, .ref nT, .int vs, .int va, .int vf, .int vr, .ref nO, .ref nU, .ref nV, .long vw, .long vh, .long vt, .long vd, .ref nX, .ref nY, .ref nR, .ref nC, .ref nS])), (nT, .inl (cI, 300, .inl gT)), (nO, .inl (cI, 128, .inl gO)), (nU, .inl (cI, 128, .inl gU)), (nV, .inl (cI, 16, .inl gV)), (nX, .inl (cJ, 16, .inr (.inl gX))), (nY, .inl (cJ, 16, .inr (.inl gY))), (nR, .inl (cJ, 16, .inr (.inl gR))), (nC, .inl (cI, 9, .inl gC)), (nS, .inl (cI, 9, .inl gS))]) [0, 1, 2, 3, 4, 5, 6, 7, 8, 9] rfl
        refine pu_l (W.runV (As := [.int (nI co), .int (nI tu), .int 0]) (rest := []) ⟨hx, hb, hml, hown, hg⟩ (ct_M_placeOf l dC dI cC cI cJ nA nT nO nU nV nX nY nR nC nS gT gO gU gV gX gY gR gC gS 0 vs va vf vr vw vh vt vd (nI co) (nI tu) 0 (vp_in_nI h1 (by omega))) (gw_cwV hg wd_717 mv_M_placeOf rfl rfl ⟨Nat.le_of_ble_eq_true rfl, Nat.le_of_ble_eq_true rfl⟩) (pu_preV (ci := 5) (q0 := 0) pu_blT hK hPc8 pu_e1 rfl rfl) rfl rfl hl.1 rfl (lv_room (Nat.le_of_ble_eq_true rfl)) md_M_wall_53 ⟨Nat.zero_le _, Nat.zero_le _⟩) ?_
        refine lv_ldc2 hx hb hown (hg _ wd_726) md_M_wall_56 ?_
        refine lv_lload_n hx hb md_M_wall_59 rfl (lv_at hl 1 rfl) ?_
        refine lv_lmul hx hb md_M_wall_60 ?_
        refine lx_ge (tgt := 69) hx hb md_M_wall_61 md_M_wall_62 (by decide) (fun c9 => ?_) (fun c9 => ?_)
        · refine lv_iinc (v := nI (co + 1)) (lv' := [(4, .int (nI (co + 1))), (0, .ref nA), (1, .long dist), (3, .int (nI tu))]) hx hb md_M_wall_69 hl (k := 3) rfl (by rw [nI_succ]; rfl) (by decide) rfl (fun ls hl => ?_)
          refine lv_goto (tgt := 42) hx hb md_M_wall_72 (by decide) ?_
          exact ih tu (co + 1) _ _ ls (by omega) (by omega) (by omega) (by rw [hv, gM_wall, if_neg c6, if_pos c9]) hP hD hS (lv_sub hl [1, 2, 3, 0] rfl)
        · refine lv_iload_n hx hb md_M_wall_65 rfl (lv_at hl 2 rfl) ?_
          refine lv_iconst (v := 1) hx hb md_M_wall_66 (by decide) ?_
          refine lv_isub hx hb md_M_wall_67 ?_
          exact W.iret (v := (nI tu) - 1) hx hb hr (fun t ht hW => ⟨⟨(nI tu) - 1, (0), rfl, (by rw [hv, gM_wall, if_neg c6, if_neg c9]), by have h9 := hP; rw [← ht] at h9; exact h9⟩, hS.F ht⟩) hS.2.2 md_M_wall_68 hlocks
  refine lv_aload_n hx hb md_M_wall_0 rfl (lv_at hl 0 rfl) ?_
  refine lv_lload_n hx hb md_M_wall_1 rfl (lv_at hl 1 rfl) ?_
  refine lv_ldc2 hx hb hown (hg _ wd_725) md_M_wall_2 ?_
  refine lv_ldc2 hx hb hown (hg _ wd_667) md_M_wall_5 ?_
  have hPc1 := hP.sub (ws' := []) [] rfl
  refine pu_i (W.runS (As := [.long dist, .long (-10000), .long 10000]) (rest := [.ref nA]) ⟨hx, hb, hml, hown, hg⟩ (ct_M_isIn l dC dI cC cI cJ dist (-10000) 10000) (gw_cwS hg wd_620 mv_M_isIn rfl rfl ⟨Nat.le_of_ble_eq_true rfl, Nat.le_of_ble_eq_true rfl⟩) (pu_preS pu_blT hK hPc1 pu_e1) rfl rfl hl.1 rfl (lv_room (Nat.le_of_ble_eq_true rfl)) md_M_wall_8 ⟨Nat.zero_le _, Nat.zero_le _⟩) ?_
  refine lv_if_eq (tgt := 18) hx hb md_M_wall_11 (by decide) (fun c2 => ?_) (fun c2 => ?_)
  · refine lv_iconst (v := 1) hx hb md_M_wall_18 (by decide) ?_
    refine va_put (D := (dC, dI)) (ci := 5) (v := .int 1) (ty := .int) (C := mR_M) (T := mT_M) (N := 18) hx hb hg gu_M mF_M mO_M mN_M hown hK hP hD hS 0 rfl rfl 0 (by decide) (hg _ wd_532) (fun _ h9 => h9) rfl (by decide +kernel) rfl rfl (Nat.le_of_ble_eq_true rfl) md_M_wall_19 (fun H locs hP hD hS => ?_)
    have hP : va_P (dC, dI) mC [(nA, .inr (5, [.int 1, .ref nT, .int vs, .int va, .int vf, .int vr, .ref nO, .ref nU, .ref nV, .long vw, .long vh, .long vt, .long vd, .ref nX, .ref nY, .ref nR, .ref nC, .ref nS])), (nT, .inl (cI, 300, .inl gT)), (nO, .inl (cI, 128, .inl gO)), (nU, .inl (cI, 128, .inl gU)), (nV, .inl (cI, 16, .inl gV)), (nX, .inl (cJ, 16, .inr (.inl gX))), (nY, .inl (cJ, 16, .inr (.inl gY))), (nR, .inl (cJ, 16, .inr (.inl gR))), (nC, .inl (cI, 9, .inl gC)), (nS, .inl (cI, 9, .inl gS))] H := hP
    have hD : va_D A [(nA, .inr (5, [.int 1, .ref nT, .int vs, .int va, .int vf, .int vr, .ref nO, .ref nU, .ref nV, .long vw, .long vh, .long vt, .long vd, .ref nX, .ref nY, .ref nR, .ref nC, .ref nS])), (nT, .inl (cI, 300, .inl gT)), (nO, .inl (cI, 128, .inl gO)), (nU, .inl (cI, 128, .inl gU)), (nV, .inl (cI, 16, .inl gV)), (nX, .inl (cJ, 16, .inr (.inl gX))), (nY, .inl (cJ, 16, .inr (.inl gY))), (nR, .inl (cJ, 16, .inr (.inl gR))), (nC, .inl (cI, 9, .inl gC)), (nS, .inl (cI, 9, .inl gS))] := hD
    refine lv_aload_n hx hb md_M_wall_22 rfl (lv_at hl 0 rfl) ?_
    refine va_get (D := (dC, dI)) (ci := 5) (v := .int 1) (C := mR_M) (T := mT_M) (N := 18) hx hb hg gu_M hown hK hP 0 rfl rfl 0 (by decide) (hg _ wd_532) (fun _ h9 => h9) rfl md_M_wall_23 ?_
    refine lv_if_le (tgt := 31) hx hb md_M_wall_26 (by decide) (fun c3 => absurd c3 (by decide)) (fun _ => ?_)
    refine lv_iconst (v := 0) hx hb md_M_wall_29 (by decide) ?_
    exact W.iret (v := 0) hx hb hr (fun t ht hW => ⟨⟨0, (1), rfl, (by rw [fM_wall, if_pos c2]), by have h9 := hP; rw [← ht] at h9; exact h9⟩, hS.F ht⟩) hS.2.2 md_M_wall_30 hlocks
  · refine lv_iconst (v := 0) hx hb md_M_wall_14 (by decide) ?_
    refine lv_goto (tgt := 19) hx hb md_M_wall_15 (by decide) ?_
    refine va_put (D := (dC, dI)) (ci := 5) (v := .int 0) (ty := .int) (C := mR_M) (T := mT_M) (N := 18) hx hb hg gu_M mF_M mO_M mN_M hown hK hP hD hS 0 rfl rfl 0 (by decide) (hg _ wd_532) (fun _ h9 => h9) rfl (by decide +kernel) rfl rfl (Nat.le_of_ble_eq_true rfl) md_M_wall_19 (fun H locs hP hD hS => ?_)
    have hP : va_P (dC, dI) mC [(nA, .inr (5, [.int 0, .ref nT, .int vs, .int va, .int vf, .int vr, .ref nO, .ref nU, .ref nV, .long vw, .long vh, .long vt, .long vd, .ref nX, .ref nY, .ref nR, .ref nC, .ref nS])), (nT, .inl (cI, 300, .inl gT)), (nO, .inl (cI, 128, .inl gO)), (nU, .inl (cI, 128, .inl gU)), (nV, .inl (cI, 16, .inl gV)), (nX, .inl (cJ, 16, .inr (.inl gX))), (nY, .inl (cJ, 16, .inr (.inl gY))), (nR, .inl (cJ, 16, .inr (.inl gR))), (nC, .inl (cI, 9, .inl gC)), (nS, .inl (cI, 9, .inl gS))] H := hP
    have hD : va_D A [(nA, .inr (5, [.int 0, .ref nT, .int vs, .int va, .int vf, .int vr, .ref nO, .ref nU, .ref nV, .long vw, .long vh, .long vt, .long vd, .ref nX, .ref nY, .ref nR, .ref nC, .ref nS])), (nT, .inl (cI, 300, .inl gT)), (nO, .inl (cI, 128, .inl gO)), (nU, .inl (cI, 128, .inl gU)), (nV, .inl (cI, 16, .inl gV)), (nX, .inl (cJ, 16, .inr (.inl gX))), (nY, .inl (cJ, 16, .inr (.inl gY))), (nR, .inl (cJ, 16, .inr (.inl gR))), (nC, .inl (cI, 9, .inl gC)), (nS, .inl (cI, 9, .inl gS))] := hD
    refine lv_aload_n hx hb md_M_wall_22 rfl (lv_at hl 0 rfl) ?_
    refine va_get (D := (dC, dI)) (ci := 5) (v := .int 0) (C := mR_M) (T := mT_M) (N := 18) hx hb hg gu_M hown hK hP 0 rfl rfl 0 (by decide) (hg _ wd_532) (fun _ h9 => h9) rfl md_M_wall_23 ?_
    refine lv_if_le (tgt := 31) hx hb md_M_wall_26 (by decide) (fun _ => ?_) (fun c4 => absurd (by decide) c4)
    refine lv_iconst (v := 0) hx hb md_M_wall_31 (by decide) ?_
    refine lv_istore_n (lv' := [(3, .int 0), (0, .ref nA), (1, .long dist)]) hx hb md_M_wall_32 rfl hl (by decide) rfl (fun ls hl => ?_)
    refine lv_iload_n hx hb md_M_wall_33 rfl (lv_at hl 0 rfl) ?_
    refine lv_bipush (v := 9) hx hb md_M_wall_34 (by decide) ?_
    refine lv_icmp_ge (tgt := 81) hx hb md_M_wall_36 (by decide) (fun c5 => absurd c5 (by decide)) (fun _ => ?_)
    refine lv_iconst (v := 0) hx hb md_M_wall_39 (by decide) ?_
    refine lv_istore (lv' := [(4, .int 0), (3, .int 0), (0, .ref nA), (1, .long dist)]) hx hb md_M_wall_40 hl (by decide) rfl (fun ls hl => ?_)
    exact loop 50 0 0 _ _ ls (by omega) (by omega) (by omega) (by rw [fM_wall, if_neg c2]) hP hD hS (lv_sub hl [2, 3, 1, 0] rfl)

def gM_rows32 (high : Int64) (k : Int32) : Nat → Nat → Int32 × Int32
  | 0, _ => (0, 0)
  | n + 1, n0 => if (high - 37) < (37 + (32 * (Int32.toInt64 (nI n0)))) then (if k = (-1) then (nI n0, 0) else (if (nI n0) ≤ k then ((-1), 0) else (37 + (32 * k), 0))) else (gM_rows32 high k n (n0 + 1))
def fM_rows32 (high : Int64) (k : Int32) : Int32 × Int32 := if (fM_isIn high 1 100000) = 0 then (0, 1) else (if k < (-1) then (0, 1) else (gM_rows32 high k 4001 0))
set_option maxHeartbeats 1000000 in
set_option maxRecDepth 100000 in
theorem ct_M_rows32 (l : Launch) (dC : Nat → ClassId) (dI : Nat → Nat → Nat) (cC cI cJ : ClassId) (nA : Nat) (nT : Nat) (nO : Nat) (nU : Nat) (nV : Nat) (nX : Nat) (nY : Nat) (nR : Nat) (nC : Nat) (nS : Nat) (gT : Nat → Int32) (gO : Nat → Int32) (gU : Nat → Int32) (gV : Nat → Int32) (gX : Nat → Int64) (gY : Nat → Int64) (gR : Nat → Int64) (gC : Nat → Int32) (gS : Nat → Int32) (vc : Int32) (vs : Int32) (va : Int32) (vf : Int32) (vr : Int32) (vw : Int64) (vh : Int64) (vt : Int64) (vd : Int64) (high : Int64) (k : Int32)   : Met l my_M_rows32 (.code my_M_rows32 mb_M_rows32 5 (some .int) :: gw_l) ({ frames := 1, cells := 0, slots := 0, locals := 25 }) (mu_Pc (dC, dI) mC [(cC, .char), (cI, .int), (cJ, .long)] [(nA, .inr (5, [.int vc, .ref nT, .int vs, .int va, .int vf, .int vr, .ref nO, .ref nU, .ref nV, .long vw, .long vh, .long vt, .long vd, .ref nX, .ref nY, .ref nR, .ref nC, .ref nS])), (nT, .inl (cI, 300, .inl gT)), (nO, .inl (cI, 128, .inl gO)), (nU, .inl (cI, 128, .inl gU)), (nV, .inl (cI, 16, .inl gV)), (nX, .inl (cJ, 16, .inr (.inl gX))), (nY, .inl (cJ, 16, .inr (.inl gY))), (nR, .inl (cJ, 16, .inr (.inl gR))), (nC, .inl (cI, 9, .inl gC)), (nS, .inl (cI, 9, .inl gS))] (fun _ => True) [.ref nA, .long high, .int k]) (va_Qi (fun (r : Int32) (u : Int32) => (r, u) = fM_rows32 high k) (fun u t => va_P (dC, dI) mC [(nA, .inr (5, [.int u, .ref nT, .int vs, .int va, .int vf, .int vr, .ref nO, .ref nU, .ref nV, .long vw, .long vh, .long vt, .long vd, .ref nX, .ref nY, .ref nR, .ref nC, .ref nS])), (nT, .inl (cI, 300, .inl gT)), (nO, .inl (cI, 128, .inl gO)), (nU, .inl (cI, 128, .inl gU)), (nV, .inl (cI, 16, .inl gV)), (nX, .inl (cJ, 16, .inr (.inl gX))), (nY, .inl (cJ, 16, .inr (.inl gY))), (nR, .inl (cJ, 16, .inr (.inl gR))), (nC, .inl (cI, 9, .inl gC)), (nS, .inl (cI, 9, .inl gS))] t.heap) (mu_A [(nA, .inr (5, [.int vc, .ref nT, .int vs, .int va, .int vf, .int vr, .ref nO, .ref nU, .ref nV, .long vw, .long vh, .long vt, .long vd, .ref nX, .ref nY, .ref nR, .ref nC, .ref nS])), (nT, .inl (cI, 300, .inl gT)), (nO, .inl (cI, 128, .inl gO)), (nU, .inl (cI, 128, .inl gU)), (nV, .inl (cI, 16, .inl gV)), (nX, .inl (cJ, 16, .inr (.inl gX))), (nY, .inl (cJ, 16, .inr (.inl gY))), (nR, .inl (cJ, 16, .inr (.inl gR))), (nC, .inl (cI, 9, .inl gC)), (nS, .inl (cI, 9, .inl gS))])) 0 0 (mu_A [(nA, .inr (5, [.int vc, .ref nT, .int vs, .int va, .int vf, .int vr, .ref nO, .ref nU, .ref nV, .long vw, .long vh, .long vt, .long vd, .ref nX, .ref nY, .ref nR, .ref nC, .ref nS])), (nT, .inl (cI, 300, .inl gT)), (nO, .inl (cI, 128, .inl gO)), (nU, .inl (cI, 128, .inl gU)), (nV, .inl (cI, 16, .inl gV)), (nX, .inl (cJ, 16, .inr (.inl gX))), (nY, .inl (cJ, 16, .inr (.inl gY))), (nR, .inl (cJ, 16, .inr (.inl gR))), (nC, .inl (cI, 9, .inl gC)), (nS, .inl (cI, 9, .inl gS))]) := by
  refine Met.ofW (cc := mb_M_rows32) (maxL := 5) (ret := (some .int)) (by decide) rfl ?_
  intro p e s m args below meth c s₁ B hml hv
  obtain ⟨rfl, hP, hK, hD0, hE⟩ := hv
  have hx := B.exec
  have hb := B.bytes
  have hr := B.returns
  have hts := atoms_spec (ws := (.code my_M_rows32 mb_M_rows32 5 (some .int) :: gw_l)) B.pre
  have hg : ∀ w ∈ gw_l, w.before _ s = true := fun w h => hts w (List.mem_cons_of_mem _ h)
  have hown : s.vm.findClass mR_M = some m.cls := findClass_of_methodNamed B.named
  have hlocks := B.notSynchronized
  have hD := mu_self hD0
  have hS : va_S (mu_A [(nA, .inr (5, [.int vc, .ref nT, .int vs, .int va, .int vf, .int vr, .ref nO, .ref nU, .ref nV, .long vw, .long vh, .long vt, .long vd, .ref nX, .ref nY, .ref nR, .ref nC, .ref nS])), (nT, .inl (cI, 300, .inl gT)), (nO, .inl (cI, 128, .inl gO)), (nU, .inl (cI, 128, .inl gU)), (nV, .inl (cI, 16, .inl gV)), (nX, .inl (cJ, 16, .inr (.inl gX))), (nY, .inl (cJ, 16, .inr (.inl gY))), (nR, .inl (cJ, 16, .inr (.inl gR))), (nC, .inl (cI, 9, .inl gC)), (nS, .inl (cI, 9, .inl gS))]) s.heap s.heap [] := va_S.rf
  generalize hAe : mu_A [(nA, .inr (5, [.int vc, .ref nT, .int vs, .int va, .int vf, .int vr, .ref nO, .ref nU, .ref nV, .long vw, .long vh, .long vt, .long vd, .ref nX, .ref nY, .ref nR, .ref nC, .ref nS])), (nT, .inl (cI, 300, .inl gT)), (nO, .inl (cI, 128, .inl gO)), (nU, .inl (cI, 128, .inl gU)), (nV, .inl (cI, 16, .inl gV)), (nX, .inl (cJ, 16, .inr (.inl gX))), (nY, .inl (cJ, 16, .inr (.inl gY))), (nR, .inl (cJ, 16, .inr (.inl gR))), (nC, .inl (cI, 9, .inl gC)), (nS, .inl (cI, 9, .inl gS))] = A at hD hS ⊢
  have hl := lv_entry ([.ref nA, .long high, .int k]) (n := 5) (Nat.le_of_ble_eq_true rfl)
  rw [lg_entry_eq]
  generalize (lg_sl ([.ref nA, .long high, .int k]) ++ List.replicate (5 - (lg_sl ([.ref nA, .long high, .int k])).length) Slot.unset).toArray = ls at hl ⊢
  have hl : lv_has ls 5 [(0, .ref nA), (1, .long high), (3, .int k)] := hl
  have loop : ∀ (n : Nat) (n0 : Nat) (H : Heap) (locs : List Loc) (ls : Array Slot), (n0 ≤ 4000) → (¬ fM_isIn high 1 100000 = 0) → 4000 - n0 < n → fM_rows32 high k = gM_rows32 high k n n0 → va_P (dC, dI) mC [(nA, .inr (5, [.int 0, .ref nT, .int vs, .int va, .int vf, .int vr, .ref nO, .ref nU, .ref nV, .long vw, .long vh, .long vt, .long vd, .ref nX, .ref nY, .ref nR, .ref nC, .ref nS])), (nT, .inl (cI, 300, .inl gT)), (nO, .inl (cI, 128, .inl gO)), (nU, .inl (cI, 128, .inl gU)), (nV, .inl (cI, 16, .inl gV)), (nX, .inl (cJ, 16, .inr (.inl gX))), (nY, .inl (cJ, 16, .inr (.inl gY))), (nR, .inl (cJ, 16, .inr (.inl gR))), (nC, .inl (cI, 9, .inl gC)), (nS, .inl (cI, 9, .inl gS))] H → va_D A [(nA, .inr (5, [.int 0, .ref nT, .int vs, .int va, .int vf, .int vr, .ref nO, .ref nU, .ref nV, .long vw, .long vh, .long vt, .long vd, .ref nX, .ref nY, .ref nR, .ref nC, .ref nS])), (nT, .inl (cI, 300, .inl gT)), (nO, .inl (cI, 128, .inl gO)), (nU, .inl (cI, 128, .inl gU)), (nV, .inl (cI, 16, .inl gV)), (nX, .inl (cJ, 16, .inr (.inl gX))), (nY, .inl (cJ, 16, .inr (.inl gY))), (nR, .inl (cJ, 16, .inr (.inl gR))), (nC, .inl (cI, 9, .inl gC)), (nS, .inl (cI, 9, .inl gS))] → va_S A s.heap H locs → lv_has ls 5 [(0, .ref nA), (1, .long high), (3, .int k), (4, .int (nI n0))] → W p l e (headSpec (.code my_M_rows32 mb_M_rows32 5 (some .int) :: gw_l) ({ frames := 1, cells := 0, slots := 0, locals := 25 })).room s m ([.ref nA, .long high, .int k] : List Value).toArray below meth c H locs 0 0 (MQ below (va_Qi (fun (r : Int32) (u : Int32) => (r, u) = fM_rows32 high k) (fun u t => va_P (dC, dI) mC [(nA, .inr (5, [.int u, .ref nT, .int vs, .int va, .int vf, .int vr, .ref nO, .ref nU, .ref nV, .long vw, .long vh, .long vt, .long vd, .ref nX, .ref nY, .ref nR, .ref nC, .ref nS])), (nT, .inl (cI, 300, .inl gT)), (nO, .inl (cI, 128, .inl gO)), (nU, .inl (cI, 128, .inl gU)), (nV, .inl (cI, 16, .inl gV)), (nX, .inl (cJ, 16, .inr (.inl gX))), (nY, .inl (cJ, 16, .inr (.inl gY))), (nR, .inl (cJ, 16, .inr (.inl gR))), (nC, .inl (cI, 9, .inl gC)), (nS, .inl (cI, 9, .inl gS))] t.heap) A) ([.ref nA, .long high, .int k] : List Value).toArray s 0 0 A) (F0 m 37 ls []) := by
    intro n
    induction n with
    | zero =>
      intro n0 H locs ls h1 hin hm
      exact absurd hm (Nat.not_lt_zero _)
    | succ n ih =>
      intro n0 H locs ls h1 hin hm hv hP hD hS hl
      refine lv_ldc2 hx hb hown (hg _ wd_731) md_M_rows32_37 ?_
      refine lv_ldc2 hx hb hown (hg _ wd_732) md_M_rows32_40 ?_
      refine lv_iload hx hb md_M_rows32_43 (lv_at hl 3 rfl) ?_
      refine lv_i2l (v := Int32.toInt64 (nI n0)) hx hb md_M_rows32_45 rfl ?_
      refine lv_lmul hx hb md_M_rows32_46 ?_
      refine lv_ladd hx hb md_M_rows32_47 ?_
      refine lv_lload_n hx hb md_M_rows32_48 rfl (lv_at hl 1 rfl) ?_
      refine lv_ldc2 hx hb hown (hg _ wd_731) md_M_rows32_49 ?_
      refine lv_lsub hx hb md_M_rows32_52 ?_
      refine lx_gt (tgt := 63) hx hb md_M_rows32_53 md_M_rows32_54 (by decide) (fun c7 => ?_) (fun c7 => ?_)
      · refine lv_iload_n hx hb md_M_rows32_63 rfl (lv_at hl 2 rfl) ?_
        refine lv_iconst (v := (-1)) hx hb md_M_rows32_64 (by decide) ?_
        refine lv_icmp_ne (tgt := 73) hx hb md_M_rows32_65 (by decide) (fun c8 => ?_) (fun c8 => ?_)
        · refine lv_iload_n hx hb md_M_rows32_73 rfl (lv_at hl 2 rfl) ?_
          refine lv_iload hx hb md_M_rows32_74 (lv_at hl 3 rfl) ?_
          refine lv_icmp_ge (tgt := 89) hx hb md_M_rows32_76 (by decide) (fun c9 => ?_) (fun c9 => ?_)
          · refine lv_iconst (v := (-1)) hx hb md_M_rows32_89 (by decide) ?_
            exact W.iret (v := (-1)) hx hb hr (fun t ht hW => ⟨⟨(-1), (0), rfl, (by rw [hv, gM_rows32, if_pos c7, if_neg c8, if_pos c9]), by have h9 := hP; rw [← ht] at h9; exact h9⟩, hS.F ht⟩) hS.2.2 md_M_rows32_90 hlocks
          · refine lv_bipush (v := 37) hx hb md_M_rows32_79 (by decide) ?_
            refine lv_bipush (v := 32) hx hb md_M_rows32_81 (by decide) ?_
            refine lv_iload_n hx hb md_M_rows32_83 rfl (lv_at hl 2 rfl) ?_
            refine lv_imul hx hb md_M_rows32_84 ?_
            refine lv_iadd hx hb md_M_rows32_85 ?_
            refine lv_goto (tgt := 90) hx hb md_M_rows32_86 (by decide) ?_
            exact W.iret (v := 37 + (32 * k)) hx hb hr (fun t ht hW => ⟨⟨37 + (32 * k), (0), rfl, (by rw [hv, gM_rows32, if_pos c7, if_neg c8, if_neg c9]), by have h9 := hP; rw [← ht] at h9; exact h9⟩, hS.F ht⟩) hS.2.2 md_M_rows32_90 hlocks
        · refine lv_iload hx hb md_M_rows32_68 (lv_at hl 3 rfl) ?_
          refine lv_goto (tgt := 90) hx hb md_M_rows32_70 (by decide) ?_
          exact W.iret (v := nI n0) hx hb hr (fun t ht hW => ⟨⟨nI n0, (0), rfl, (by rw [hv, gM_rows32, if_pos c7, if_pos c8]), by have h9 := hP; rw [← ht] at h9; exact h9⟩, hS.F ht⟩) hS.2.2 md_M_rows32_90 hlocks
      · have hlt : n0 < 4000 := r32_b hin h1 c7
        refine lv_iinc (v := nI (n0 + 1)) (lv' := [(4, .int (nI (n0 + 1))), (0, .ref nA), (1, .long high), (3, .int k)]) hx hb md_M_rows32_57 hl (k := 3) rfl (by rw [nI_succ]; rfl) (by decide) rfl (fun ls hl => ?_)
        refine lv_goto (tgt := 37) hx hb md_M_rows32_60 (by decide) ?_
        exact ih (n0 + 1) _ _ ls (by omega) hin (by omega) (by rw [hv, gM_rows32, if_neg c7]) hP hD hS (lv_sub hl [1, 2, 3, 0] rfl)
  refine lv_aload_n hx hb md_M_rows32_0 rfl (lv_at hl 0 rfl) ?_
  refine lv_lload_n hx hb md_M_rows32_1 rfl (lv_at hl 1 rfl) ?_
  refine lv_lconst (v := 1) hx hb md_M_rows32_2 (by decide) ?_
  refine lv_ldc2 hx hb hown (hg _ wd_700) md_M_rows32_3 ?_
  have hPc1 := hP.sub (ws' := []) [] rfl
  refine pu_i (W.runS (As := [.long high, .long 1, .long 100000]) (rest := [.ref nA]) ⟨hx, hb, hml, hown, hg⟩ (ct_M_isIn l dC dI cC cI cJ high 1 100000) (gw_cwS hg wd_620 mv_M_isIn rfl rfl ⟨Nat.le_of_ble_eq_true rfl, Nat.le_of_ble_eq_true rfl⟩) (pu_preS pu_blT hK hPc1 pu_e1) rfl rfl hl.1 rfl (lv_room (Nat.le_of_ble_eq_true rfl)) md_M_rows32_6 ⟨Nat.zero_le _, Nat.zero_le _⟩) ?_
  refine lv_if_eq (tgt := 21) hx hb md_M_rows32_9 (by decide) (fun c2 => ?_) (fun c2 => ?_)
  · refine lv_iconst (v := 1) hx hb md_M_rows32_21 (by decide) ?_
    refine va_put (D := (dC, dI)) (ci := 5) (v := .int 1) (ty := .int) (C := mR_M) (T := mT_M) (N := 18) hx hb hg gu_M mF_M mO_M mN_M hown hK hP hD hS 0 rfl rfl 0 (by decide) (hg _ wd_532) (fun _ h9 => h9) rfl (by decide +kernel) rfl rfl (Nat.le_of_ble_eq_true rfl) md_M_rows32_22 (fun H locs hP hD hS => ?_)
    have hP : va_P (dC, dI) mC [(nA, .inr (5, [.int 1, .ref nT, .int vs, .int va, .int vf, .int vr, .ref nO, .ref nU, .ref nV, .long vw, .long vh, .long vt, .long vd, .ref nX, .ref nY, .ref nR, .ref nC, .ref nS])), (nT, .inl (cI, 300, .inl gT)), (nO, .inl (cI, 128, .inl gO)), (nU, .inl (cI, 128, .inl gU)), (nV, .inl (cI, 16, .inl gV)), (nX, .inl (cJ, 16, .inr (.inl gX))), (nY, .inl (cJ, 16, .inr (.inl gY))), (nR, .inl (cJ, 16, .inr (.inl gR))), (nC, .inl (cI, 9, .inl gC)), (nS, .inl (cI, 9, .inl gS))] H := hP
    have hD : va_D A [(nA, .inr (5, [.int 1, .ref nT, .int vs, .int va, .int vf, .int vr, .ref nO, .ref nU, .ref nV, .long vw, .long vh, .long vt, .long vd, .ref nX, .ref nY, .ref nR, .ref nC, .ref nS])), (nT, .inl (cI, 300, .inl gT)), (nO, .inl (cI, 128, .inl gO)), (nU, .inl (cI, 128, .inl gU)), (nV, .inl (cI, 16, .inl gV)), (nX, .inl (cJ, 16, .inr (.inl gX))), (nY, .inl (cJ, 16, .inr (.inl gY))), (nR, .inl (cJ, 16, .inr (.inl gR))), (nC, .inl (cI, 9, .inl gC)), (nS, .inl (cI, 9, .inl gS))] := hD
    refine lv_aload_n hx hb md_M_rows32_25 rfl (lv_at hl 0 rfl) ?_
    refine va_get (D := (dC, dI)) (ci := 5) (v := .int 1) (C := mR_M) (T := mT_M) (N := 18) hx hb hg gu_M hown hK hP 0 rfl rfl 0 (by decide) (hg _ wd_532) (fun _ h9 => h9) rfl md_M_rows32_26 ?_
    refine lv_if_le (tgt := 34) hx hb md_M_rows32_29 (by decide) (fun c3 => absurd c3 (by decide)) (fun _ => ?_)
    refine lv_iconst (v := 0) hx hb md_M_rows32_32 (by decide) ?_
    exact W.iret (v := 0) hx hb hr (fun t ht hW => ⟨⟨0, (1), rfl, (by rw [fM_rows32, if_pos c2]), by have h9 := hP; rw [← ht] at h9; exact h9⟩, hS.F ht⟩) hS.2.2 md_M_rows32_33 hlocks
  · refine lv_iload_n hx hb md_M_rows32_12 rfl (lv_at hl 2 rfl) ?_
    refine lv_iconst (v := (-1)) hx hb md_M_rows32_13 (by decide) ?_
    refine lv_icmp_lt (tgt := 21) hx hb md_M_rows32_14 (by decide) (fun c4 => ?_) (fun c4 => ?_)
    · refine lv_iconst (v := 1) hx hb md_M_rows32_21 (by decide) ?_
      refine va_put (D := (dC, dI)) (ci := 5) (v := .int 1) (ty := .int) (C := mR_M) (T := mT_M) (N := 18) hx hb hg gu_M mF_M mO_M mN_M hown hK hP hD hS 0 rfl rfl 0 (by decide) (hg _ wd_532) (fun _ h9 => h9) rfl (by decide +kernel) rfl rfl (Nat.le_of_ble_eq_true rfl) md_M_rows32_22 (fun H locs hP hD hS => ?_)
      have hP : va_P (dC, dI) mC [(nA, .inr (5, [.int 1, .ref nT, .int vs, .int va, .int vf, .int vr, .ref nO, .ref nU, .ref nV, .long vw, .long vh, .long vt, .long vd, .ref nX, .ref nY, .ref nR, .ref nC, .ref nS])), (nT, .inl (cI, 300, .inl gT)), (nO, .inl (cI, 128, .inl gO)), (nU, .inl (cI, 128, .inl gU)), (nV, .inl (cI, 16, .inl gV)), (nX, .inl (cJ, 16, .inr (.inl gX))), (nY, .inl (cJ, 16, .inr (.inl gY))), (nR, .inl (cJ, 16, .inr (.inl gR))), (nC, .inl (cI, 9, .inl gC)), (nS, .inl (cI, 9, .inl gS))] H := hP
      have hD : va_D A [(nA, .inr (5, [.int 1, .ref nT, .int vs, .int va, .int vf, .int vr, .ref nO, .ref nU, .ref nV, .long vw, .long vh, .long vt, .long vd, .ref nX, .ref nY, .ref nR, .ref nC, .ref nS])), (nT, .inl (cI, 300, .inl gT)), (nO, .inl (cI, 128, .inl gO)), (nU, .inl (cI, 128, .inl gU)), (nV, .inl (cI, 16, .inl gV)), (nX, .inl (cJ, 16, .inr (.inl gX))), (nY, .inl (cJ, 16, .inr (.inl gY))), (nR, .inl (cJ, 16, .inr (.inl gR))), (nC, .inl (cI, 9, .inl gC)), (nS, .inl (cI, 9, .inl gS))] := hD
      refine lv_aload_n hx hb md_M_rows32_25 rfl (lv_at hl 0 rfl) ?_
      refine va_get (D := (dC, dI)) (ci := 5) (v := .int 1) (C := mR_M) (T := mT_M) (N := 18) hx hb hg gu_M hown hK hP 0 rfl rfl 0 (by decide) (hg _ wd_532) (fun _ h9 => h9) rfl md_M_rows32_26 ?_
      refine lv_if_le (tgt := 34) hx hb md_M_rows32_29 (by decide) (fun c5 => absurd c5 (by decide)) (fun _ => ?_)
      refine lv_iconst (v := 0) hx hb md_M_rows32_32 (by decide) ?_
      exact W.iret (v := 0) hx hb hr (fun t ht hW => ⟨⟨0, (1), rfl, (by rw [fM_rows32, if_neg c2, if_pos c4]), by have h9 := hP; rw [← ht] at h9; exact h9⟩, hS.F ht⟩) hS.2.2 md_M_rows32_33 hlocks
    · refine lv_iconst (v := 0) hx hb md_M_rows32_17 (by decide) ?_
      refine lv_goto (tgt := 22) hx hb md_M_rows32_18 (by decide) ?_
      refine va_put (D := (dC, dI)) (ci := 5) (v := .int 0) (ty := .int) (C := mR_M) (T := mT_M) (N := 18) hx hb hg gu_M mF_M mO_M mN_M hown hK hP hD hS 0 rfl rfl 0 (by decide) (hg _ wd_532) (fun _ h9 => h9) rfl (by decide +kernel) rfl rfl (Nat.le_of_ble_eq_true rfl) md_M_rows32_22 (fun H locs hP hD hS => ?_)
      have hP : va_P (dC, dI) mC [(nA, .inr (5, [.int 0, .ref nT, .int vs, .int va, .int vf, .int vr, .ref nO, .ref nU, .ref nV, .long vw, .long vh, .long vt, .long vd, .ref nX, .ref nY, .ref nR, .ref nC, .ref nS])), (nT, .inl (cI, 300, .inl gT)), (nO, .inl (cI, 128, .inl gO)), (nU, .inl (cI, 128, .inl gU)), (nV, .inl (cI, 16, .inl gV)), (nX, .inl (cJ, 16, .inr (.inl gX))), (nY, .inl (cJ, 16, .inr (.inl gY))), (nR, .inl (cJ, 16, .inr (.inl gR))), (nC, .inl (cI, 9, .inl gC)), (nS, .inl (cI, 9, .inl gS))] H := hP
      have hD : va_D A [(nA, .inr (5, [.int 0, .ref nT, .int vs, .int va, .int vf, .int vr, .ref nO, .ref nU, .ref nV, .long vw, .long vh, .long vt, .long vd, .ref nX, .ref nY, .ref nR, .ref nC, .ref nS])), (nT, .inl (cI, 300, .inl gT)), (nO, .inl (cI, 128, .inl gO)), (nU, .inl (cI, 128, .inl gU)), (nV, .inl (cI, 16, .inl gV)), (nX, .inl (cJ, 16, .inr (.inl gX))), (nY, .inl (cJ, 16, .inr (.inl gY))), (nR, .inl (cJ, 16, .inr (.inl gR))), (nC, .inl (cI, 9, .inl gC)), (nS, .inl (cI, 9, .inl gS))] := hD
      refine lv_aload_n hx hb md_M_rows32_25 rfl (lv_at hl 0 rfl) ?_
      refine va_get (D := (dC, dI)) (ci := 5) (v := .int 0) (C := mR_M) (T := mT_M) (N := 18) hx hb hg gu_M hown hK hP 0 rfl rfl 0 (by decide) (hg _ wd_532) (fun _ h9 => h9) rfl md_M_rows32_26 ?_
      refine lv_if_le (tgt := 34) hx hb md_M_rows32_29 (by decide) (fun _ => ?_) (fun c6 => absurd (by decide) c6)
      refine lv_iconst (v := 0) hx hb md_M_rows32_34 (by decide) ?_
      refine lv_istore (lv' := [(4, .int 0), (0, .ref nA), (1, .long high), (3, .int k)]) hx hb md_M_rows32_35 hl (by decide) rfl (fun ls hl => ?_)
      exact loop 4001 0 _ _ ls (by omega) c2 (by omega) (by rw [fM_rows32, if_neg c2, if_neg c4]) hP hD hS (lv_sub hl [1, 2, 3, 0] rfl)
