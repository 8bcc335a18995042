set_option maxHeartbeats 8000000 in
set_option maxRecDepth 100000 in
theorem law_loop {p : Program} {l : Launch} {e : Env} {s : State} {m : MethodId} {below : List Frame} {meth : Method} {c : Code} {dC : Nat → ClassId} {dI : Nat → Nat → Nat} {cC cI cJ : ClassId} {b L : Nat} {xs : Nat → Int32} {t1 t2 : Nat} {qs : Nat → Nat} (hL : L ≤ 4608) (C0 : lw_At p s m meth c b L xs) (hl9 : l.stackTraces = false) (hE : am_L t1 t2 qs s) (hK : va_K (dC, dI) mC [(cC, .char), (cI, .int), (cJ, .long)] s) : ∀ (n k : Nat), 9 * k ≤ L → L < 9 * (k + n) → ∀ {kA : Nat} {xA : Nat} {xL : Nat} {xl : Nat → Int32} {xz : Int32} {dA : Nat} {dw : Int64} {dh : Int64} {dt : Int64} {dd : Int64} {oA : Nat} {oX : Nat} {oY : Nat} {oR : Nat} {ox : Nat → Int32} {oy : Nat → Int32} {oq : Nat → Int32} {tA : Nat} {tL : Nat} {tN : Nat} {tS : Nat} {tl : Nat → Int32} {tn : Nat → Int32} {ts : Nat → Int32} {tz : Nat} {uA : Nat} {uL : Nat} {uN : Nat} {uS : Nat} {ul : Nat → Int32} {un : Nat → Int32} {us : Nat → Int32} {uz : Int32} {nA : Nat} {nT : Nat} {nO : Nat} {nU : Nat} {nV : Nat} {nX : Nat} {nY : Nat} {nR : Nat} {nC : Nat} {nS : Nat} {gT : Nat → Int32} {gO : Nat → Int32} {gU : Nat → Int32} {gV : Nat → Int32} {gX : Nat → Int64} {gY : Nat → Int64} {gR : Nat → Int64} {gC : Nat → Int32} {gS : Nat → Int32} {vc : Int32} {vs : Int32} {va : Int32} {vf : Int32} {vr : Nat} {vw : Int64} {vh : Int64} {vt : Int64} {vd : Int64} {bA : Nat} {ol : Nat → Int64} {H : Heap} {locs : List Loc} {ls : Array Slot} {cells slots : Nat}, cells ≤ 27 + k → slots ≤ 1283 + 6 * k → IV xl xz dw dh dt dd ox oy oq tl tn ts tz ul gT gO gV gX gY gR gC gS vs vr vw vh vt vd → va_P (dC, dI) mC [(kA, .inr (4, [.ref xA, .ref dA, .ref oA, .ref tA, .ref uA])), (xA, .inr (3, [.ref xL, .int xz])), (xL, .inl (cC, 300, .inl xl)), (dA, .inr (0, [.long dw, .long dh, .long dt, .long dd])), (oA, .inr (1, [.ref oX, .ref oY, .ref oR])), (oX, .inl (cI, 16, .inl ox)), (oY, .inl (cI, 16, .inl oy)), (oR, .inl (cI, 16, .inl oq)), (tA, .inr (2, [.ref tL, .ref tN, .ref tS, .int (nI tz)])), (tL, .inl (cC, 16, .inl tl)), (tN, .inl (cI, 96, .inl tn)), (tS, .inl (cI, 16, .inl ts)), (uA, .inr (2, [.ref uL, .ref uN, .ref uS, .int uz])), (uL, .inl (cC, 16, .inl ul)), (uN, .inl (cI, 96, .inl un)), (uS, .inl (cI, 16, .inl us)), (nA, .inr (5, [.int vc, .ref nT, .int vs, .int va, .int vf, .int (nI vr), .ref nO, .ref nU, .ref nV, .long vw, .long vh, .long vt, .long vd, .ref nX, .ref nY, .ref nR, .ref nC, .ref nS])), (nT, .inl (cI, 300, .inl gT)), (nO, .inl (cI, 128, .inl gO)), (nU, .inl (cI, 128, .inl gU)), (nV, .inl (cI, 16, .inl gV)), (nX, .inl (cJ, 16, .inr (.inl gX))), (nY, .inl (cJ, 16, .inr (.inl gY))), (nR, .inl (cJ, 16, .inr (.inl gR))), (nC, .inl (cI, 9, .inl gC)), (nS, .inl (cI, 9, .inl gS)), (bA, .inl (cJ, 1, .inr (.inl ol)))] H → va_D (fun q : Nat => s.heap.size ≤ q) [(kA, .inr (4, [.ref xA, .ref dA, .ref oA, .ref tA, .ref uA])), (xA, .inr (3, [.ref xL, .int xz])), (xL, .inl (cC, 300, .inl xl)), (dA, .inr (0, [.long dw, .long dh, .long dt, .long dd])), (oA, .inr (1, [.ref oX, .ref oY, .ref oR])), (oX, .inl (cI, 16, .inl ox)), (oY, .inl (cI, 16, .inl oy)), (oR, .inl (cI, 16, .inl oq)), (tA, .inr (2, [.ref tL, .ref tN, .ref tS, .int (nI tz)])), (tL, .inl (cC, 16, .inl tl)), (tN, .inl (cI, 96, .inl tn)), (tS, .inl (cI, 16, .inl ts)), (uA, .inr (2, [.ref uL, .ref uN, .ref uS, .int uz])), (uL, .inl (cC, 16, .inl ul)), (uN, .inl (cI, 96, .inl un)), (uS, .inl (cI, 16, .inl us)), (nA, .inr (5, [.int vc, .ref nT, .int vs, .int va, .int vf, .int (nI vr), .ref nO, .ref nU, .ref nV, .long vw, .long vh, .long vt, .long vd, .ref nX, .ref nY, .ref nR, .ref nC, .ref nS])), (nT, .inl (cI, 300, .inl gT)), (nO, .inl (cI, 128, .inl gO)), (nU, .inl (cI, 128, .inl gU)), (nV, .inl (cI, 16, .inl gV)), (nX, .inl (cJ, 16, .inr (.inl gX))), (nY, .inl (cJ, 16, .inr (.inl gY))), (nR, .inl (cJ, 16, .inr (.inl gR))), (nC, .inl (cI, 9, .inl gC)), (nS, .inl (cI, 9, .inl gS)), (bA, .inl (cJ, 1, .inr (.inl ol)))] → va_S (fun q : Nat => s.heap.size ≤ q) s.heap H locs → lv_has ls 8 [(0, .ref b), (1, .ref kA), (2, .ref nA), (3, .ref bA), (4, .int (nI (9 * k)))] → W p l e room_1 s m #[Value.ref b] below meth c H locs cells slots (lw_Z below #[Value.ref b] s) (F0 m 23 ls []) := by
  obtain ⟨hx, hb, hr, hml, hown, hts, hX, hbl, hlocks, hgv⟩ := id C0
  have hA9 : ∀ q, (fun q : Nat => s.heap.size ≤ q) q → s.heap.size ≤ q := fun _ h => h
  have hbA : ¬ (fun q : Nat => s.heap.size ≤ q) b := Nat.not_le.mpr hbl
  intro n
  induction n with
  | zero =>
    intro k h1 h2
    exact absurd h2 (by omega)
  | succ n ih =>
    intro k hk hn kA xA xL xl xz dA dw dh dt dd oA oX oY oR ox oy oq tA tL tN tS tl tn ts tz uA uL uN uS ul un us uz nA nT nO nU nV nX nY nR nC nS gT gO gU gV gX gY gR gC gS vc vs va vf vr vw vh vt vd bA ol H locs ls cells slots hc hs hI hP hD hS hl
    refine lv_iload hx hb md_L_law_23 (lv_at hl 4 rfl) ?_
    refine lv_aload_n hx hb md_L_law_25 rfl (lv_at hl 0 rfl) ?_
    refine va_slen hx hb hX hbl hbA hS md_L_law_26 ?_
    refine lv_bipush (v := 9) hx hb md_L_law_27 (by decide) ?_
    refine lv_isub hx hb md_L_law_29 ?_
    refine lv_icmp_gt (tgt := 1189) hx hb md_L_law_30 (by decide) (fun c1 => ?_) (fun c1 => ?_)
    · refine lv_iconst (v := 1) hx hb md_L_law_1189 (by decide) ?_
      refine va_forget (fun q hq => hS.2.2 q hq) ?_
      refine W.widen (k := 1067) (n := 9571) (by omega) (by omega) ?_
      exact lw_ret hx hb hr hlocks md_L_law_1190
    · have h9 : 9 * k + 9 ≤ L := lp_le hL hk c1
      have hkc : cells + 1 ≤ room_1.cells := lp_kc (by omega)
      have hks : slots + 6 ≤ room_1.slots := lp_ks (by omega)
      have hi : lw_in (nI (9 * k)) L := lp_in hL h9
      have tl9 : ∀ {kA : Nat} {xA : Nat} {xL : Nat} {xl : Nat → Int32} {xz : Int32} {dA : Nat} {dw : Int64} {dh : Int64} {dt : Int64} {dd : Int64} {oA : Nat} {oX : Nat} {oY : Nat} {oR : Nat} {ox : Nat → Int32} {oy : Nat → Int32} {oq : Nat → Int32} {tA : Nat} {tL : Nat} {tN : Nat} {tS : Nat} {tl : Nat → Int32} {tn : Nat → Int32} {ts : Nat → Int32} {tz : Nat} {uA : Nat} {uL : Nat} {uN : Nat} {uS : Nat} {ul : Nat → Int32} {un : Nat → Int32} {us : Nat → Int32} {uz : Int32} {nA : Nat} {nT : Nat} {nO : Nat} {nU : Nat} {nV : Nat} {nX : Nat} {nY : Nat} {nR : Nat} {nC : Nat} {nS : Nat} {gT : Nat → Int32} {gO : Nat → Int32} {gU : Nat → Int32} {gV : Nat → Int32} {gX : Nat → Int64} {gY : Nat → Int64} {gR : Nat → Int64} {gC : Nat → Int32} {gS : Nat → Int32} {vc : Int32} {vs : Int32} {va : Int32} {vf : Int32} {vr : Nat} {vw : Int64} {vh : Int64} {vt : Int64} {vd : Int64} {bA : Nat} {ol : Nat → Int64} {H : Heap} {locs : List Loc} {ls : Array Slot}, IV xl xz dw dh dt dd ox oy oq tl tn ts tz ul gT gO gV gX gY gR gC gS vs vr vw vh vt vd → va_P (dC, dI) mC [(kA, .inr (4, [.ref xA, .ref dA, .ref oA, .ref tA, .ref uA])), (xA, .inr (3, [.ref xL, .int xz])), (xL, .inl (cC, 300, .inl xl)), (dA, .inr (0, [.long dw, .long dh, .long dt, .long dd])), (oA, .inr (1, [.ref oX, .ref oY, .ref oR])), (oX, .inl (cI, 16, .inl ox)), (oY, .inl (cI, 16, .inl oy)), (oR, .inl (cI, 16, .inl oq)), (tA, .inr (2, [.ref tL, .ref tN, .ref tS, .int (nI tz)])), (tL, .inl (cC, 16, .inl tl)), (tN, .inl (cI, 96, .inl tn)), (tS, .inl (cI, 16, .inl ts)), (uA, .inr (2, [.ref uL, .ref uN, .ref uS, .int uz])), (uL, .inl (cC, 16, .inl ul)), (uN, .inl (cI, 96, .inl un)), (uS, .inl (cI, 16, .inl us)), (nA, .inr (5, [.int vc, .ref nT, .int vs, .int va, .int vf, .int (nI vr), .ref nO, .ref nU, .ref nV, .long vw, .long vh, .long vt, .long vd, .ref nX, .ref nY, .ref nR, .ref nC, .ref nS])), (nT, .inl (cI, 300, .inl gT)), (nO, .inl (cI, 128, .inl gO)), (nU, .inl (cI, 128, .inl gU)), (nV, .inl (cI, 16, .inl gV)), (nX, .inl (cJ, 16, .inr (.inl gX))), (nY, .inl (cJ, 16, .inr (.inl gY))), (nR, .inl (cJ, 16, .inr (.inl gR))), (nC, .inl (cI, 9, .inl gC)), (nS, .inl (cI, 9, .inl gS)), (bA, .inl (cJ, 1, .inr (.inl ol)))] H → va_D (fun q : Nat => s.heap.size ≤ q) [(kA, .inr (4, [.ref xA, .ref dA, .ref oA, .ref tA, .ref uA])), (xA, .inr (3, [.ref xL, .int xz])), (xL, .inl (cC, 300, .inl xl)), (dA, .inr (0, [.long dw, .long dh, .long dt, .long dd])), (oA, .inr (1, [.ref oX, .ref oY, .ref oR])), (oX, .inl (cI, 16, .inl ox)), (oY, .inl (cI, 16, .inl oy)), (oR, .inl (cI, 16, .inl oq)), (tA, .inr (2, [.ref tL, .ref tN, .ref tS, .int (nI tz)])), (tL, .inl (cC, 16, .inl tl)), (tN, .inl (cI, 96, .inl tn)), (tS, .inl (cI, 16, .inl ts)), (uA, .inr (2, [.ref uL, .ref uN, .ref uS, .int uz])), (uL, .inl (cC, 16, .inl ul)), (uN, .inl (cI, 96, .inl un)), (uS, .inl (cI, 16, .inl us)), (nA, .inr (5, [.int vc, .ref nT, .int vs, .int va, .int vf, .int (nI vr), .ref nO, .ref nU, .ref nV, .long vw, .long vh, .long vt, .long vd, .ref nX, .ref nY, .ref nR, .ref nC, .ref nS])), (nT, .inl (cI, 300, .inl gT)), (nO, .inl (cI, 128, .inl gO)), (nU, .inl (cI, 128, .inl gU)), (nV, .inl (cI, 16, .inl gV)), (nX, .inl (cJ, 16, .inr (.inl gX))), (nY, .inl (cJ, 16, .inr (.inl gY))), (nR, .inl (cJ, 16, .inr (.inl gR))), (nC, .inl (cI, 9, .inl gC)), (nS, .inl (cI, 9, .inl gS)), (bA, .inl (cJ, 1, .inr (.inl ol)))] → va_S (fun q : Nat => s.heap.size ≤ q) s.heap H locs → lv_has ls 8 [(0, .ref b), (1, .ref kA), (2, .ref nA), (3, .ref bA), (4, .int (nI (9 * k)))] → W p l e room_1 s m #[Value.ref b] below meth c H locs (cells + 1) (slots + 6) (lw_Z below #[Value.ref b] s) (F0 m 1183 ls []) := by
        intro kA xA xL xl xz dA dw dh dt dd oA oX oY oR ox oy oq tA tL tN tS tl tn ts tz uA uL uN uS ul un us uz nA nT nO nU nV nX nY nR nC nS gT gO gU gV gX gY gR gC gS vc vs va vf vr vw vh vt vd bA ol H locs ls hI hP hD hS hl
        refine lv_iinc (v := nI (9 * (k + 1))) (lv' := [(4, .int (nI (9 * (k + 1)))), (0, .ref b), (1, .ref kA), (2, .ref nA), (3, .ref bA)]) hx hb md_L_law_1183 hl (k := 4) rfl (lp_9 k) (by decide) rfl (fun ls hl => ?_)
        refine lv_goto (tgt := 23) hx hb md_L_law_1186 (by decide) ?_
        exact ih (k + 1) (by omega) (by omega) (by omega) (by omega) hI hP hD hS (lv_sub hl [1, 2, 3, 4, 0] rfl)
      refine lv_aload_n hx hb md_L_law_33 rfl (lv_at hl 0 rfl) ?_
      refine lv_iload hx hb md_L_law_34 (lv_at hl 4 rfl) ?_
      refine va_sld hx hb hX hbl hbA hS (vp_in_nI (by omega) (by omega)) md_L_law_36 ?_
      refine lv_bipush (v := 31) hx hb md_L_law_37 (by decide) ?_
      refine lv_iand hx hb md_L_law_39 ?_
      refine lv_topi (fun sw esw => ?_)
      clear esw
      have hv : sw.toInt < 0 ∨ 16 < sw.toInt ∨ sw.toInt = 0 ∨ sw.toInt = 1 ∨ sw.toInt = 2 ∨ sw.toInt = 3 ∨ sw.toInt = 4 ∨ sw.toInt = 5 ∨ sw.toInt = 6 ∨ sw.toInt = 7 ∨ sw.toInt = 8 ∨ sw.toInt = 9 ∨ sw.toInt = 10 ∨ sw.toInt = 11 ∨ sw.toInt = 12 ∨ sw.toInt = 13 ∨ sw.toInt = 14 ∨ sw.toInt = 15 ∨ sw.toInt = 16 := by omega
      rcases hv with h | h | h | h | h | h | h | h | h | h | h | h | h | h | h | h | h | h | h
      · refine lv_tableOut (tgt := 1183) hx hb md_L_law_40 (Or.inl h) (by decide) ?_
        refine W.widen (k := cells + 1) (n := slots + 6) (Nat.le_add_right _ _) (Nat.le_add_right _ _) ?_
        exact tl9 hI hP hD hS hl
      · refine lv_tableOut (tgt := 1183) hx hb md_L_law_40 (Or.inr h) (by decide) ?_
        refine W.widen (k := cells + 1) (n := slots + 6) (Nat.le_add_right _ _) (Nat.le_add_right _ _) ?_
        exact tl9 hI hP hD hS hl
      · refine lv_tableIn (off := 84) (tgt := 124) hx hb md_L_law_40 (by omega) (by omega) (by rw [h]; rfl) (by decide) ?_
        refine cs_0 C0 hl9 hE hK hA9 hbA hi hkc hks hP hD hS hl (pv_xin hI) (pv_min hI)  (fun a0 H locs ls hP hD hS hl => ?_)
        refine tl9 ?_ hP hD hS hl
        exact pv_unit hI a0
      · refine lv_tableIn (off := 109) (tgt := 149) hx hb md_L_law_40 (by omega) (by omega) (by rw [h]; rfl) (by decide) ?_
        refine cs_1 C0 hl9 hE hK hA9 hbA hi hkc hks hP hD hS hl (pv_xp hI) (pv_xch hI) (pv_vs hI)  (fun hcr H locs ls hP hD hS hl => ?_) (fun hcr H locs ls hP hD hS hl => ?_)
        · obtain ⟨w2, e2, hI2⟩ := pv_read0 (un := un) (us := us) (gU := gU) hI hcr
          rw [e2] at hP hD
          exact tl9 hI2 hP hD hS hl
        · obtain ⟨w1, w2, e1, e2, hI2⟩ := pv_read1 (un := un) (us := us) (gU := gU) hI hcr
          rw [e1, e2] at hP hD
          exact tl9 hI2 hP hD hS hl
      · refine lv_tableIn (off := 122) (tgt := 162) hx hb md_L_law_40 (by omega) (by omega) (by rw [h]; rfl) (by decide) ?_
        refine cs_2 C0 hl9 hE hK hA9 hbA hi hkc hks hP hD hS hl (pv_tz hI) (pv_tch hI) (pv_vr hI) (pv_O hI)  (fun a0 a1 H locs ls hP hD hS hl => ?_)
        refine tl9 ?_ hP hD hS hl
        exact hI
      · refine lv_tableIn (off := 162) (tgt := 202) hx hb md_L_law_40 (by omega) (by omega) (by rw [h]; rfl) (by decide) ?_
        refine cs_3 C0 hl9 hE hK hA9 hbA hi hkc hks hP hD hS hl (pv_tz hI) (pv_vr hI)  (fun a0 a1 H locs ls hP hD hS hl => ?_)
        refine tl9 ?_ hP hD hS hl
        exact pv_stock hI ol a0 a1
      · refine lv_tableIn (off := 202) (tgt := 242) hx hb md_L_law_40 (by omega) (by omega) (by rw [h]; rfl) (by decide) ?_
        refine cs_4 C0 hl9 hE hK hA9 hbA hi hkc hks hP hD hS hl (pv_tz hI) (pv_vr hI)  (fun a0 a1 a2 H locs ls hP hD hS hl => ?_)
        refine tl9 ?_ hP hD hS hl
        exact hI
      · refine lv_tableIn (off := 318) (tgt := 358) hx hb md_L_law_40 (by omega) (by omega) (by rw [h]; rfl) (by decide) ?_
        refine cs_5 C0 hl9 hE hK hA9 hbA hi hkc hks hP hD hS hl (pv_tz hI) (pv_tch hI) (pv_vr hI)  (fun a0 a1 H locs ls hP hD hS hl => ?_)
        refine tl9 ?_ hP hD hS hl
        exact hI
      · refine lv_tableIn (off := 358) (tgt := 398) hx hb md_L_law_40 (by omega) (by omega) (by rw [h]; rfl) (by decide) ?_
        refine cs_6 C0 hl9 hE hK hA9 hbA hi hkc hks hP hD hS hl (pv_tz hI) (pv_vr hI)  (fun a0 H locs ls hP hD hS hl => ?_)
        refine tl9 ?_ hP hD hS hl
        exact hI
      · refine lv_tableIn (off := 418) (tgt := 458) hx hb md_L_law_40 (by omega) (by omega) (by rw [h]; rfl) (by decide) ?_
        refine cs_7 C0 hl9 hE hK hA9 hbA hi hkc hks hP hD hS hl   (fun a0 a1 a2 a3 H locs ls hP hD hS hl => ?_)
        refine tl9 ?_ hP hD hS hl
        exact pv_door hI ol a0 a1 a2 a3
      · refine lv_tableIn (off := 616) (tgt := 656) hx hb md_L_law_40 (by omega) (by omega) (by rw [h]; rfl) (by decide) ?_
        refine cs_8 C0 hl9 hE hK hA9 hbA hi hkc hks hP hD hS hl (pv_g0 hI) (pv_g1 hI)  (fun a0 H locs ls hP hD hS hl => ?_)
        refine tl9 ?_ hP hD hS hl
        exact hI
      · refine lv_tableIn (off := 644) (tgt := 684) hx hb md_L_law_40 (by omega) (by omega) (by rw [h]; rfl) (by decide) ?_
        refine cs_9 C0 hl9 hE hK hA9 hbA hi hkc hks hP hD hS hl (pv_tz hI) (pv_vr hI)  (fun H locs ls hP hD hS hl => ?_)
        refine tl9 ?_ hP hD hS hl
        exact hI
      · refine lv_tableIn (off := 660) (tgt := 700) hx hb md_L_law_40 (by omega) (by omega) (by rw [h]; rfl) (by decide) ?_
        refine cs_10 C0 hl9 hE hK hA9 hbA hi hkc hks hP hD hS hl (pv_tz hI) (pv_vr hI) (pv_p1 hI) (fun k => pv_p2 hI k) (fun a0 a1 h1 h2 h3 => h3 ((qm_place hI ol a0 a1).2 h2)) (fun a0 a1 h => h (qm_place hI ol a0 a1).1) (fun a0 a1 H locs ls hP hD hS hl => ?_)
        refine tl9 ?_ hP hD hS hl
        exact hI
      · refine lv_tableIn (off := 727) (tgt := 767) hx hb md_L_law_40 (by omega) (by omega) (by rw [h]; rfl) (by decide) ?_
        refine cs_11 C0 hl9 hE hK hA9 hbA hi hkc hks hP hD hS hl   (fun a0 a1 a2 a3 H locs ls hP hD hS hl => ?_)
        refine tl9 ?_ hP hD hS hl
        exact pv_hole hI ol a0 a1 a2 a3
      · refine lv_tableIn (off := 891) (tgt := 931) hx hb md_L_law_40 (by omega) (by omega) (by rw [h]; rfl) (by decide) ?_
        refine cs_12 C0 hl9 hE hK hA9 hbA hi hkc hks hP hD hS hl   (fun a0 a1 H locs ls hP hD hS hl => ?_)
        refine tl9 ?_ hP hD hS hl
        exact hI
      · refine lv_tableIn (off := 931) (tgt := 971) hx hb md_L_law_40 (by omega) (by omega) (by rw [h]; rfl) (by decide) ?_
        refine cs_13 C0 hl9 hE hK hA9 hbA hi hkc hks hP hD hS hl   (fun a0 H locs ls hP hD hS hl => ?_)
        refine tl9 ?_ hP hD hS hl
        exact hI
      · refine lv_tableIn (off := 959) (tgt := 999) hx hb md_L_law_40 (by omega) (by omega) (by rw [h]; rfl) (by decide) ?_
        refine cs_14 C0 hl9 hE hK hA9 hbA hi hkc hks hP hD hS hl   (fun a0 H locs ls hP hD hS hl => ?_)
        refine tl9 ?_ hP hD hS hl
        exact hI
      · refine lv_tableIn (off := 1019) (tgt := 1059) hx hb md_L_law_40 (by omega) (by omega) (by rw [h]; rfl) (by decide) ?_
        refine cs_15 C0 hl9 hE hK hA9 hbA hi hkc hks hP hD hS hl   (fun a0 a1 a2 H locs ls hP hD hS hl => ?_)
        refine tl9 ?_ hP hD hS hl
        exact hI
      · refine lv_tableIn (off := 1071) (tgt := 1111) hx hb md_L_law_40 (by omega) (by omega) (by rw [h]; rfl) (by decide) ?_
        refine cs_16 C0 hl9 hE hK hA9 hbA hi hkc hks hP hD hS hl   (fun a0 a1 H locs ls hP hD hS hl => ?_)
        refine tl9 ?_ hP hD hS hl
        exact hI
