def nw_all (U : State) : Prop := va_Nw (.methodLinkNest "HingeTables" 9 my_S_init "HingeTables") U ∧ va_Nw (.methodLinkNest "HingeTables" 18 my_D_init "HingeTables") U ∧ va_Nw (.fieldLinkNest "HingeTables" 135 "HingeTables$Door" "height" "J" "HingeTables") U ∧ va_Nw (.fieldLinkNest "HingeTables$Table" 79 "HingeTables$Door" "height" "J" "HingeTables") U ∧ va_Nw (.methodLinkNest "HingeTables" 25 my_H_init "HingeTables") U ∧ va_Nw (.methodLinkNest "HingeTables" 32 my_T_init "HingeTables") U ∧ va_Nw (.fieldLinkNest "HingeTables" 186 "HingeTables$Table" "size" "I" "HingeTables") U ∧ va_Nw (.methodLinkNest "HingeTables$Table" 47 my_K_numbersBehind "HingeTables") U ∧ va_Nw (.fieldLinkNest "HingeTables$Door" 46 "HingeTables" "COSINES" "[I" "HingeTables") U ∧ va_Nw (.fieldLinkNest "HingeTables$Door" 53 "HingeTables" "SINES" "[I" "HingeTables") U
theorem nw_24 {U : State} (h : nw_all U) : va_Nw (.methodLinkNest "HingeTables" 9 my_S_init "HingeTables") U := h.1
theorem nw_38 {U : State} (h : nw_all U) : va_Nw (.methodLinkNest "HingeTables" 18 my_D_init "HingeTables") U := h.2.1
theorem nw_47 {U : State} (h : nw_all U) : va_Nw (.fieldLinkNest "HingeTables" 135 "HingeTables$Door" "height" "J" "HingeTables") U := h.2.2.1
theorem nw_48 {U : State} (h : nw_all U) : va_Nw (.fieldLinkNest "HingeTables$Table" 79 "HingeTables$Door" "height" "J" "HingeTables") U := h.2.2.2.1
theorem nw_62 {U : State} (h : nw_all U) : va_Nw (.methodLinkNest "HingeTables" 25 my_H_init "HingeTables") U := h.2.2.2.2.1
theorem nw_79 {U : State} (h : nw_all U) : va_Nw (.methodLinkNest "HingeTables" 32 my_T_init "HingeTables") U := h.2.2.2.2.2.1
theorem nw_87 {U : State} (h : nw_all U) : va_Nw (.fieldLinkNest "HingeTables" 186 "HingeTables$Table" "size" "I" "HingeTables") U := h.2.2.2.2.2.2.1
theorem nw_148 {U : State} (h : nw_all U) : va_Nw (.methodLinkNest "HingeTables$Table" 47 my_K_numbersBehind "HingeTables") U := h.2.2.2.2.2.2.2.1
theorem nw_489 {U : State} (h : nw_all U) : va_Nw (.fieldLinkNest "HingeTables$Door" 46 "HingeTables" "COSINES" "[I" "HingeTables") U := h.2.2.2.2.2.2.2.2.1
theorem nw_495 {U : State} (h : nw_all U) : va_Nw (.fieldLinkNest "HingeTables$Door" 53 "HingeTables" "SINES" "[I" "HingeTables") U := h.2.2.2.2.2.2.2.2.2
theorem nw_warm {s U : State} (hW : s.WarmedH U.vm) (h : nw_all s) : nw_all U := ⟨va_Nw.warmM hW (nw_24 h), va_Nw.warmM hW (nw_38 h), va_Nw.warmF hW (nw_47 h), va_Nw.warmF hW (nw_48 h), va_Nw.warmM hW (nw_62 h), va_Nw.warmM hW (nw_79 h), va_Nw.warmF hW (nw_87 h), va_Nw.warmM hW (nw_148 h), va_Nw.warmF hW (nw_489 h), va_Nw.warmF hW (nw_495 h)⟩
theorem nw_all_bl : pu_bl nw_all := fun _ _ _ hW h => nw_warm hW h
def cs_C (j : Nat) : Int32 := [65, 60, 52, 39, 25, 0, -25, -39, -52].getD j 0
def cs_S (j : Nat) : Int32 := [0, 25, 39, 52, 60, 65, 60, 52, 39].getD j 0
/-- the links of nest mates, and the two tables of the turns -/
def am_S (t1 t2 : Nat) (U : State) : Prop := nw_all U ∧ (va_Z "HingeTables" "COSINES" "[I" (.ref t1) (fun _ => False) U U.heap ∧ va_T .int t1 9 (fun j => .int (cs_C j)) (fun _ => False) U U.heap) ∧ (va_Z "HingeTables" "SINES" "[I" (.ref t2) (fun _ => False) U U.heap ∧ va_T .int t2 9 (fun j => .int (cs_S j)) (fun _ => False) U U.heap)
theorem am_S_bl {t1 t2 : Nat} : pu_bl (am_S t1 t2) := by
  intro U V hH hW h
  obtain ⟨h1, ⟨h2, h3⟩, h4, h5⟩ := h
  refine ⟨nw_warm hW h1, ⟨?_, ?_⟩, ?_, ?_⟩
  · rw [hH]; exact va_Z.moved hW.alike h2
  · rw [hH]; exact va_T.moved hW.alike h3
  · rw [hH]; exact va_Z.moved hW.alike h4
  · rw [hH]; exact va_T.moved hW.alike h5
/-- .. and what a throw wants: two statics of Throwable, the texts -/
def am_K (t1 t2 : Nat) (qs : Nat → Nat) (U : State) : Prop := am_S t1 t2 U ∧ (vx_Zq Bundle.tN "UNASSIGNED_STACK" Bundle.steD (fun _ => False) U U.heap ∧ vx_Zq Bundle.tN "SUPPRESSED_SENTINEL" Bundle.listD (fun _ => False) U U.heap) ∧ vk_R "HingeTables" 190 "no table was read" (qs 0) U ∧ vk_R "HingeTables" 192 "no such row" (qs 1) U ∧ vk_R "HingeTables" 68 "no such number" (qs 2) U ∧ vk_R "HingeTables" 79 "no such stock" (qs 3) U ∧ vk_R "HingeTables" 90 "k is below 0" (qs 4) U ∧ vk_R "HingeTables" 92 "not a row of a hinge" (qs 5) U ∧ vk_R "HingeTables" 105 "no such door" (qs 6) U ∧ vk_R "HingeTables" 196 "no such part" (qs 7) U ∧ vk_R "HingeTables" 130 "the door is beyond the table" (qs 8) U ∧ vk_R "HingeTables" 133 "no such hinge" (qs 9) U ∧ vk_R "HingeTables" 194 "no such hole" (qs 10) U ∧ vk_R "HingeTables" 156 "no such hole can be made" (qs 11) U ∧ vk_R "HingeTables" 168 "no such distance" (qs 12) U ∧ vk_R "HingeTables" 176 "no such corner, turn or axis" (qs 13) U ∧ vk_R "HingeTables" 184 "no such height or row of holes" (qs 14) U
theorem ak_190 {t1 t2 : Nat} {qs : Nat → Nat} {U : State} (h : am_K t1 t2 qs U) : vk_R "HingeTables" 190 "no table was read" (qs 0) U := h.2.2.1
theorem ak_192 {t1 t2 : Nat} {qs : Nat → Nat} {U : State} (h : am_K t1 t2 qs U) : vk_R "HingeTables" 192 "no such row" (qs 1) U := h.2.2.2.1
theorem ak_68 {t1 t2 : Nat} {qs : Nat → Nat} {U : State} (h : am_K t1 t2 qs U) : vk_R "HingeTables" 68 "no such number" (qs 2) U := h.2.2.2.2.1
theorem ak_79 {t1 t2 : Nat} {qs : Nat → Nat} {U : State} (h : am_K t1 t2 qs U) : vk_R "HingeTables" 79 "no such stock" (qs 3) U := h.2.2.2.2.2.1
theorem ak_90 {t1 t2 : Nat} {qs : Nat → Nat} {U : State} (h : am_K t1 t2 qs U) : vk_R "HingeTables" 90 "k is below 0" (qs 4) U := h.2.2.2.2.2.2.1
theorem ak_92 {t1 t2 : Nat} {qs : Nat → Nat} {U : State} (h : am_K t1 t2 qs U) : vk_R "HingeTables" 92 "not a row of a hinge" (qs 5) U := h.2.2.2.2.2.2.2.1
theorem ak_105 {t1 t2 : Nat} {qs : Nat → Nat} {U : State} (h : am_K t1 t2 qs U) : vk_R "HingeTables" 105 "no such door" (qs 6) U := h.2.2.2.2.2.2.2.2.1
theorem ak_196 {t1 t2 : Nat} {qs : Nat → Nat} {U : State} (h : am_K t1 t2 qs U) : vk_R "HingeTables" 196 "no such part" (qs 7) U := h.2.2.2.2.2.2.2.2.2.1
theorem ak_130 {t1 t2 : Nat} {qs : Nat → Nat} {U : State} (h : am_K t1 t2 qs U) : vk_R "HingeTables" 130 "the door is beyond the table" (qs 8) U := h.2.2.2.2.2.2.2.2.2.2.1
theorem ak_133 {t1 t2 : Nat} {qs : Nat → Nat} {U : State} (h : am_K t1 t2 qs U) : vk_R "HingeTables" 133 "no such hinge" (qs 9) U := h.2.2.2.2.2.2.2.2.2.2.2.1
theorem ak_194 {t1 t2 : Nat} {qs : Nat → Nat} {U : State} (h : am_K t1 t2 qs U) : vk_R "HingeTables" 194 "no such hole" (qs 10) U := h.2.2.2.2.2.2.2.2.2.2.2.2.1
theorem ak_156 {t1 t2 : Nat} {qs : Nat → Nat} {U : State} (h : am_K t1 t2 qs U) : vk_R "HingeTables" 156 "no such hole can be made" (qs 11) U := h.2.2.2.2.2.2.2.2.2.2.2.2.2.1
theorem ak_168 {t1 t2 : Nat} {qs : Nat → Nat} {U : State} (h : am_K t1 t2 qs U) : vk_R "HingeTables" 168 "no such distance" (qs 12) U := h.2.2.2.2.2.2.2.2.2.2.2.2.2.2.1
theorem ak_176 {t1 t2 : Nat} {qs : Nat → Nat} {U : State} (h : am_K t1 t2 qs U) : vk_R "HingeTables" 176 "no such corner, turn or axis" (qs 13) U := h.2.2.2.2.2.2.2.2.2.2.2.2.2.2.2.1
theorem ak_184 {t1 t2 : Nat} {qs : Nat → Nat} {U : State} (h : am_K t1 t2 qs U) : vk_R "HingeTables" 184 "no such height or row of holes" (qs 14) U := h.2.2.2.2.2.2.2.2.2.2.2.2.2.2.2.2
theorem am_K_bl {t1 t2 : Nat} {qs : Nat → Nat} : pu_bl (am_K t1 t2 qs) := by
  intro U V hH hW h
  refine ⟨am_S_bl U V hH hW h.1, ⟨?_, ?_⟩, vk_R.warm hW (ak_190 h), vk_R.warm hW (ak_192 h), vk_R.warm hW (ak_68 h), vk_R.warm hW (ak_79 h), vk_R.warm hW (ak_90 h), vk_R.warm hW (ak_92 h), vk_R.warm hW (ak_105 h), vk_R.warm hW (ak_196 h), vk_R.warm hW (ak_130 h), vk_R.warm hW (ak_133 h), vk_R.warm hW (ak_194 h), vk_R.warm hW (ak_156 h), vk_R.warm hW (ak_168 h), vk_R.warm hW (ak_176 h), vk_R.warm hW (ak_184 h)⟩
  · rw [hH]; exact vx_Zq.moved hW.alike h.2.1.1
  · rw [hH]; exact vx_Zq.moved hW.alike h.2.1.2
