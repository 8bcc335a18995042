section GWB
variable {R : Room} {s : State} {args : Array Value} {own C : String} {index maxL mc ms n : Nat} {y : MethodName} {bytes : ByteArray} {ret : Option FieldType} {rm : Room} {hh : List (Nat × Nat × Nat × Nat)}
theorem gw_payW (hg : ∀ w ∈ gw_l, w.before args s = true) (hc : Cond.codeWith y bytes maxL ret hh ∈ gw_l) : ∀ w ∈ (Cond.codeWith y bytes maxL ret hh :: gw_l), ∀ (a' : Array Value) (U : State), s.WarmedH U.vm → w.before a' U = true := by
  intro w hw a' U hW
  have h1 : w ∈ gw_l := by
    rcases List.mem_cons.mp hw with h | h
    · rw [h]; exact hc
    · exact h
  exact word_at hW (good_of_word (List.mem_filter.mp h1).2) (hg w h1)
abbrev gw_SW (y : MethodName) (bytes : ByteArray) (maxL : Nat) (ret : Option FieldType) (hh : List (Nat × Nat × Nat × Nat)) (n : Nat) : Prop := Cond.static y ∈ gw_l ∧ Cond.initialized y.cls ∈ gw_l ∧ Cond.codeWith y bytes maxL ret hh ∈ gw_l ∧ gw_D y n
theorem gw_cwSW (hg : ∀ w ∈ gw_l, w.before args s = true) (hl : Cond.methodLink own index y ∈ gw_l) (hv : gw_SW y bytes maxL ret hh n) (hrc : rm.cells = mc) (hrs : rm.slots = ms) (hR : rm.frames + 1 ≤ R.frames ∧ 8 + (maxL + 11) + rm.locals ≤ R.locals) :
    vx_CSW R s args own index y bytes maxL ret hh (Cond.codeWith y bytes maxL ret hh :: gw_l) rm mc ms n :=
  ⟨⟨hrc, hrs, hR.1, hR.2, gw_payW hg hv.2.2.1, List.mem_cons_self⟩, hg _ hv.2.2.1, hg _ hv.2.1, ⟨hv.2.2.2.1, hv.2.2.2.2.1⟩, gw_len hv.2.2.2, hg _ hl, hg _ hv.1⟩
end GWB
/-- what the helpers want, at a later heap: nothing old has changed -/
theorem am_L_at {t1 t2 : Nat} {qs : Nat → Nat} {s : State} {A : Nat → Prop} {H : Heap} {locs : List Loc} (hA : ∀ q, A q → s.heap.size ≤ q) (hS : va_S A s.heap H locs) (h : am_L t1 t2 qs s) : ∀ U : State, U.heap = H → s.WarmedH U.vm → am_L t1 t2 qs U := by
  intro U hU hW
  have kp : ∀ a : Nat, a < s.heap.size → ¬ False → H[a]? = s.heap[a]? := fun a h1 _ => hS.2.1 a h1 (fun z => absurd (hA a z) (Nat.not_le.mpr h1))
  obtain ⟨⟨⟨⟨h1, ⟨h2, h3⟩, h4, h5⟩, ⟨h6, h7⟩, hk⟩, hc⟩, hn⟩ := h
  have hK0 : am_K t1 t2 qs s := ⟨⟨h1, ⟨h2, h3⟩, h4, h5⟩, ⟨h6, h7⟩, hk⟩
  have hX0 : am_X t1 t2 qs s := ⟨hK0, hc⟩
  subst hU
  refine ⟨⟨⟨⟨nw_warm hW h1, ⟨va_Z.moved hW.alike (h2.kept kp), va_T.moved hW.alike (h3.kept kp)⟩, va_Z.moved hW.alike (h4.kept kp), va_T.moved hW.alike (h5.kept kp)⟩, ⟨vx_Zq.moved hW.alike (h6.kept kp), vx_Zq.moved hW.alike (h7.kept kp)⟩, vk_R.warm hW (ak_190 hK0), vk_R.warm hW (ak_192 hK0), vk_R.warm hW (ak_68 hK0), vk_R.warm hW (ak_79 hK0), vk_R.warm hW (ak_90 hK0), vk_R.warm hW (ak_92 hK0), vk_R.warm hW (ak_105 hK0), vk_R.warm hW (ak_196 hK0), vk_R.warm hW (ak_130 hK0), vk_R.warm hW (ak_133 hK0), vk_R.warm hW (ak_194 hK0), vk_R.warm hW (ak_156 hK0), vk_R.warm hW (ak_168 hK0), vk_R.warm hW (ak_176 hK0), vk_R.warm hW (ak_184 hK0)⟩, va_Nw.warmC hW (ac_ISE hX0), va_Nw.warmC hW (ac_IOB hX0), va_Nw.warmC hW (ac_IAE hX0), va_Nw.warmD hW (ac_R hX0), va_Nw.warmD hW (ac_E hX0), va_Nw.warmD hW (ac_T hX0)⟩, va_Nc.moved hW.alike hn.1, va_Nc.moved hW.alike hn.2.1, va_Nc.moved hW.alike hn.2.2⟩
/-- the eight ints behind the first of a call -/
def lw_in (x4 : Int32) (L : Nat) : Prop := vp_in (x4 + 1) L ∧ vp_in (x4 + 2) L ∧ vp_in (x4 + 3) L ∧ vp_in (x4 + 4) L ∧ vp_in (x4 + 5) L ∧ vp_in (x4 + 6) L ∧ vp_in (x4 + 7) L ∧ vp_in (x4 + 8) L
theorem mv_L_row : gw_SW my_L_row mb_L_row 5 (some .int) [(0, 10, 13, 13), (0, 10, 17, 15)] 4 := ⟨wd_171, wd_0, gw_t 172 (by decide +kernel) rfl, by decide +kernel⟩
theorem mv_L_stock : gw_SW my_L_stock mb_L_stock 5 (some .int) [(0, 17, 20, 13), (0, 17, 24, 15), (0, 17, 28, 21)] 4 := ⟨wd_279, wd_0, gw_t 280 (by decide +kernel) rfl, by decide +kernel⟩
theorem mv_L_hinge : gw_SW my_L_hinge mb_L_hinge 8 (some .int) [(0, 13, 16, 13)] 5 := ⟨wd_307, wd_0, gw_t 308 (by decide +kernel) rfl, by decide +kernel⟩
theorem mv_L_other : gw_SW my_L_other mb_L_other 5 (some .int) [(0, 10, 13, 13), (0, 10, 17, 15), (0, 10, 21, 21)] 4 := ⟨wd_326, wd_0, gw_t 327 (by decide +kernel) rfl, by decide +kernel⟩
theorem mv_L_slide : gw_SW my_L_slide mb_L_slide 5 (some .int) [(0, 9, 12, 13)] 3 := ⟨wd_343, wd_0, gw_t 344 (by decide +kernel) rfl, by decide +kernel⟩
theorem mv_L_door : gw_SW my_L_door mb_L_door 11 (some .int) [(0, 22, 25, 21)] 6 := ⟨wd_354, wd_0, gw_t 355 (by decide +kernel) rfl, by decide +kernel⟩
theorem mv_L_weight : gw_SW my_L_weight mb_L_weight 4 (some .int) [(0, 8, 11, 15)] 3 := ⟨wd_372, wd_0, gw_t 373 (by decide +kernel) rfl, by decide +kernel⟩
theorem mv_L_count : gw_SW my_L_count mb_L_count 3 (some .int) [(0, 8, 11, 13)] 2 := ⟨wd_394, wd_0, gw_t 395 (by decide +kernel) rfl, by decide +kernel⟩
theorem mv_L_place : gw_SW my_L_place mb_L_place 5 (some .int) [(0, 9, 12, 13), (0, 9, 16, 15)] 4 := ⟨wd_408, wd_0, gw_t 409 (by decide +kernel) rfl, by decide +kernel⟩
theorem mv_L_hole : gw_SW my_L_hole mb_L_hole 10 (some .int) [(0, 22, 25, 15), (0, 22, 29, 21)] 6 := ⟨wd_429, wd_0, gw_t 430 (by decide +kernel) rfl, by decide +kernel⟩
theorem mv_L_meet : gw_SW my_L_meet mb_L_meet 5 (some .int) [(0, 17, 20, 15)] 4 := ⟨wd_447, wd_0, gw_t 448 (by decide +kernel) rfl, by decide +kernel⟩
theorem mv_L_pair : gw_SW my_L_pair mb_L_pair 4 (some .int) [(0, 9, 12, 15)] 3 := ⟨wd_458, wd_0, gw_t 459 (by decide +kernel) rfl, by decide +kernel⟩
theorem mv_L_wall : gw_SW my_L_wall mb_L_wall 5 (some .int) [(0, 9, 12, 21)] 3 := ⟨wd_470, wd_0, gw_t 471 (by decide +kernel) rfl, by decide +kernel⟩
theorem mv_L_corner : gw_SW my_L_corner mb_L_corner 6 (some .int) [(0, 11, 14, 15)] 5 := ⟨wd_499, wd_0, gw_t 500 (by decide +kernel) rfl, by decide +kernel⟩
theorem mv_L_rows32 : gw_SW my_L_rows32 mb_L_rows32 6 (some .int) [(0, 11, 14, 21)] 4 := ⟨wd_512, wd_0, gw_t 513 (by decide +kernel) rfl, by decide +kernel⟩
