section GWA
variable {R : Room} {s : State} {args : Array Value} {own C : String} {index maxL mc ms n : Nat} {y : MethodName} {bytes : ByteArray} {ret : Option FieldType} {rm : Room}
theorem gw_pay (hg : ∀ w ∈ gw_l, w.before args s = true) (hc : Cond.code y bytes maxL ret ∈ gw_l) : ∀ w ∈ (Cond.code y bytes maxL ret :: gw_l), ∀ (a' : Array Value) (U : State), s.WarmedH U.vm → w.before a' U = true := by
  intro w hw a' U hW
  have h1 : w ∈ gw_l := by
    rcases List.mem_cons.mp hw with h | h
    · rw [h]; exact hc
    · exact h
  exact word_at hW (good_of_word (List.mem_filter.mp h1).2) (hg w h1)
abbrev gw_D (y : MethodName) (n : Nat) : Prop := y.cls ≠ "java/lang/invoke/MethodHandle" ∧ y.cls ≠ "java/lang/invoke/VarHandle" ∧ (parseMethodDescriptor y.desc).map (fun d => d.parameters.length) = some n
theorem gw_len (h : gw_D y n) : ∀ sig, parseMethodDescriptor y.desc = some sig → n = sig.parameters.length := fun sig hs => by
  have h2 := h.2.2
  rw [hs] at h2
  exact (Option.some.inj h2).symm
/-- an instance method: its words -/
abbrev gw_V (y : MethodName) (bytes : ByteArray) (maxL : Nat) (ret : Option FieldType) (n : Nat) : Prop := Cond.instanceMethod y ∈ gw_l ∧ Cond.selects y.cls y y ∈ gw_l ∧ Cond.initialized y.cls ∈ gw_l ∧ Cond.code y bytes maxL ret ∈ gw_l ∧ gw_D y n
abbrev gw_S (y : MethodName) (bytes : ByteArray) (maxL : Nat) (ret : Option FieldType) (n : Nat) : Prop := Cond.static y ∈ gw_l ∧ Cond.initialized y.cls ∈ gw_l ∧ Cond.code y bytes maxL ret ∈ gw_l ∧ gw_D y n
abbrev gw_I (y : MethodName) (bytes : ByteArray) (maxL : Nat) (n : Nat) : Prop := Cond.instanceMethod y ∈ gw_l ∧ Cond.initialized y.cls ∈ gw_l ∧ Cond.code y bytes maxL none ∈ gw_l ∧ y.name = "<init>" ∧ gw_D y n
theorem gw_cwV (hg : ∀ w ∈ gw_l, w.before args s = true) (hl : Cond.methodLink own index y ∈ gw_l) (hv : gw_V y bytes maxL ret n) (hrc : rm.cells = mc) (hrs : rm.slots = ms) (hR : rm.frames + 1 ≤ R.frames ∧ 8 + (maxL + 11) + rm.locals ≤ R.locals) :
    CallW R s args own y.cls index y bytes maxL ret (Cond.code y bytes maxL ret :: gw_l) rm mc ms n :=
  ⟨⟨hrc, hrs, hR.1, hR.2, gw_pay hg hv.2.2.2.1, List.mem_cons_self, hg _ hv.2.2.2.1, hg _ hv.2.2.1, ⟨hv.2.2.2.2.1, hv.2.2.2.2.2.1⟩, gw_len hv.2.2.2.2, hg _ hl⟩, hg _ hv.1, hg _ hv.2.1⟩
theorem gw_cwS (hg : ∀ w ∈ gw_l, w.before args s = true) (hl : Cond.methodLink own index y ∈ gw_l) (hv : gw_S y bytes maxL ret n) (hrc : rm.cells = mc) (hrs : rm.slots = ms) (hR : rm.frames + 1 ≤ R.frames ∧ 8 + (maxL + 11) + rm.locals ≤ R.locals) :
    CallB R s args own index y bytes maxL ret (Cond.code y bytes maxL ret :: gw_l) rm mc ms n ∧ (Cond.static y).before args s = true :=
  ⟨⟨hrc, hrs, hR.1, hR.2, gw_pay hg hv.2.2.1, List.mem_cons_self, hg _ hv.2.2.1, hg _ hv.2.1, ⟨hv.2.2.2.1, hv.2.2.2.2.1⟩, gw_len hv.2.2.2, hg _ hl⟩, hg _ hv.1⟩
theorem gw_cwI (hg : ∀ w ∈ gw_l, w.before args s = true) (hl : Cond.methodLink own index y ∈ gw_l) (hv : gw_I y bytes maxL n) (hrc : rm.cells = mc) (hrs : rm.slots = ms) (hR : rm.frames + 1 ≤ R.frames ∧ 8 + (maxL + 11) + rm.locals ≤ R.locals) :
    CallB R s args own index y bytes maxL none (Cond.code y bytes maxL none :: gw_l) rm mc ms n ∧ y.name = "<init>" ∧ (Cond.instanceMethod y).before args s = true :=
  ⟨⟨hrc, hrs, hR.1, hR.2, gw_pay hg hv.2.2.1, List.mem_cons_self, hg _ hv.2.2.1, hg _ hv.2.1, ⟨hv.2.2.2.2.1, hv.2.2.2.2.2.1⟩, gw_len hv.2.2.2.2, hg _ hl⟩, hv.2.2.2.1, hg _ hv.1⟩
/-- nest mates: the link stands in the state, not among the good words -/
theorem gw_cnS {host : String} (hg : ∀ w ∈ gw_l, w.before args s = true) (hl : va_Nw (.methodLinkNest own index y host) s) (hv : gw_S y bytes maxL ret n) (hrc : rm.cells = mc) (hrs : rm.slots = ms) (hR : rm.frames + 1 ≤ R.frames ∧ 8 + (maxL + 11) + rm.locals ≤ R.locals) :
    va_CN R s args own index y host bytes maxL ret (Cond.code y bytes maxL ret :: gw_l) rm mc ms n ∧ (Cond.static y).before args s = true ∧ True :=
  ⟨⟨⟨hrc, hrs, hR.1, hR.2, gw_pay hg hv.2.2.1, List.mem_cons_self⟩, hg _ hv.2.2.1, hg _ hv.2.1, ⟨hv.2.2.2.1, hv.2.2.2.2.1⟩, gw_len hv.2.2.2, va_Nw.use rfl hl⟩, hg _ hv.1, trivial⟩
theorem gw_cnI {host : String} (hg : ∀ w ∈ gw_l, w.before args s = true) (hl : va_Nw (.methodLinkNest own index y host) s) (hv : gw_I y bytes maxL n) (hrc : rm.cells = mc) (hrs : rm.slots = ms) (hR : rm.frames + 1 ≤ R.frames ∧ 8 + (maxL + 11) + rm.locals ≤ R.locals) :
    va_CN R s args own index y host bytes maxL none (Cond.code y bytes maxL none :: gw_l) rm mc ms n ∧ y.name = "<init>" ∧ (Cond.instanceMethod y).before args s = true :=
  ⟨⟨⟨hrc, hrs, hR.1, hR.2, gw_pay hg hv.2.2.1, List.mem_cons_self⟩, hg _ hv.2.2.1, hg _ hv.2.1, ⟨hv.2.2.2.2.1, hv.2.2.2.2.2.1⟩, gw_len hv.2.2.2.2, va_Nw.use rfl hl⟩, hv.2.2.2.1, hg _ hv.1⟩
end GWA

theorem gu_D : ∀ w ∈ u_ws mR_D mT_D 4, w ∈ gw_l := by
  have e : u_ws mR_D mT_D 4 = [Cond.lays "HingeTables$Door" "HingeTables$Door" "width" "J", Cond.lays "HingeTables$Door" "HingeTables$Door" "height" "J", Cond.lays "HingeTables$Door" "HingeTables$Door" "thickness" "J", Cond.lays "HingeTables$Door" "HingeTables$Door" "heaviness" "J"] := by decide +kernel
  rw [e]
  intro w hw
  simp only [List.mem_cons, List.not_mem_nil, or_false] at hw
  rcases hw with rfl | rfl | rfl | rfl
  · exact wd_51
  · exact wd_53
  · exact wd_55
  · exact wd_57
theorem gu_H : ∀ w ∈ u_ws mR_H mT_H 3, w ∈ gw_l := by
  have e : u_ws mR_H mT_H 3 = [Cond.laysFinal "HingeTables$Holes" "HingeTables$Holes" "xs" "[I", Cond.laysFinal "HingeTables$Holes" "HingeTables$Holes" "ys" "[I", Cond.laysFinal "HingeTables$Holes" "HingeTables$Holes" "radii" "[I"] := by decide +kernel
  rw [e]
  intro w hw
  simp only [List.mem_cons, List.not_mem_nil, or_false] at hw
  rcases hw with rfl | rfl | rfl
  · exact wd_69
  · exact wd_71
  · exact wd_73
theorem gu_T : ∀ w ∈ u_ws mR_T mT_T 4, w ∈ gw_l := by
  have e : u_ws mR_T mT_T 4 = [Cond.laysFinal "HingeTables$Table" "HingeTables$Table" "letters" "[C", Cond.laysFinal "HingeTables$Table" "HingeTables$Table" "numbers" "[I", Cond.laysFinal "HingeTables$Table" "HingeTables$Table" "stocks" "[I", Cond.lays "HingeTables$Table" "HingeTables$Table" "size" "I"] := by decide +kernel
  rw [e]
  intro w hw
  simp only [List.mem_cons, List.not_mem_nil, or_false] at hw
  rcases hw with rfl | rfl | rfl | rfl
  · exact wd_88
  · exact wd_90
  · exact wd_92
  · exact wd_94
theorem gu_S : ∀ w ∈ u_ws mR_S mT_S 2, w ∈ gw_l := by
  have e : u_ws mR_S mT_S 2 = [Cond.laysFinal "HingeTables$Text" "HingeTables$Text" "characters" "[C", Cond.lays "HingeTables$Text" "HingeTables$Text" "length" "I"] := by decide +kernel
  rw [e]
  intro w hw
  simp only [List.mem_cons, List.not_mem_nil, or_false] at hw
  rcases hw with rfl | rfl
  · exact wd_30
  · exact wd_32
theorem gu_K : ∀ w ∈ u_ws mR_K mT_K 5, w ∈ gw_l := by
  have e : u_ws mR_K mT_K 5 = [Cond.laysFinal "HingeTables" "HingeTables" "text" "LHingeTables$Text;", Cond.laysFinal "HingeTables" "HingeTables" "ownDoor" "LHingeTables$Door;", Cond.laysFinal "HingeTables" "HingeTables" "holes" "LHingeTables$Holes;", Cond.lays "HingeTables" "HingeTables" "table" "LHingeTables$Table;", Cond.lays "HingeTables" "HingeTables" "spare" "LHingeTables$Table;"] := by decide +kernel
  rw [e]
  intro w hw
  simp only [List.mem_cons, List.not_mem_nil, or_false] at hw
  rcases hw with rfl | rfl | rfl | rfl | rfl
  · exact wd_102
  · exact wd_104
  · exact wd_106
  · exact wd_108
  · exact wd_110
theorem gu_M : ∀ w ∈ u_ws mR_M mT_M 18, w ∈ gw_l := by
  have e : u_ws mR_M mT_M 18 = [Cond.lays "HingeTablesModel" "HingeTablesModel" "code" "I", Cond.laysFinal "HingeTablesModel" "HingeTablesModel" "typed" "[I", Cond.lays "HingeTablesModel" "HingeTablesModel" "size" "I", Cond.lays "HingeTablesModel" "HingeTablesModel" "at" "I", Cond.lays "HingeTablesModel" "HingeTablesModel" "failed" "I", Cond.lays "HingeTablesModel" "HingeTablesModel" "rows" "I", Cond.laysFinal "HingeTablesModel" "HingeTablesModel" "told" "[I", Cond.laysFinal "HingeTablesModel" "HingeTablesModel" "draft" "[I", Cond.laysFinal "HingeTablesModel" "HingeTablesModel" "stocks" "[I", Cond.lays "HingeTablesModel" "HingeTablesModel" "width" "J", Cond.lays "HingeTablesModel" "HingeTablesModel" "height" "J", Cond.lays "HingeTablesModel" "HingeTablesModel" "thick" "J", Cond.lays "HingeTablesModel" "HingeTablesModel" "density" "J", Cond.laysFinal "HingeTablesModel" "HingeTablesModel" "xs" "[J", Cond.laysFinal "HingeTablesModel" "HingeTablesModel" "ys" "[J", Cond.laysFinal "HingeTablesModel" "HingeTablesModel" "radii" "[J", Cond.laysFinal "HingeTablesModel" "HingeTablesModel" "cosines" "[I", Cond.laysFinal "HingeTablesModel" "HingeTablesModel" "sines" "[I"] := by decide +kernel
  rw [e]
  intro w hw
  simp only [List.mem_cons, List.not_mem_nil, or_false] at hw
  rcases hw with rfl | rfl | rfl | rfl | rfl | rfl | rfl | rfl | rfl | rfl | rfl | rfl | rfl | rfl | rfl | rfl | rfl | rfl
  · exact wd_550
  · exact wd_552
  · exact wd_554
  · exact wd_556
  · exact wd_558
  · exact wd_560
  · exact wd_562
  · exact wd_564
  · exact wd_566
  · exact wd_568
  · exact wd_570
  · exact wd_572
  · exact wd_574
  · exact wd_576
  · exact wd_578
  · exact wd_580
  · exact wd_582
  · exact wd_584
theorem mv_K_init : gw_I my_K_init mb_K_init 1 0 := ⟨wd_17, wd_1, wd_18, rfl, by decide +kernel⟩
theorem mv_S_init : gw_I my_S_init mb_S_init 1 0 := ⟨wd_25, wd_2, wd_26, rfl, by decide +kernel⟩
theorem mv_D_init : gw_I my_D_init mb_D_init 1 0 := ⟨wd_39, wd_3, wd_40, rfl, by decide +kernel⟩
theorem mv_H_init : gw_I my_H_init mb_H_init 1 0 := ⟨wd_63, wd_4, wd_64, rfl, by decide +kernel⟩
theorem mv_T_init : gw_I my_T_init mb_T_init 1 0 := ⟨wd_80, wd_5, wd_81, rfl, by decide +kernel⟩
theorem mv_K_unit : gw_V my_K_unit mb_K_unit 2 (some .boolean) 1 := ⟨wd_114, wd_115, wd_1, wd_116, by decide +kernel⟩
theorem mv_S_add : gw_V my_S_add mb_S_add 2 (some .boolean) 1 := ⟨wd_118, wd_119, wd_2, wd_120, by decide +kernel⟩
theorem mv_K_read : gw_V my_K_read mb_K_read 3 (some .int) 0 := ⟨wd_122, wd_123, wd_1, wd_124, by decide +kernel⟩
theorem mv_T_fill : gw_V my_T_fill mb_T_fill 4 (some .int) 1 := ⟨wd_126, wd_127, wd_5, wd_128, by decide +kernel⟩
theorem mv_S_endsAt : gw_V my_S_endsAt mb_S_endsAt 2 (some .boolean) 1 := ⟨wd_130, wd_131, wd_2, wd_132, by decide +kernel⟩
theorem mv_T_finish : gw_V my_T_finish mb_T_finish 3 (some .int) 1 := ⟨wd_135, gw_p 0 (by decide +kernel) rfl, wd_5, wd_136, by decide +kernel⟩
theorem mv_S_at : gw_V my_S_at mb_S_at 2 (some .char) 1 := ⟨wd_138, wd_139, wd_2, wd_140, by decide +kernel⟩
theorem mv_T_fault : gw_S my_T_fault mb_T_fault 1 (some .int) 1 := ⟨wd_142, wd_5, wd_143, by decide +kernel⟩
theorem mv_T_fillRow : gw_V my_T_fillRow mb_T_fillRow 8 (some .int) 3 := ⟨wd_146, gw_p 1 (by decide +kernel) rfl, wd_5, wd_147, by decide +kernel⟩
theorem mv_K_numbersBehind : gw_S my_K_numbersBehind mb_K_numbersBehind 1 (some .int) 1 := ⟨wd_149, wd_1, wd_150, by decide +kernel⟩
theorem mv_T_fillNumber : gw_V my_T_fillNumber mb_T_fillNumber 8 (some .int) 4 := ⟨wd_153, gw_p 2 (by decide +kernel) rfl, wd_5, wd_154, by decide +kernel⟩
theorem mv_T_isDigit : gw_S my_T_isDigit mb_T_isDigit 1 (some .boolean) 1 := ⟨wd_156, wd_5, wd_157, by decide +kernel⟩
theorem mv_T_mayStand : gw_V my_T_mayStand mb_T_mayStand 4 (some .boolean) 3 := ⟨wd_160, gw_p 3 (by decide +kernel) rfl, wd_5, wd_161, by decide +kernel⟩
theorem mv_T_number : gw_V my_T_number mb_T_number 3 (some .int) 2 := ⟨wd_163, wd_164, wd_5, wd_165, by decide +kernel⟩
theorem mv_S_clear : gw_V my_S_clear mb_S_clear 1 none 0 := ⟨wd_167, wd_168, wd_2, wd_169, by decide +kernel⟩
theorem mv_K_row : gw_V my_K_row mb_K_row 3 (some .int) 2 := ⟨wd_176, wd_177, wd_1, wd_178, by decide +kernel⟩
theorem mv_K_needTable : gw_V my_K_needTable mb_K_needTable 1 none 0 := ⟨wd_181, gw_p 4 (by decide +kernel) rfl, wd_1, wd_182, by decide +kernel⟩
theorem mv_K_needRow : gw_V my_K_needRow mb_K_needRow 2 none 1 := ⟨wd_253, gw_p 6 (by decide +kernel) rfl, wd_1, wd_254, by decide +kernel⟩
theorem mv_T_letter : gw_V my_T_letter mb_T_letter 2 (some .char) 1 := ⟨wd_272, wd_273, wd_5, wd_274, by decide +kernel⟩
theorem mv_K_stock : gw_V my_K_stock mb_K_stock 3 (some .boolean) 2 := ⟨wd_283, wd_284, wd_1, wd_285, by decide +kernel⟩
theorem mv_T_changeStock : gw_V my_T_changeStock mb_T_changeStock 4 (some .boolean) 2 := ⟨wd_303, wd_304, wd_5, wd_305, by decide +kernel⟩
theorem mv_K_hinge : gw_V my_K_hinge mb_K_hinge 6 (some .int) 3 := ⟨wd_310, wd_311, wd_1, wd_312, by decide +kernel⟩
theorem mv_T_firstHinge : gw_V my_T_firstHinge mb_T_firstHinge 7 (some .int) 3 := ⟨wd_314, wd_315, wd_5, wd_316, by decide +kernel⟩
theorem mv_T_isStocked : gw_V my_T_isStocked mb_T_isStocked 3 (some .boolean) 2 := ⟨wd_319, gw_p 7 (by decide +kernel) rfl, wd_5, wd_320, by decide +kernel⟩
theorem mv_T_holds : gw_V my_T_holds mb_T_holds 7 (some .boolean) 4 := ⟨wd_323, gw_p 8 (by decide +kernel) rfl, wd_5, wd_324, by decide +kernel⟩
theorem mv_K_other : gw_V my_K_other mb_K_other 3 (some .int) 2 := ⟨wd_329, wd_330, wd_1, wd_331, by decide +kernel⟩
theorem mv_T_otherHinge : gw_V my_T_otherHinge mb_T_otherHinge 5 (some .int) 2 := ⟨wd_335, wd_336, wd_5, wd_337, by decide +kernel⟩
theorem mv_T_canReplace : gw_V my_T_canReplace mb_T_canReplace 3 (some .boolean) 2 := ⟨wd_340, gw_p 9 (by decide +kernel) rfl, wd_5, wd_341, by decide +kernel⟩
theorem mv_K_slide : gw_V my_K_slide mb_K_slide 3 (some .int) 1 := ⟨wd_346, wd_347, wd_1, wd_348, by decide +kernel⟩
theorem mv_T_longestSlide : gw_V my_T_longestSlide mb_T_longestSlide 5 (some .int) 1 := ⟨wd_350, wd_351, wd_5, wd_352, by decide +kernel⟩
theorem mv_K_door : gw_V my_K_door mb_K_door 9 (some .boolean) 4 := ⟨wd_357, wd_358, wd_1, wd_359, by decide +kernel⟩
theorem mv_K_isOfDoor : gw_S my_K_isOfDoor mb_K_isOfDoor 2 (some .boolean) 1 := ⟨wd_361, wd_1, wd_362, by decide +kernel⟩
theorem mv_K_isWithin : gw_S my_K_isWithin mb_K_isWithin 4 (some .boolean) 3 := ⟨wd_364, wd_1, wd_365, by decide +kernel⟩
theorem mv_D_change : gw_V my_D_change mb_D_change 10 (some .boolean) 4 := ⟨wd_368, wd_369, wd_3, wd_370, by decide +kernel⟩
theorem mv_K_weight : gw_V my_K_weight mb_K_weight 2 (some .long) 1 := ⟨wd_375, wd_376, wd_1, wd_377, by decide +kernel⟩
theorem mv_K_needPart : gw_S my_K_needPart mb_K_needPart 1 none 1 := ⟨wd_379, wd_1, wd_380, by decide +kernel⟩
theorem mv_D_millionWeights : gw_V my_D_millionWeights mb_D_millionWeights 1 (some .long) 0 := ⟨wd_383, wd_384, wd_3, wd_385, by decide +kernel⟩
theorem mv_K_partOfFraction : gw_S my_K_partOfFraction mb_K_partOfFraction 9 (some .long) 3 := ⟨wd_388, wd_1, wd_389, by decide +kernel⟩
theorem mv_K_commonDivisor : gw_S my_K_commonDivisor mb_K_commonDivisor 11 (some .long) 2 := ⟨wd_391, wd_1, wd_392, by decide +kernel⟩
theorem mv_K_count : gw_V my_K_count mb_K_count 1 (some .int) 0 := ⟨wd_397, wd_398, wd_1, wd_399, by decide +kernel⟩
theorem mv_T_hingesOf : gw_V my_T_hingesOf mb_T_hingesOf 3 (some .int) 1 := ⟨wd_401, wd_402, wd_5, wd_403, by decide +kernel⟩
theorem mv_K_place : gw_V my_K_place mb_K_place 4 (some .long) 2 := ⟨wd_411, wd_412, wd_1, wd_413, by decide +kernel⟩
theorem mv_D_placeNumerator : gw_V my_D_placeNumerator mb_D_placeNumerator 5 (some .long) 2 := ⟨wd_418, wd_419, wd_3, wd_420, by decide +kernel⟩
theorem mv_K_hole : gw_V my_K_hole mb_K_hole 8 (some .boolean) 4 := ⟨wd_432, wd_433, wd_1, wd_434, by decide +kernel⟩
theorem mv_K_needHole : gw_S my_K_needHole mb_K_needHole 1 none 1 := ⟨wd_436, wd_1, wd_437, by decide +kernel⟩
theorem mv_H_change : gw_V my_H_change mb_H_change 11 (some .boolean) 4 := ⟨wd_443, wd_444, wd_4, wd_445, by decide +kernel⟩
theorem mv_K_meet : gw_V my_K_meet mb_K_meet 3 (some .boolean) 2 := ⟨wd_450, wd_451, wd_1, wd_452, by decide +kernel⟩
theorem mv_H_overlap : gw_V my_H_overlap mb_H_overlap 9 (some .boolean) 2 := ⟨wd_454, wd_455, wd_4, wd_456, by decide +kernel⟩
theorem mv_K_pair : gw_V my_K_pair mb_K_pair 2 (some .int) 1 := ⟨wd_461, wd_462, wd_1, wd_463, by decide +kernel⟩
theorem mv_H_overlappingPair : gw_V my_H_overlappingPair mb_H_overlappingPair 5 (some .int) 1 := ⟨wd_465, wd_466, wd_4, wd_467, by decide +kernel⟩
theorem mv_K_wall : gw_V my_K_wall mb_K_wall 4 (some .int) 1 := ⟨wd_473, wd_474, wd_1, wd_475, by decide +kernel⟩
theorem mv_D_leastX : gw_V my_D_leastX mb_D_leastX 5 (some .long) 1 := ⟨wd_478, wd_479, wd_3, wd_480, by decide +kernel⟩
theorem mv_D_turnedX : gw_V my_D_turnedX mb_D_turnedX 3 (some .long) 2 := ⟨wd_482, wd_483, wd_3, wd_484, by decide +kernel⟩
theorem mv_D_shutX : gw_V my_D_shutX mb_D_shutX 2 (some .long) 1 := ⟨wd_487, gw_p 10 (by decide +kernel) rfl, wd_3, wd_488, by decide +kernel⟩
theorem mv_D_shutY : gw_V my_D_shutY mb_D_shutY 2 (some .long) 1 := ⟨wd_493, gw_p 11 (by decide +kernel) rfl, wd_3, wd_494, by decide +kernel⟩
theorem mv_K_corner : gw_V my_K_corner mb_K_corner 4 (some .long) 3 := ⟨wd_502, wd_503, wd_1, wd_504, by decide +kernel⟩
theorem mv_D_turnedY : gw_V my_D_turnedY mb_D_turnedY 3 (some .long) 2 := ⟨wd_508, wd_509, wd_3, wd_510, by decide +kernel⟩
theorem mv_K_rows32 : gw_V my_K_rows32 mb_K_rows32 6 (some .int) 2 := ⟨wd_515, wd_516, wd_1, wd_517, by decide +kernel⟩
theorem mv_M_init : gw_I my_M_init mb_M_init 2 0 := ⟨wd_522, wd_6, wd_523, rfl, by decide +kernel⟩
theorem mv_M_turn : gw_V my_M_turn mb_M_turn 4 none 3 := ⟨wd_530, gw_p 12 (by decide +kernel) rfl, wd_6, wd_531, by decide +kernel⟩
theorem mv_M_thrown : gw_V my_M_thrown mb_M_thrown 1 (some .int) 0 := ⟨wd_589, wd_590, wd_6, wd_591, by decide +kernel⟩
theorem mv_M_unit : gw_V my_M_unit mb_M_unit 3 (some .boolean) 1 := ⟨wd_593, wd_594, wd_6, wd_595, by decide +kernel⟩
theorem mv_M_read : gw_V my_M_read mb_M_read 3 (some .int) 0 := ⟨wd_597, wd_598, wd_6, wd_599, by decide +kernel⟩
theorem mv_M_readRow : gw_V my_M_readRow mb_M_readRow 8 none 1 := ⟨wd_602, gw_p 13 (by decide +kernel) rfl, wd_6, wd_603, by decide +kernel⟩
theorem mv_M_here : gw_V my_M_here mb_M_here 1 (some .int) 0 := ⟨wd_606, gw_p 14 (by decide +kernel) rfl, wd_6, wd_607, by decide +kernel⟩
theorem mv_M_sizeOf : gw_S my_M_sizeOf mb_M_sizeOf 1 (some .int) 1 := ⟨wd_609, wd_6, wd_610, by decide +kernel⟩
theorem mv_M_failAt : gw_V my_M_failAt mb_M_failAt 2 none 1 := ⟨wd_613, gw_p 15 (by decide +kernel) rfl, wd_6, wd_614, by decide +kernel⟩
theorem mv_M_readNumber : gw_V my_M_readNumber mb_M_readNumber 3 (some .int) 0 := ⟨wd_617, gw_p 16 (by decide +kernel) rfl, wd_6, wd_618, by decide +kernel⟩
theorem mv_M_isIn : gw_S my_M_isIn mb_M_isIn 6 (some .boolean) 3 := ⟨wd_621, wd_6, wd_622, by decide +kernel⟩
theorem mv_M_row : gw_V my_M_row mb_M_row 3 (some .int) 2 := ⟨wd_624, wd_625, wd_6, wd_626, by decide +kernel⟩
theorem mv_M_rowCode : gw_V my_M_rowCode mb_M_rowCode 2 (some .int) 1 := ⟨wd_629, gw_p 17 (by decide +kernel) rfl, wd_6, wd_630, by decide +kernel⟩
theorem mv_M_stock : gw_V my_M_stock mb_M_stock 3 (some .boolean) 2 := ⟨wd_632, wd_633, wd_6, wd_634, by decide +kernel⟩
theorem mv_M_hinge : gw_V my_M_hinge mb_M_hinge 9 (some .int) 3 := ⟨wd_637, wd_638, wd_6, wd_639, by decide +kernel⟩
theorem mv_M_number : gw_V my_M_number mb_M_number 3 (some .long) 2 := ⟨wd_642, gw_p 18 (by decide +kernel) rfl, wd_6, wd_643, by decide +kernel⟩
theorem mv_M_isThere : gw_V my_M_isThere mb_M_isThere 3 (some .boolean) 2 := ⟨wd_646, gw_p 19 (by decide +kernel) rfl, wd_6, wd_647, by decide +kernel⟩
theorem mv_M_other : gw_V my_M_other mb_M_other 5 (some .int) 2 := ⟨wd_649, wd_650, wd_6, wd_651, by decide +kernel⟩
theorem mv_M_replaces : gw_V my_M_replaces mb_M_replaces 4 (some .boolean) 2 := ⟨wd_654, gw_p 20 (by decide +kernel) rfl, wd_6, wd_655, by decide +kernel⟩
theorem mv_M_slide : gw_V my_M_slide mb_M_slide 6 (some .int) 1 := ⟨wd_657, wd_658, wd_6, wd_659, by decide +kernel⟩
theorem mv_M_door : gw_V my_M_door mb_M_door 9 (some .boolean) 4 := ⟨wd_661, wd_662, wd_6, wd_663, by decide +kernel⟩
theorem mv_M_isSize : gw_S my_M_isSize mb_M_isSize 2 (some .boolean) 1 := ⟨wd_665, wd_6, wd_666, by decide +kernel⟩
theorem mv_M_weight : gw_V my_M_weight mb_M_weight 2 (some .long) 1 := ⟨wd_669, wd_670, wd_6, wd_671, by decide +kernel⟩
theorem mv_M_grams : gw_V my_M_grams mb_M_grams 1 (some .long) 0 := ⟨wd_674, gw_p 21 (by decide +kernel) rfl, wd_6, wd_675, by decide +kernel⟩
theorem mv_M_common : gw_S my_M_common mb_M_common 10 (some .long) 2 := ⟨wd_678, wd_6, wd_679, by decide +kernel⟩
theorem mv_M_count : gw_V my_M_count mb_M_count 1 (some .int) 0 := ⟨wd_681, wd_682, wd_6, wd_683, by decide +kernel⟩
theorem mv_M_hinges : gw_V my_M_hinges mb_M_hinges 4 (some .int) 0 := ⟨wd_686, gw_p 22 (by decide +kernel) rfl, wd_6, wd_687, by decide +kernel⟩
theorem mv_M_place : gw_V my_M_place mb_M_place 12 (some .long) 2 := ⟨wd_689, wd_690, wd_6, wd_691, by decide +kernel⟩
theorem mv_M_hole : gw_V my_M_hole mb_M_hole 9 (some .boolean) 4 := ⟨wd_696, wd_697, wd_6, wd_698, by decide +kernel⟩
theorem mv_M_meet : gw_V my_M_meet mb_M_meet 3 (some .boolean) 2 := ⟨wd_702, wd_703, wd_6, wd_704, by decide +kernel⟩
theorem mv_M_meets : gw_V my_M_meets mb_M_meets 9 (some .boolean) 2 := ⟨wd_707, gw_p 23 (by decide +kernel) rfl, wd_6, wd_708, by decide +kernel⟩
theorem mv_M_pair : gw_V my_M_pair mb_M_pair 5 (some .int) 1 := ⟨wd_710, wd_711, wd_6, wd_712, by decide +kernel⟩
theorem mv_M_corner : gw_V my_M_corner mb_M_corner 4 (some .long) 3 := ⟨wd_714, wd_715, wd_6, wd_716, by decide +kernel⟩
theorem mv_M_placeOf : gw_V my_M_placeOf mb_M_placeOf 8 (some .long) 3 := ⟨wd_719, gw_p 24 (by decide +kernel) rfl, wd_6, wd_720, by decide +kernel⟩
theorem mv_M_wall : gw_V my_M_wall mb_M_wall 5 (some .int) 1 := ⟨wd_722, wd_723, wd_6, wd_724, by decide +kernel⟩
theorem mv_M_rows32 : gw_V my_M_rows32 mb_M_rows32 5 (some .int) 2 := ⟨wd_728, wd_729, wd_6, wd_730, by decide +kernel⟩
