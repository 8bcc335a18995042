section
def lw_okq (q : MethodName × Nat) : Prop := (q.1.cls ≠ "java/lang/invoke/MethodHandle" ∧ q.1.cls ≠ "java/lang/invoke/VarHandle") ∧ Cond.instantiable q.1.cls q.2 ∈ tables_1 ∧ Cond.privateMethod q.1 ∈ tables_1 ∧ Cond.instanceMethod q.1 ∈ tables_1
theorem lw_p0 : lw_okq (⟨"HingeTables$Table", "finish", "(I)I"⟩, 4) := ⟨⟨by decide +kernel, by decide +kernel⟩, List.mem_of_getElem? (i := 78) (by decide +kernel), List.mem_of_getElem? (i := 134) (by decide +kernel), List.mem_of_getElem? (i := 135) (by decide +kernel)⟩
theorem lw_p1 : lw_okq (⟨"HingeTables$Table", "fillRow", "(LHingeTables$Text;II)I"⟩, 4) := ⟨⟨by decide +kernel, by decide +kernel⟩, List.mem_of_getElem? (i := 78) (by decide +kernel), List.mem_of_getElem? (i := 145) (by decide +kernel), List.mem_of_getElem? (i := 146) (by decide +kernel)⟩
theorem lw_p2 : lw_okq (⟨"HingeTables$Table", "fillNumber", "(LHingeTables$Text;III)I"⟩, 4) := ⟨⟨by decide +kernel, by decide +kernel⟩, List.mem_of_getElem? (i := 78) (by decide +kernel), List.mem_of_getElem? (i := 152) (by decide +kernel), List.mem_of_getElem? (i := 153) (by decide +kernel)⟩
theorem lw_p3 : lw_okq (⟨"HingeTables$Table", "mayStand", "(III)Z"⟩, 4) := ⟨⟨by decide +kernel, by decide +kernel⟩, List.mem_of_getElem? (i := 78) (by decide +kernel), List.mem_of_getElem? (i := 159) (by decide +kernel), List.mem_of_getElem? (i := 160) (by decide +kernel)⟩
theorem lw_p4 : lw_okq (⟨"HingeTables", "needTable", "()V"⟩, 5) := ⟨⟨by decide +kernel, by decide +kernel⟩, List.mem_of_getElem? (i := 15) (by decide +kernel), List.mem_of_getElem? (i := 180) (by decide +kernel), List.mem_of_getElem? (i := 181) (by decide +kernel)⟩
theorem lw_p5 : lw_okq (⟨"java/lang/Throwable", "fillInStackTrace", "(I)Ljava/lang/Throwable;"⟩, 6) := ⟨⟨by decide +kernel, by decide +kernel⟩, List.mem_of_getElem? (i := 222) (by decide +kernel), List.mem_of_getElem? (i := 220) (by decide +kernel), List.mem_of_getElem? (i := 221) (by decide +kernel)⟩
theorem lw_p6 : lw_okq (⟨"HingeTables", "needRow", "(I)V"⟩, 5) := ⟨⟨by decide +kernel, by decide +kernel⟩, List.mem_of_getElem? (i := 15) (by decide +kernel), List.mem_of_getElem? (i := 252) (by decide +kernel), List.mem_of_getElem? (i := 253) (by decide +kernel)⟩
theorem lw_p7 : lw_okq (⟨"HingeTables$Table", "isStocked", "(IC)Z"⟩, 4) := ⟨⟨by decide +kernel, by decide +kernel⟩, List.mem_of_getElem? (i := 78) (by decide +kernel), List.mem_of_getElem? (i := 318) (by decide +kernel), List.mem_of_getElem? (i := 319) (by decide +kernel)⟩
theorem lw_p8 : lw_okq (⟨"HingeTables$Table", "holds", "(IIJJ)Z"⟩, 4) := ⟨⟨by decide +kernel, by decide +kernel⟩, List.mem_of_getElem? (i := 78) (by decide +kernel), List.mem_of_getElem? (i := 322) (by decide +kernel), List.mem_of_getElem? (i := 323) (by decide +kernel)⟩
theorem lw_p9 : lw_okq (⟨"HingeTables$Table", "canReplace", "(II)Z"⟩, 4) := ⟨⟨by decide +kernel, by decide +kernel⟩, List.mem_of_getElem? (i := 78) (by decide +kernel), List.mem_of_getElem? (i := 339) (by decide +kernel), List.mem_of_getElem? (i := 340) (by decide +kernel)⟩
theorem lw_p10 : lw_okq (⟨"HingeTables$Door", "shutX", "(I)J"⟩, 4) := ⟨⟨by decide +kernel, by decide +kernel⟩, List.mem_of_getElem? (i := 37) (by decide +kernel), List.mem_of_getElem? (i := 486) (by decide +kernel), List.mem_of_getElem? (i := 487) (by decide +kernel)⟩
theorem lw_p11 : lw_okq (⟨"HingeTables$Door", "shutY", "(I)J"⟩, 4) := ⟨⟨by decide +kernel, by decide +kernel⟩, List.mem_of_getElem? (i := 37) (by decide +kernel), List.mem_of_getElem? (i := 492) (by decide +kernel), List.mem_of_getElem? (i := 493) (by decide +kernel)⟩
theorem lw_p12 : lw_okq (⟨"HingeTablesModel", "turn", "(III)V"⟩, 18) := ⟨⟨by decide +kernel, by decide +kernel⟩, List.mem_of_getElem? (i := 520) (by decide +kernel), List.mem_of_getElem? (i := 529) (by decide +kernel), List.mem_of_getElem? (i := 530) (by decide +kernel)⟩
theorem lw_p13 : lw_okq (⟨"HingeTablesModel", "readRow", "(I)V"⟩, 18) := ⟨⟨by decide +kernel, by decide +kernel⟩, List.mem_of_getElem? (i := 520) (by decide +kernel), List.mem_of_getElem? (i := 597) (by decide +kernel), List.mem_of_getElem? (i := 598) (by decide +kernel)⟩
theorem lw_p14 : lw_okq (⟨"HingeTablesModel", "here", "()I"⟩, 18) := ⟨⟨by decide +kernel, by decide +kernel⟩, List.mem_of_getElem? (i := 520) (by decide +kernel), List.mem_of_getElem? (i := 601) (by decide +kernel), List.mem_of_getElem? (i := 602) (by decide +kernel)⟩
theorem lw_p15 : lw_okq (⟨"HingeTablesModel", "failAt", "(I)V"⟩, 18) := ⟨⟨by decide +kernel, by decide +kernel⟩, List.mem_of_getElem? (i := 520) (by decide +kernel), List.mem_of_getElem? (i := 608) (by decide +kernel), List.mem_of_getElem? (i := 609) (by decide +kernel)⟩
def lw_privs_1 : List (MethodName × Nat) := [(⟨"HingeTables$Table", "finish", "(I)I"⟩, 4), (⟨"HingeTables$Table", "fillRow", "(LHingeTables$Text;II)I"⟩, 4), (⟨"HingeTables$Table", "fillNumber", "(LHingeTables$Text;III)I"⟩, 4), (⟨"HingeTables$Table", "mayStand", "(III)Z"⟩, 4), (⟨"HingeTables", "needTable", "()V"⟩, 5), (⟨"java/lang/Throwable", "fillInStackTrace", "(I)Ljava/lang/Throwable;"⟩, 6), (⟨"HingeTables", "needRow", "(I)V"⟩, 5), (⟨"HingeTables$Table", "isStocked", "(IC)Z"⟩, 4), (⟨"HingeTables$Table", "holds", "(IIJJ)Z"⟩, 4), (⟨"HingeTables$Table", "canReplace", "(II)Z"⟩, 4), (⟨"HingeTables$Door", "shutX", "(I)J"⟩, 4), (⟨"HingeTables$Door", "shutY", "(I)J"⟩, 4), (⟨"HingeTablesModel", "turn", "(III)V"⟩, 18), (⟨"HingeTablesModel", "readRow", "(I)V"⟩, 18), (⟨"HingeTablesModel", "here", "()I"⟩, 18), (⟨"HingeTablesModel", "failAt", "(I)V"⟩, 18)]
theorem lw_r1 : ∀ q ∈ lw_privs_1, lw_okq q := List.forall_mem_cons.mpr ⟨lw_p0, List.forall_mem_cons.mpr ⟨lw_p1, List.forall_mem_cons.mpr ⟨lw_p2, List.forall_mem_cons.mpr ⟨lw_p3, List.forall_mem_cons.mpr ⟨lw_p4, List.forall_mem_cons.mpr ⟨lw_p5, List.forall_mem_cons.mpr ⟨lw_p6, List.forall_mem_cons.mpr ⟨lw_p7, List.forall_mem_cons.mpr ⟨lw_p8, List.forall_mem_cons.mpr ⟨lw_p9, List.forall_mem_cons.mpr ⟨lw_p10, List.forall_mem_cons.mpr ⟨lw_p11, List.forall_mem_cons.mpr ⟨lw_p12, List.forall_mem_cons.mpr ⟨lw_p13, List.forall_mem_cons.mpr ⟨lw_p14, List.forall_mem_cons.mpr ⟨lw_p15, fun _ h => absurd h List.not_mem_nil⟩⟩⟩⟩⟩⟩⟩⟩⟩⟩⟩⟩⟩⟩⟩⟩
theorem lw_p16 : lw_okq (⟨"HingeTablesModel", "readNumber", "()I"⟩, 18) := ⟨⟨by decide +kernel, by decide +kernel⟩, List.mem_of_getElem? (i := 520) (by decide +kernel), List.mem_of_getElem? (i := 612) (by decide +kernel), List.mem_of_getElem? (i := 613) (by decide +kernel)⟩
theorem lw_p17 : lw_okq (⟨"HingeTablesModel", "rowCode", "(I)I"⟩, 18) := ⟨⟨by decide +kernel, by decide +kernel⟩, List.mem_of_getElem? (i := 520) (by decide +kernel), List.mem_of_getElem? (i := 624) (by decide +kernel), List.mem_of_getElem? (i := 625) (by decide +kernel)⟩
theorem lw_p18 : lw_okq (⟨"HingeTablesModel", "number", "(II)J"⟩, 18) := ⟨⟨by decide +kernel, by decide +kernel⟩, List.mem_of_getElem? (i := 520) (by decide +kernel), List.mem_of_getElem? (i := 637) (by decide +kernel), List.mem_of_getElem? (i := 638) (by decide +kernel)⟩
theorem lw_p19 : lw_okq (⟨"HingeTablesModel", "isThere", "(II)Z"⟩, 18) := ⟨⟨by decide +kernel, by decide +kernel⟩, List.mem_of_getElem? (i := 520) (by decide +kernel), List.mem_of_getElem? (i := 641) (by decide +kernel), List.mem_of_getElem? (i := 642) (by decide +kernel)⟩
theorem lw_p20 : lw_okq (⟨"HingeTablesModel", "replaces", "(II)Z"⟩, 18) := ⟨⟨by decide +kernel, by decide +kernel⟩, List.mem_of_getElem? (i := 520) (by decide +kernel), List.mem_of_getElem? (i := 649) (by decide +kernel), List.mem_of_getElem? (i := 650) (by decide +kernel)⟩
theorem lw_p21 : lw_okq (⟨"HingeTablesModel", "grams", "()J"⟩, 18) := ⟨⟨by decide +kernel, by decide +kernel⟩, List.mem_of_getElem? (i := 520) (by decide +kernel), List.mem_of_getElem? (i := 669) (by decide +kernel), List.mem_of_getElem? (i := 670) (by decide +kernel)⟩
theorem lw_p22 : lw_okq (⟨"HingeTablesModel", "hinges", "()I"⟩, 18) := ⟨⟨by decide +kernel, by decide +kernel⟩, List.mem_of_getElem? (i := 520) (by decide +kernel), List.mem_of_getElem? (i := 681) (by decide +kernel), List.mem_of_getElem? (i := 682) (by decide +kernel)⟩
theorem lw_p23 : lw_okq (⟨"HingeTablesModel", "meets", "(II)Z"⟩, 18) := ⟨⟨by decide +kernel, by decide +kernel⟩, List.mem_of_getElem? (i := 520) (by decide +kernel), List.mem_of_getElem? (i := 702) (by decide +kernel), List.mem_of_getElem? (i := 703) (by decide +kernel)⟩
theorem lw_p24 : lw_okq (⟨"HingeTablesModel", "placeOf", "(III)J"⟩, 18) := ⟨⟨by decide +kernel, by decide +kernel⟩, List.mem_of_getElem? (i := 520) (by decide +kernel), List.mem_of_getElem? (i := 714) (by decide +kernel), List.mem_of_getElem? (i := 715) (by decide +kernel)⟩
def lw_privs_2 : List (MethodName × Nat) := [(⟨"HingeTablesModel", "readNumber", "()I"⟩, 18), (⟨"HingeTablesModel", "rowCode", "(I)I"⟩, 18), (⟨"HingeTablesModel", "number", "(II)J"⟩, 18), (⟨"HingeTablesModel", "isThere", "(II)Z"⟩, 18), (⟨"HingeTablesModel", "replaces", "(II)Z"⟩, 18), (⟨"HingeTablesModel", "grams", "()J"⟩, 18), (⟨"HingeTablesModel", "hinges", "()I"⟩, 18), (⟨"HingeTablesModel", "meets", "(II)Z"⟩, 18), (⟨"HingeTablesModel", "placeOf", "(III)J"⟩, 18)]
theorem lw_r2 : ∀ q ∈ lw_privs_2, lw_okq q := List.forall_mem_cons.mpr ⟨lw_p16, List.forall_mem_cons.mpr ⟨lw_p17, List.forall_mem_cons.mpr ⟨lw_p18, List.forall_mem_cons.mpr ⟨lw_p19, List.forall_mem_cons.mpr ⟨lw_p20, List.forall_mem_cons.mpr ⟨lw_p21, List.forall_mem_cons.mpr ⟨lw_p22, List.forall_mem_cons.mpr ⟨lw_p23, List.forall_mem_cons.mpr ⟨lw_p24, fun _ h => absurd h List.not_mem_nil⟩⟩⟩⟩⟩⟩⟩⟩⟩
def lw_privs : List (MethodName × Nat) := lw_privs_1 ++ (lw_privs_2)
def lw_tbl : List Cond := k2_sels lw_privs ++ tables_1
theorem lw_privs_ok : ∀ q ∈ lw_privs, lw_okq q := by
  show ∀ q ∈ lw_privs_1 ++ (lw_privs_2), lw_okq q
  exact List.forall_mem_append.mpr ⟨lw_r1, lw_r2⟩

/-! ===== BEGIN words of one list among another's, by their places ===== -/
theorem goodIn_r {big : List Cond} (ws : List Cond) (ps : List Nat) (hp : ws = ps.filterMap (fun i => big[i]?)) (h : ws.all goodWord = true) : GoodIn big ws := by
  intro w hw
  have h1 := List.all_eq_true.mp h w hw
  rw [hp] at hw
  obtain ⟨i, -, hi⟩ := List.mem_filterMap.mp hw
  have hm : w ∈ big := by first | exact List.mem_of_getElem? hi | exact List.getElem?_mem hi
  exact ⟨hm, good_of_word h1⟩
theorem goodIn_app {big a b : List Cond} (ha : GoodIn big a) (hb : GoodIn big b) : GoodIn big (a ++ b) := fun w h => (List.mem_append.mp h).elim (ha w) (hb w)
theorem goodIn_ca {big a b : List Cond} {c : Cond} (ha : GoodIn big (c :: a)) (hb : GoodIn big b) : GoodIn big (c :: (a ++ b)) := fun w h => (List.mem_cons.mp h).elim (fun e => ha w (List.mem_cons.mpr (Or.inl e))) (fun h => (List.mem_append.mp h).elim (fun h => ha w (List.mem_cons.mpr (Or.inr h))) (hb w))
theorem goodIn_sub {big ws : List Cond} (hm : ∀ w ∈ ws, w ∈ big) (h : ws.all goodWord = true) : GoodIn big ws := fun w hw => ⟨hm w hw, good_of_word (List.all_eq_true.mp h w hw)⟩
/-! ===== END ===== -/

/-! ===== BEGIN exceptions that leave a method, and their catching by the caller (launches without stack traces) ===== -/
section VXA
/-! The laws vx_back, vx_callV, vx_callS, vx_callSW, vx_throw0, vx_throwS follow proofs of the library, with one case more: JvmDerived/Free/Laws.lean (Back.of_free), Shelf42/LK1.lean (callV, callS), Shelf/KitTraced.lean (throwNew0V, throwNewS). -/
/-- where a method has thrown q: the class by its name, the cell, what was written, the world -/
def vx_T (XC : String → State → State → Prop) (st : State) (q : Addr) (t : State) (mc ms : Nat) (free : Addr → Prop) : Prop :=
  ∃ (E : String) (ce : Cell) (L : List Loc), XC E st t ∧ t.heap[q]? = some ce ∧ ce.vm = .none ∧ st.vm.findClass E = some ce.cls ∧ st.WarmedH t.vm ∧ st.sameButNew ({ t with vm := st.vm } : State) L mc ms ∧ ∀ z ∈ L, free z.base
def vx_Q (Qc : Array Value → State → Outcome → State → Prop) (XC : String → State → State → Prop) (mc ms : Nat) (free : Addr → Prop) : Array Value → State → Outcome → State → Prop := fun a st o t =>
  (Qc a st o t ∧ ∃ L, FrameEnd st o t L mc ms ∧ ∀ q ∈ L, free q.base) ∨ ∃ q, o = .threw q ∧ vx_T XC st q t mc ms free
/-- a callee that returns or throws -/
def vx_Met (l : Launch) (y : MethodName) (ws : List Cond) (rm : Room) (Pc : Array Value → State → Prop) (Qc : Array Value → State → Outcome → State → Prop) (XC : String → State → State → Prop) (mc ms : Nat) (free : Addr → Prop) : Prop :=
  MetFree l y (headSpec ws rm) Pc (fun _ _ _ _ _ => True) (vx_Q Qc XC mc ms free)
def vx_Post (XC : String → State → State → Prop) (mc ms : Nat) (free : Addr → Prop) : Pt → Array Value → Addr → Pt → Prop := fun A a q B =>
  ∃ (g : JFrame) (mk : MethodId) (t : State) (L : List Loc) (E : String) (ce : Cell), B.U.heap = t.heap ∧ B.U.vm = t.vm ∧ XC E (A.U.calling g mk a) t ∧ t.heap[q]? = some ce ∧ ce.vm = .none ∧ A.U.vm.findClass E = some ce.cls ∧ B.locs = A.locs ++ L ∧ (∀ z ∈ L, free z.base) ∧ B.cells = A.cells + mc ∧ B.slots = A.slots + ms
def vx_Back (l : Launch) (R : Room) (p : Program) (e : Env) (below : List Frame) (s : State) (sargs : Array Value) (y : MethodName) (len W9 : Nat)
    (Pre : Pt → Array Value → Prop) (Post : Pt → Array Value → Option Value → Pt → Prop) (PostX : Pt → Array Value → Addr → Pt → Prop) : Prop :=
  ∀ (m : MethodId) (meth : Method) (c : Code) (A : Pt) (g : JFrame) (ig : Instr) (mk : MethodId) (a : Array Value),
    Stand p l e R s m sargs below meth c A.U A.locs A.cells A.slots → g.method = m → g.locals.size = c.maxLocals → decode c.code g.pc = .ok (ig, len) →
    2 * g.monitorRoom + (g.stack.map fun v => v.category).sum ≤ W9 → A.U.methodNamed? y = some mk → Pre A a →
    (∃ (v : Option Value) (B : Pt), Stand p l e R s m sargs below meth c B.U B.locs B.cells B.slots ∧ Post A a v B ∧
      Steps p.tables e below (doInvoke e (A.U.setTop g) [] mk a).1 (B.U.setTop { g with pc := g.pc + len, stack := v.toList ++ g.stack })) ∨
    (∃ (q : Addr) (B : Pt), Stand p l e R s m sargs below meth c B.U B.locs B.cells B.slots ∧ PostX A a q B ∧
      Steps p.tables e below (doInvoke e (A.U.setTop g) [] mk a).1 ((B.U.setTop g).pushFrame (.throwing q)))
section Payer
variable {l : Launch} {R : Room} {p : Program} {e : Env} {below : List Frame} {s : State} {sargs : Array Value} {y : MethodName} {len W9 : Nat}
theorem vx_back {ws : List Cond} {rm : Room} {Pc : Array Value → State → Prop} {Qc : Array Value → State → Outcome → State → Prop} {XC : String → State → State → Prop} {mc ms : Nat} {free : Addr → Prop} {bytes : ByteArray} {maxL : Nat} {ret : Option FieldType}
    (hM : vx_Met l y ws rm Pc Qc XC mc ms free) (hblind : FrameBlind Pc) (hrc : rm.cells = mc) (hrs : rm.slots = ms)
    (hframes : rm.frames + 1 ≤ R.frames) (hlocals : W9 + (maxL + 11) + rm.locals ≤ R.locals)
    (hws : ∀ w ∈ ws, ∀ a' U, s.WarmedH U.vm → w.before a' U = true) (hcode : Cond.code y bytes maxL ret ∈ ws) (hinit : ∀ a' U, s.WarmedH U.vm → (Cond.initialized y.cls).before a' U = true) :
    vx_Back l R p e below s sargs y len W9 (PreOf R mc ms Pc) (PostOf Qc mc ms free) (vx_Post XC mc ms free) := by
  intro m meth c A g ig mk a X hg hsize hdg hW hn hp
  have h1 : (headSpec ws rm).pre.before a A.U = true := atoms_intro fun w hw => hws w hw _ _ X.warmed
  have h2 : (Cond.code y bytes maxL ret).before a A.U = true := hws _ hcode _ _ X.warmed
  have h3 : (Cond.initialized y.cls).before a A.U = true := hinit _ _ X.warmed
  have h4 : A.cells + (headSpec ws rm).room.cells ≤ R.cells := by rw [show (headSpec ws rm).room.cells = mc from hrc]; exact hp.1
  have h5 : A.slots + (headSpec ws rm).room.slots ≤ R.slots := by rw [show (headSpec ws rm).room.slots = ms from hrs]; exact hp.2.1
  have hPc : Pc a (A.U.calling g mk a) := hblind _ _ _ _ hp.2.2
  obtain ⟨U, Ls, c0, s0⟩ := A
  dsimp only [Pt.U, Pt.locs, Pt.cells, Pt.slots] at h1 h2 h3 h4 h5 X hn hPc ⊢
  obtain ⟨methY, cY, hmY, hcY, -, hlY, -, -, -, -⟩ := Cond.code_spec hn h2
  obtain ⟨kY, hkY, -⟩ := className_of_methodNamed hn
  have hinitY : kY.init = .initialized := Cond.initialized_spec (findClass_of_methodNamed hn) hkY h3
  have h : At U g.method c below := by rw [hg]; exact X.here
  have hlocals9 : W9 + (maxL + 11) + (headSpec ws rm).room.locals ≤ R.locals := hlocals
  have happ : (headSpec ws rm).appliesLoose y e.platform (U.calling g mk a) = true :=
    Spec.appliesLoose_calling (g := g) h hdg hn hkY hinitY
      (X.room_calling (g := g) (R' := (headSpec ws rm).room) hsize hmY hcY hframes (by rw [hlY]; omega) h4 h5) h1
  obtain ⟨mid, hmid⟩ := h.above
  have hfr : (U.setTop g).frames = (.java g :: mid) ++ below := by rw [State.frames_setTop' g h.top, hmid]; rfl
  obtain ⟨o, s₂, hsteps, -, hend, hq⟩ := Steps.callFree hM p X.admits X.cas X.clock (acts := []) hfr happ hPc trivial
  have hq' : vx_Q Qc XC mc ms free a (U.calling g mk a) o s₂ := hq
  rw [State.frames_setTop' g h.top] at hend
  obtain ⟨g₀, hg0⟩ := Option.isSome_iff_exists.mp h.top
  obtain ⟨r, hr⟩ := State.topJava?_eq_some.mp hg0
  have hr' : (({ U with heap := s₂.heap, slotsUsed := s₂.slotsUsed } : State).setVm s₂.vm).frames = .java g₀ :: r := hr
  rcases hq' with ⟨hqc, L, hfe, hL⟩ | ⟨q, rfl, E, ce, L, hx, hce, hcv, hcl, hW₂, hsm, hL⟩
  · obtain ⟨⟨v, rfl⟩, hW₂, e2, q2, q3, q4, q5, q6⟩ := id hfe
    have e3 : s₂ = ({ (U.calling g mk a).setFrames s₂.frames with heap := s₂.heap, slotsUsed := s₂.slotsUsed } : State).setVm s₂.vm := by
      have : s₂ = ({ s₂ with vm := (U.calling g mk a).vm } : State).setVm s₂.vm := rfl
      rw [e2] at this
      exact this
    obtain ⟨c₂, i₂, len₂, hc₂, hd₂, hf₂⟩ := hend
    have hW' : U.WarmedH s₂.vm := hW₂
    have hcc : c₂ = c := by
      have h1 : s₂.code? g.method = U.code? g.method := by
        rw [State.code?_eq, State.code?_eq, hW'.alike.method?]
      exact Option.some.inj (hc₂.symm.trans (h1.trans h.code))
    subst hcc
    have hlen : len₂ = len := by rw [hdg] at hd₂; cases hd₂; rfl
    subst hlen
    have hs₂ : s₂ = (({ U with heap := s₂.heap, slotsUsed := s₂.slotsUsed } : State).setVm s₂.vm).setTop { g with pc := g.pc + len₂, stack := v.toList ++ g.stack } := by
      refine e3.trans ?_
      rw [hf₂, State.calling_eq h.top, State.setFrames_setFrames, State.setTop_of_frames _ hr', hr]
      rfl
    have hsame : U.sameButNew ({ U with heap := s₂.heap, slotsUsed := s₂.slotsUsed } : State) L mc ms := by
      refine ⟨?_, q2, q3, q4, q5, q6⟩
      obtain ⟨t, ht, -⟩ := State.frames_cons hr
      show ({ U with heap := s₂.heap, slotsUsed := s₂.slotsUsed } : State) = { U.setFrames U.frames with heap := s₂.heap, slotsUsed := s₂.slotsUsed }
      rw [State.setFrames_self ht]
    subst hg
    refine Or.inl ⟨v, ⟨(({ U with heap := s₂.heap, slotsUsed := s₂.slotsUsed } : State).setVm s₂.vm), Ls ++ L, c0 + mc, s0 + ms⟩,
      ⟨X.admits, X.cas, X.clock, X.frames, X.room, X.hears, X.method, X.code, (X.here.setHeapUsed s₂.heap s₂.slotsUsed).setVm hW'.alike, X.tail, State.WarmedH.trans X.warmed hW', X.limits, X.bytes, X.same.trans (hsame.setVm s.vm)⟩,
      ⟨g, mk, s₂, L, rfl, rfl, hqc, rfl, hL, rfl, rfl⟩, ?_⟩
    show Steps p.tables e below _ ((({ U with heap := s₂.heap, slotsUsed := s₂.slotsUsed } : State).setVm s₂.vm).setTop { g with pc := g.pc + len₂, stack := v.toList ++ g.stack })
    rw [← hs₂]
    exact hsteps
  · obtain ⟨e2, q2, q3, q4, q5, q6⟩ := id hsm
    have e3 : s₂ = ({ (U.calling g mk a).setFrames s₂.frames with heap := s₂.heap, slotsUsed := s₂.slotsUsed } : State).setVm s₂.vm := by
      have : s₂ = ({ s₂ with vm := (U.calling g mk a).vm } : State).setVm s₂.vm := rfl
      rw [e2] at this
      exact this
    have hf₂ : s₂.frames = .throwing q :: .java g :: U.frames.tail := hend
    have hW' : U.WarmedH s₂.vm := hW₂
    have hs₂ : s₂ = ((({ U with heap := s₂.heap, slotsUsed := s₂.slotsUsed } : State).setVm s₂.vm).setTop g).pushFrame (.throwing q) := by
      refine e3.trans ?_
      rw [hf₂, State.calling_eq h.top, State.setFrames_setFrames, State.pushFrame, State.frames_setTop _ hr', State.setTop_of_frames _ hr', State.setFrames_setFrames, hr]
      rfl
    have hsame : U.sameButNew ({ U with heap := s₂.heap, slotsUsed := s₂.slotsUsed } : State) L mc ms := by
      refine ⟨?_, q2, q3, q4, q5, q6⟩
      obtain ⟨t, ht, -⟩ := State.frames_cons hr
      show ({ U with heap := s₂.heap, slotsUsed := s₂.slotsUsed } : State) = { U.setFrames U.frames with heap := s₂.heap, slotsUsed := s₂.slotsUsed }
      rw [State.setFrames_self ht]
    subst hg
    refine Or.inr ⟨q, ⟨(({ U with heap := s₂.heap, slotsUsed := s₂.slotsUsed } : State).setVm s₂.vm), Ls ++ L, c0 + mc, s0 + ms⟩,
      ⟨X.admits, X.cas, X.clock, X.frames, X.room, X.hears, X.method, X.code, (X.here.setHeapUsed s₂.heap s₂.slotsUsed).setVm hW'.alike, X.tail, State.WarmedH.trans X.warmed hW', X.limits, X.bytes, X.same.trans (hsame.setVm s.vm)⟩,
      ⟨g, mk, s₂, L, E, ce, rfl, rfl, hx, hce, hcv, hcl, rfl, hL, rfl, rfl⟩, ?_⟩
    show Steps p.tables e below _ (((({ U with heap := s₂.heap, slotsUsed := s₂.slotsUsed } : State).setVm s₂.vm).setTop g).pushFrame (.throwing q))
    rw [← hs₂]
    exact hsteps
end Payer
section Calls
variable {p : Program} {l : Launch} {e : Env} {R : Room} {s : State} {m : MethodId} {args : Array Value} {below : List Frame} {meth : Method} {c : Code} {T : State} {locs : List Loc} {cells slots : Nat}
theorem vx_callV (X : Stand p l e R s m args below meth c T locs cells slots) (hexec : p.tables.exec = Jvm.exec) {own C : String} {index : Nat} {y : MethodName} {bytes : ByteArray} {maxL : Nat} {ret : Option FieldType}
    (hown : s.vm.findClass own = some m.cls) (hlink : (Cond.methodLink own index y).before args s = true) (hinst : (Cond.instanceMethod y).before args s = true) (hsel : (Cond.selects C y y).before args s = true)
    (hcode : (Cond.code y bytes maxL ret).before args s = true) (hy : y.cls ≠ "java/lang/invoke/MethodHandle" ∧ y.cls ≠ "java/lang/invoke/VarHandle")
    {W9 : Nat} {Pre : Pt → Array Value → Prop} {Post : Pt → Array Value → Option Value → Pt → Prop} {PostX : Pt → Array Value → Addr → Pt → Prop} (hK : vx_Back l R p e below s args y 3 W9 Pre Post PostX)
    {b : Addr} {cellB : Cell} (hcell : T.heap[b]? = some cellB) (hobj : cellB.vm.isStatics = false) (hcls : s.vm.findClass C = some cellB.cls)
    {g : JFrame} (hg : g.method = m) (hsize : g.locals.size = c.maxLocals) {argsL rest : List Value} (hlen : ∀ sig, parseMethodDescriptor y.desc = some sig → argsL.length = sig.parameters.length)
    (hstack : g.stack = argsL.reverse ++ .ref b :: rest) (hW : 2 * g.monitorRoom + (rest.map fun v => v.category).sum ≤ W9) (hdg : decode c.code g.pc = .ok (.invokevirtual index, 3))
    (hpre : ∀ vm₁, s.WarmedH vm₁ → Pre ⟨T.setVm vm₁, locs, cells, slots⟩ (Value.ref b :: argsL).toArray) :
    (∃ (v : Option Value) (vm₁ : Vm) (B : Pt), s.WarmedH vm₁ ∧ Stand p l e R s m args below meth c B.U B.locs B.cells B.slots ∧ Post ⟨T.setVm vm₁, locs, cells, slots⟩ (Value.ref b :: argsL).toArray v B ∧
      ∀ target, Steps p.tables e below (B.U.setTop { g with pc := g.pc + 3, stack := v.toList ++ rest }) target → Steps p.tables e below (T.setTop g) target) ∨
    (∃ (q : Addr) (vm₁ : Vm) (B : Pt), s.WarmedH vm₁ ∧ Stand p l e R s m args below meth c B.U B.locs B.cells B.slots ∧ PostX ⟨T.setVm vm₁, locs, cells, slots⟩ (Value.ref b :: argsL).toArray q B ∧
      Steps p.tables e below (T.setTop g) ((B.U.setTop { g with stack := rest }).pushFrame (.throwing q))) := by
  obtain ⟨mk, methM, hnamed, hmethM, hstM, habM⟩ := Cond.instanceMethod_spec hinst
  obtain ⟨methM', cM, hmethM', -, -, -, -, -, -, hsigM⟩ := Cond.code_spec hnamed hcode
  cases hmethM.symm.trans hmethM'
  obtain ⟨c2, r2, m2, q1, q2, q3, q4, kP, hkP, hkPi⟩ := Cond.selects_spec hsel
  cases hcls.symm.trans q1
  cases (State.methodFound?_of_named hnamed hy).symm.trans q2
  cases hnamed.symm.trans q3
  have hselP : selectMethod e.platform s.vm cellB.cls mk = .method mk := by rw [Launch.admits_selectMethod X.admits]; exact q4
  obtain ⟨vm₁, X₁, hstep₁⟩ := X.invokevirtual hexec hown hlink hnamed hmethM hstM hkP hkPi hy (a := b) (cell := cellB) hcell
    (fun z h => by rw [h] at hobj; cases hobj) hselP hmethM habM hkP hkPi (g := g) hg (argsL := argsL) (rest := rest) (hlen _ hsigM) hstack hdg
  rcases hK m meth c ⟨T.setVm vm₁, locs, cells, slots⟩ { g with stack := rest } (.invokevirtual index) mk (Value.ref b :: argsL).toArray X₁ hg hsize hdg hW (X₁.named hnamed) (hpre vm₁ X₁.warmed) with ⟨v, B, X', hpost, hsteps⟩ | ⟨q, B, X', hpost, hsteps⟩
  · exact Or.inl ⟨v, vm₁, B, X₁.warmed, X', hpost, fun target h => hstep₁ _ fun acts => by rw [doInvoke_state]; exact hsteps.trans h⟩
  · exact Or.inr ⟨q, vm₁, B, X₁.warmed, X', hpost, hstep₁ _ fun acts => by rw [doInvoke_state]; exact hsteps⟩
theorem vx_callS (X : Stand p l e R s m args below meth c T locs cells slots) (hexec : p.tables.exec = Jvm.exec) {own : String} {index : Nat} {y : MethodName} {bytes : ByteArray} {maxL : Nat} {ret : Option FieldType}
    (hown : s.vm.findClass own = some m.cls) (hlink : (Cond.methodLink own index y).before args s = true) (hstat : (Cond.static y).before args s = true) (hinit : (Cond.initialized y.cls).before args s = true)
    (hcode : (Cond.code y bytes maxL ret).before args s = true) (hy : y.cls ≠ "java/lang/invoke/MethodHandle" ∧ y.cls ≠ "java/lang/invoke/VarHandle")
    {W9 : Nat} {Pre : Pt → Array Value → Prop} {Post : Pt → Array Value → Option Value → Pt → Prop} {PostX : Pt → Array Value → Addr → Pt → Prop} (hK : vx_Back l R p e below s args y 3 W9 Pre Post PostX)
    {g : JFrame} (hg : g.method = m) (hsize : g.locals.size = c.maxLocals) {argsL rest : List Value} (hlen : ∀ sig, parseMethodDescriptor y.desc = some sig → argsL.length = sig.parameters.length)
    (hstack : g.stack = argsL.reverse ++ rest) (hW : 2 * g.monitorRoom + (rest.map fun v => v.category).sum ≤ W9) (hdg : decode c.code g.pc = .ok (.invokestatic index, 3))
    (hpre : ∀ vm₁, s.WarmedH vm₁ → Pre ⟨T.setVm vm₁, locs, cells, slots⟩ argsL.toArray) :
    (∃ (v : Option Value) (vm₁ : Vm) (B : Pt), s.WarmedH vm₁ ∧ Stand p l e R s m args below meth c B.U B.locs B.cells B.slots ∧ Post ⟨T.setVm vm₁, locs, cells, slots⟩ argsL.toArray v B ∧
      ∀ target, Steps p.tables e below (B.U.setTop { g with pc := g.pc + 3, stack := v.toList ++ rest }) target → Steps p.tables e below (T.setTop g) target) ∨
    (∃ (q : Addr) (vm₁ : Vm) (B : Pt), s.WarmedH vm₁ ∧ Stand p l e R s m args below meth c B.U B.locs B.cells B.slots ∧ PostX ⟨T.setVm vm₁, locs, cells, slots⟩ argsL.toArray q B ∧
      Steps p.tables e below (T.setTop g) ((B.U.setTop { g with stack := rest }).pushFrame (.throwing q))) := by
  obtain ⟨mk, hnamed⟩ := Cond.code_named hcode
  obtain ⟨methM, cM, hmethM, -, -, -, -, -, -, hsigM⟩ := Cond.code_spec hnamed hcode
  have hstatic : methM.isStatic = true := Cond.static_spec hnamed hmethM hstat
  obtain ⟨kP, hkP, -⟩ := className_of_methodNamed hnamed
  have hinitP : kP.init = .initialized := Cond.initialized_spec (findClass_of_methodNamed hnamed) hkP hinit
  obtain ⟨vm₁, X₁, hstep₁⟩ := X.invokestatic hexec hown hlink hnamed hmethM hstatic hkP hinitP hy (g := g) hg (argsL := argsL) (rest := rest) (hlen _ hsigM) hstack hdg
  rcases hK m meth c ⟨T.setVm vm₁, locs, cells, slots⟩ { g with stack := rest } (.invokestatic index) mk argsL.toArray X₁ hg hsize hdg hW (X₁.named hnamed) (hpre vm₁ X₁.warmed) with ⟨v, B, X', hpost, hsteps⟩ | ⟨q, B, X', hpost, hsteps⟩
  · exact Or.inl ⟨v, vm₁, B, X₁.warmed, X', hpost, fun target h => hstep₁ _ fun acts => by rw [doInvoke_state]; exact hsteps.trans h⟩
  · exact Or.inr ⟨q, vm₁, B, X₁.warmed, X', hpost, hstep₁ _ fun acts => by rw [doInvoke_state]; exact hsteps⟩
end Calls
theorem vx_cls {s : State} {T : State} {vm₁ : Vm} {E : String} {k : ClassId} (hW : s.WarmedH vm₁) (h : (T.setVm vm₁).vm.findClass E = some k) : s.vm.findClass E = some k := by
  have h1 : vm₁.findClass E = some k := h
  rw [hW.alike.findClass] at h1
  exact h1
/-- the method's frame g, with q thrown over it -/
def vx_W (p : Program) (l : Launch) (e : Env) (R : Room) (s : State) (m : MethodId) (args : Array Value) (below : List Frame) (meth : Method) (c : Code) (H : Heap) (locs : List Loc) (cells slots : Nat) (Q : State → Prop) (g : JFrame) (q : Addr) : Prop :=
  ∀ T : State, T.heap = H → Stand p l e R s m args below meth c T locs cells slots → ∃ t, Steps p.tables e below ((T.setTop g).pushFrame (.throwing q)) t ∧ Q t
def vx_Run (p : Program) (l : Launch) (e : Env) (R : Room) (s : State) (m : MethodId) (args : Array Value) (below : List Frame) (meth : Method) (c : Code) (H : Heap) (locs : List Loc) (cells slots mc ms : Nat) (g : JFrame) (rest : List Value) (Qa : State → Outcome → State → Prop) (XC : String → State → State → Prop) (free : Addr → Prop) : Prop :=
  ∀ T : State, T.heap = H → Stand p l e R s m args below meth c T locs cells slots →
    (∃ (v : Option Value) (st₀ t T' : State) (L : List Loc), st₀.heap = H ∧ Stand p l e R s m args below meth c T' (locs ++ L) (cells + mc) (slots + ms) ∧ (∀ q ∈ L, free q.base) ∧ T'.heap = t.heap ∧ T'.vm = t.vm ∧ Qa st₀ (.returned v) t ∧
      Goes p e below T g T' { g with pc := g.pc + 3, stack := v.toList ++ rest }) ∨
    (∃ (q : Addr) (st₀ t T' : State) (L : List Loc) (E : String) (ce : Cell), st₀.heap = H ∧ Stand p l e R s m args below meth c T' (locs ++ L) (cells + mc) (slots + ms) ∧ (∀ z ∈ L, free z.base) ∧ T'.heap = t.heap ∧ T'.vm = t.vm ∧ XC E st₀ t ∧ t.heap[q]? = some ce ∧ ce.vm = .none ∧ s.vm.findClass E = some ce.cls ∧
      Steps p.tables e below (T.setTop g) ((T'.setTop { g with stack := rest }).pushFrame (.throwing q)))
def vx_X {S : Type} (px : S → Prop) (B : String → S → State → Prop) (A : Nat → Prop) : String → State → State → Prop := fun E st t => ∃ u : S, px u ∧ B E u t ∧ va_F A st t
section Runs
variable {p : Program} {l : Launch} {e : Env} {R : Room} {s : State} {m : MethodId} {args : Array Value} {below : List Frame} {meth : Method} {c : Code} {H : Heap} {locs : List Loc} {cells slots : Nat}
variable {y : MethodName} {bytes cc : ByteArray} {maxL nL mc ms n index : Nat} {ret : Option FieldType} {ws : List Cond} {rm : Room} {Pc : Array Value → State → Prop} {Qc : Array Value → State → Outcome → State → Prop} {XC : String → State → State → Prop} {free : Addr → Prop} {Ts : List Cond} {own C : String} {b : Addr} {As rest : List Value} {g : JFrame}
theorem vx_callBack (cb : CallB R s args own index y bytes maxL ret ws rm mc ms n) (hM : vx_Met l y ws rm Pc Qc XC mc ms free) (hbl : FrameBlind Pc) : vx_Back l R p e below s args y 3 8 (PreOf R mc ms Pc) (PostOf Qc mc ms free) (vx_Post XC mc ms free) := by
  obtain ⟨hrc, hrs, hfr, hlo, hws, hcw, -, hini, -⟩ := cb
  exact vx_back (bytes := bytes) (maxL := maxL) (ret := ret) hM hbl hrc hrs hfr hlo hws hcw (fun a' U hW => word_at hW (Or.inl (by first | rfl | simp [Cond.onTables, Cond.keeps, Cond.steady])) hini)
theorem vx_runV (S : CallFix p m c cc nL s args Ts own) (hM : vx_Met l y ws rm Pc Qc XC mc ms free) (cw : CallW R s args own C index y bytes maxL ret ws rm mc ms n) (hp : PreV s H C b Pc As)
    (hg : g.method = m) (hn : As.length = n) (hsize : g.locals.size = nL) (hstack : g.stack = As.reverse ++ .ref b :: rest) (hW : 2 * g.monitorRoom + (rest.map fun v => v.category).sum ≤ 8) (hdg : decode cc g.pc = .ok (.invokevirtual index, 3)) (hf : cells + mc ≤ R.cells ∧ slots + ms ≤ R.slots) :
    vx_Run p l e R s m args below meth c H locs cells slots mc ms g rest (Qc (Value.ref b :: As).toArray) XC free := by
  have hK : vx_Back l R p e below s args y 3 8 (PreOf R mc ms Pc) (PostOf Qc mc ms free) (vx_Post XC mc ms free) := vx_callBack cw.1 hM hp.1
  obtain ⟨⟨-, -, -, -, -, -, hcode, -, hy, hlen, hl⟩, hin, hse⟩ := cw
  obtain ⟨hx, hb, hml, ho, -⟩ := S
  obtain ⟨-, ⟨cellB, hcB, hoB, hclB⟩, hPc⟩ := hp
  intro T hT X
  rcases vx_callV X hx (C := C) (bytes := bytes) (maxL := maxL) (ret := ret) ho hl hin hse hcode hy hK (by rw [hT]; exact hcB) hoB hclB hg (hsize.trans hml.symm) (argsL := As) (rest := rest) (fun sig h => hn.trans (hlen sig h)) hstack hW (by rw [hb]; exact hdg)
    (fun vm₁ hW₁ => ⟨hf.1, hf.2, hPc (T.setVm vm₁) hT hW₁⟩) with ⟨v, vm₁, ⟨U', l2, c2, s2⟩, hW₁, X', ⟨g', mk, t, L, e1, e2, hq, h1, hL, h2, h3⟩, st⟩ | ⟨q, vm₁, ⟨U', l2, c2, s2⟩, hW₁, X', ⟨g', mk, t, L, E, ce, e1, e2, hq, hce, hcv, hcl, h1, hL, h2, h3⟩, st⟩
  · dsimp only [Pt.U, Pt.locs, Pt.cells, Pt.slots] at X' e1 e2 h1 h2 h3 st
    subst h1; subst h2; subst h3
    exact Or.inl ⟨v, (T.setVm vm₁).calling g' mk (Value.ref b :: As).toArray, t, U', L, hT, X', hL, e1, e2, hq, st⟩
  · dsimp only [Pt.U, Pt.locs, Pt.cells, Pt.slots] at X' e1 e2 h1 h2 h3 st hcl
    subst h1; subst h2; subst h3
    exact Or.inr ⟨q, (T.setVm vm₁).calling g' mk (Value.ref b :: As).toArray, t, U', L, E, ce, hT, X', hL, e1, e2, hq, hce, hcv, vx_cls hW₁ hcl, st⟩
theorem vx_runS (S : CallFix p m c cc nL s args Ts own) (hM : vx_Met l y ws rm Pc Qc XC mc ms free) (cw : CallB R s args own index y bytes maxL ret ws rm mc ms n ∧ (Cond.static y).before args s = true) (hp : PreS s H Pc As)
    (hg : g.method = m) (hn : As.length = n) (hsize : g.locals.size = nL) (hstack : g.stack = As.reverse ++ rest) (hW : 2 * g.monitorRoom + (rest.map fun v => v.category).sum ≤ 8) (hdg : decode cc g.pc = .ok (.invokestatic index, 3)) (hf : cells + mc ≤ R.cells ∧ slots + ms ≤ R.slots) :
    vx_Run p l e R s m args below meth c H locs cells slots mc ms g rest (Qc As.toArray) XC free := by
  have hK : vx_Back l R p e below s args y 3 8 (PreOf R mc ms Pc) (PostOf Qc mc ms free) (vx_Post XC mc ms free) := vx_callBack cw.1 hM hp.1
  obtain ⟨⟨-, -, -, -, -, -, hcode, hini, hy, hlen, hl⟩, hstt⟩ := cw
  obtain ⟨hx, hb, hml, ho, -⟩ := S
  intro T hT X
  rcases vx_callS X hx (bytes := bytes) (maxL := maxL) (ret := ret) ho hl hstt hini hcode hy hK hg (hsize.trans hml.symm) (argsL := As) (rest := rest) (fun sig h => hn.trans (hlen sig h)) hstack hW (by rw [hb]; exact hdg)
    (fun vm₁ hW₁ => ⟨hf.1, hf.2, hp.2 (T.setVm vm₁) hT hW₁⟩) with ⟨v, vm₁, ⟨U', l2, c2, s2⟩, hW₁, X', ⟨g', mk, t, L, e1, e2, hq, h1, hL, h2, h3⟩, st⟩ | ⟨q, vm₁, ⟨U', l2, c2, s2⟩, hW₁, X', ⟨g', mk, t, L, E, ce, e1, e2, hq, hce, hcv, hcl, h1, hL, h2, h3⟩, st⟩
  · dsimp only [Pt.U, Pt.locs, Pt.cells, Pt.slots] at X' e1 e2 h1 h2 h3 st
    subst h1; subst h2; subst h3
    exact Or.inl ⟨v, (T.setVm vm₁).calling g' mk As.toArray, t, U', L, hT, X', hL, e1, e2, hq, st⟩
  · dsimp only [Pt.U, Pt.locs, Pt.cells, Pt.slots] at X' e1 e2 h1 h2 h3 st hcl
    subst h1; subst h2; subst h3
    exact Or.inr ⟨q, (T.setVm vm₁).calling g' mk As.toArray, t, U', L, E, ce, hT, X', hL, e1, e2, hq, hce, hcv, vx_cls hW₁ hcl, st⟩
end Runs
section Rows
variable {p : Program} {l : Launch} {e : Env} {R : Room} {s : State} {m : MethodId} {args : Array Value} {below : List Frame} {meth : Method} {c : Code} {H : Heap} {locs : List Loc} {cells slots : Nat} {Q : State → Prop}
variable {mc ms : Nat} {free : Addr → Prop} {A0 A1 : Nat → Prop} {H0 : Heap} {a : Array Value} {pc : Nat} {ls : Array Slot} {st0 rest : List Value}
theorem vx_keep {st₀ t T' : State} {L : List Loc} (h0 : st₀.heap = H) (e1 : T'.heap = t.heap) (hS : va_S A0 H0 H locs) (hA : ∀ q, q < H.size → A1 q → A0 q) (hf : ∀ q, free q → A0 q) (hL : ∀ q ∈ L, free q.base) (hF : va_F A1 st₀ t) :
    H.size ≤ T'.heap.size ∧ (∀ q : Nat, q < H.size → ¬ A1 q → T'.heap[q]? = H[q]?) ∧ va_S A0 H0 T'.heap (locs ++ L) := by
  obtain ⟨hz, hk⟩ := hF
  rw [h0] at hz hk
  exact ⟨by rw [e1]; exact hz, fun q h1 h2 => by rw [e1]; exact hk q h1 h2,
    ⟨Nat.le_trans hS.1 (by rw [e1]; exact hz), fun q h1 h2 => by rw [e1, hk q (Nat.lt_of_lt_of_le h1 hS.1) (fun z => h2 (hA q (Nat.lt_of_lt_of_le h1 hS.1) z))]; exact hS.2.1 q h1 h2, fun q hq => by
      rcases List.mem_append.mp hq with h | h
      · exact hS.2.2 q h
      · exact hf _ (hL q h)⟩⟩
theorem vx_calli {S SX : Type} {post : Int32 → S → Prop} {px : SX → Prop} {B : S → State → Prop} {BX : String → SX → State → Prop} {AX : Nat → Prop} (hr : vx_Run p l e R s m args below meth c H locs cells slots mc ms (F0 m pc ls st0) rest (va_Qi post B A1 a) (vx_X px BX AX) free) (hS : va_S A0 H0 H locs) (hA : ∀ q, q < H.size → A1 q → A0 q) (hf : ∀ q, free q → A0 q) (hAX : ∀ q, q < H.size → AX q → A0 q)
    (kx : ∀ (E : String) (ce : Cell) (q9 : Addr) (u : SX) (t : State) (H1 : Heap) (locs1 : List Loc), t.heap = H1 → s.vm.Alike t.vm → px u → BX E u t → H.size ≤ H1.size → (∀ q : Nat, q < H.size → ¬ AX q → H1[q]? = H[q]?) → va_S A0 H0 H1 locs1 → H1[q9]? = some ce → ce.vm = .none → s.vm.findClass E = some ce.cls → vx_W p l e R s m args below meth c H1 locs1 (cells + mc) (slots + ms) Q (F0 m pc ls rest) q9)
    (kk : ∀ (r : Int32) (u : S) (t : State) (H1 : Heap) (locs1 : List Loc), t.heap = H1 → s.vm.Alike t.vm → post r u → B u t → H.size ≤ H1.size → (∀ q : Nat, q < H.size → ¬ A1 q → H1[q]? = H[q]?) → va_S A0 H0 H1 locs1 → W p l e R s m args below meth c H1 locs1 (cells + mc) (slots + ms) Q (F0 m (pc + 3) ls (.int r :: rest))) : W p l e R s m args below meth c H locs cells slots Q (F0 m pc ls st0) := by
  intro T hT X
  rcases hr T hT X with ⟨v, st₀, t, T', L, h0, X', hL, e1, e2, ⟨⟨r, u, hv, hp, hb⟩, hF⟩, st⟩ | ⟨q, st₀, t, T', L, E, ce, h0, X', hL, e1, e2, ⟨u, hp, hb, hF⟩, hce, hcv, hcl, st⟩
  · cases hv
    obtain ⟨k1, k2, k3⟩ := vx_keep h0 e1 hS hA hf hL hF
    obtain ⟨t2, a1, b1⟩ := kk r u t T'.heap (locs ++ L) e1.symm (by rw [← e2]; exact X'.warmed.alike) hp hb k1 k2 k3 T' rfl X'
    exact ⟨t2, st t2 a1, b1⟩
  · obtain ⟨k1, k2, k3⟩ := vx_keep h0 e1 hS hAX hf hL hF
    obtain ⟨t2, a1, b1⟩ := kx E ce q u t T'.heap (locs ++ L) e1.symm (by rw [← e2]; exact X'.warmed.alike) hp hb k1 k2 k3 (by rw [e1]; exact hce) hcv hcl T' rfl X'
    exact ⟨t2, st.trans a1, b1⟩
theorem vx_calll {S SX : Type} {post : Int64 → S → Prop} {px : SX → Prop} {B : S → State → Prop} {BX : String → SX → State → Prop} {AX : Nat → Prop} (hr : vx_Run p l e R s m args below meth c H locs cells slots mc ms (F0 m pc ls st0) rest (va_Ql post B A1 a) (vx_X px BX AX) free) (hS : va_S A0 H0 H locs) (hA : ∀ q, q < H.size → A1 q → A0 q) (hf : ∀ q, free q → A0 q) (hAX : ∀ q, q < H.size → AX q → A0 q)
    (kx : ∀ (E : String) (ce : Cell) (q9 : Addr) (u : SX) (t : State) (H1 : Heap) (locs1 : List Loc), t.heap = H1 → s.vm.Alike t.vm → px u → BX E u t → H.size ≤ H1.size → (∀ q : Nat, q < H.size → ¬ AX q → H1[q]? = H[q]?) → va_S A0 H0 H1 locs1 → H1[q9]? = some ce → ce.vm = .none → s.vm.findClass E = some ce.cls → vx_W p l e R s m args below meth c H1 locs1 (cells + mc) (slots + ms) Q (F0 m pc ls rest) q9)
    (kk : ∀ (r : Int64) (u : S) (t : State) (H1 : Heap) (locs1 : List Loc), t.heap = H1 → s.vm.Alike t.vm → post r u → B u t → H.size ≤ H1.size → (∀ q : Nat, q < H.size → ¬ A1 q → H1[q]? = H[q]?) → va_S A0 H0 H1 locs1 → W p l e R s m args below meth c H1 locs1 (cells + mc) (slots + ms) Q (F0 m (pc + 3) ls (.long r :: rest))) : W p l e R s m args below meth c H locs cells slots Q (F0 m pc ls st0) := by
  intro T hT X
  rcases hr T hT X with ⟨v, st₀, t, T', L, h0, X', hL, e1, e2, ⟨⟨r, u, hv, hp, hb⟩, hF⟩, st⟩ | ⟨q, st₀, t, T', L, E, ce, h0, X', hL, e1, e2, ⟨u, hp, hb, hF⟩, hce, hcv, hcl, st⟩
  · cases hv
    obtain ⟨k1, k2, k3⟩ := vx_keep h0 e1 hS hA hf hL hF
    obtain ⟨t2, a1, b1⟩ := kk r u t T'.heap (locs ++ L) e1.symm (by rw [← e2]; exact X'.warmed.alike) hp hb k1 k2 k3 T' rfl X'
    exact ⟨t2, st t2 a1, b1⟩
  · obtain ⟨k1, k2, k3⟩ := vx_keep h0 e1 hS hAX hf hL hF
    obtain ⟨t2, a1, b1⟩ := kx E ce q u t T'.heap (locs ++ L) e1.symm (by rw [← e2]; exact X'.warmed.alike) hp hb k1 k2 k3 (by rw [e1]; exact hce) hcv hcl T' rfl X'
    exact ⟨t2, st.trans a1, b1⟩
theorem vx_callf {S SX : Type} {post : UInt32 → S → Prop} {px : SX → Prop} {B : S → State → Prop} {BX : String → SX → State → Prop} {AX : Nat → Prop} (hr : vx_Run p l e R s m args below meth c H locs cells slots mc ms (F0 m pc ls st0) rest (va_Qf post B A1 a) (vx_X px BX AX) free) (hS : va_S A0 H0 H locs) (hA : ∀ q, q < H.size → A1 q → A0 q) (hf : ∀ q, free q → A0 q) (hAX : ∀ q, q < H.size → AX q → A0 q)
    (kx : ∀ (E : String) (ce : Cell) (q9 : Addr) (u : SX) (t : State) (H1 : Heap) (locs1 : List Loc), t.heap = H1 → s.vm.Alike t.vm → px u → BX E u t → H.size ≤ H1.size → (∀ q : Nat, q < H.size → ¬ AX q → H1[q]? = H[q]?) → va_S A0 H0 H1 locs1 → H1[q9]? = some ce → ce.vm = .none → s.vm.findClass E = some ce.cls → vx_W p l e R s m args below meth c H1 locs1 (cells + mc) (slots + ms) Q (F0 m pc ls rest) q9)
    (kk : ∀ (r : UInt32) (u : S) (t : State) (H1 : Heap) (locs1 : List Loc), t.heap = H1 → s.vm.Alike t.vm → post r u → B u t → H.size ≤ H1.size → (∀ q : Nat, q < H.size → ¬ A1 q → H1[q]? = H[q]?) → va_S A0 H0 H1 locs1 → W p l e R s m args below meth c H1 locs1 (cells + mc) (slots + ms) Q (F0 m (pc + 3) ls (.float r :: rest))) : W p l e R s m args below meth c H locs cells slots Q (F0 m pc ls st0) := by
  intro T hT X
  rcases hr T hT X with ⟨v, st₀, t, T', L, h0, X', hL, e1, e2, ⟨⟨r, u, hv, hp, hb⟩, hF⟩, st⟩ | ⟨q, st₀, t, T', L, E, ce, h0, X', hL, e1, e2, ⟨u, hp, hb, hF⟩, hce, hcv, hcl, st⟩
  · cases hv
    obtain ⟨k1, k2, k3⟩ := vx_keep h0 e1 hS hA hf hL hF
    obtain ⟨t2, a1, b1⟩ := kk r u t T'.heap (locs ++ L) e1.symm (by rw [← e2]; exact X'.warmed.alike) hp hb k1 k2 k3 T' rfl X'
    exact ⟨t2, st t2 a1, b1⟩
  · obtain ⟨k1, k2, k3⟩ := vx_keep h0 e1 hS hAX hf hL hF
    obtain ⟨t2, a1, b1⟩ := kx E ce q u t T'.heap (locs ++ L) e1.symm (by rw [← e2]; exact X'.warmed.alike) hp hb k1 k2 k3 (by rw [e1]; exact hce) hcv hcl T' rfl X'
    exact ⟨t2, st.trans a1, b1⟩
theorem vx_calld {S SX : Type} {post : UInt64 → S → Prop} {px : SX → Prop} {B : S → State → Prop} {BX : String → SX → State → Prop} {AX : Nat → Prop} (hr : vx_Run p l e R s m args below meth c H locs cells slots mc ms (F0 m pc ls st0) rest (va_Qd post B A1 a) (vx_X px BX AX) free) (hS : va_S A0 H0 H locs) (hA : ∀ q, q < H.size → A1 q → A0 q) (hf : ∀ q, free q → A0 q) (hAX : ∀ q, q < H.size → AX q → A0 q)
    (kx : ∀ (E : String) (ce : Cell) (q9 : Addr) (u : SX) (t : State) (H1 : Heap) (locs1 : List Loc), t.heap = H1 → s.vm.Alike t.vm → px u → BX E u t → H.size ≤ H1.size → (∀ q : Nat, q < H.size → ¬ AX q → H1[q]? = H[q]?) → va_S A0 H0 H1 locs1 → H1[q9]? = some ce → ce.vm = .none → s.vm.findClass E = some ce.cls → vx_W p l e R s m args below meth c H1 locs1 (cells + mc) (slots + ms) Q (F0 m pc ls rest) q9)
    (kk : ∀ (r : UInt64) (u : S) (t : State) (H1 : Heap) (locs1 : List Loc), t.heap = H1 → s.vm.Alike t.vm → post r u → B u t → H.size ≤ H1.size → (∀ q : Nat, q < H.size → ¬ A1 q → H1[q]? = H[q]?) → va_S A0 H0 H1 locs1 → W p l e R s m args below meth c H1 locs1 (cells + mc) (slots + ms) Q (F0 m (pc + 3) ls (.double r :: rest))) : W p l e R s m args below meth c H locs cells slots Q (F0 m pc ls st0) := by
  intro T hT X
  rcases hr T hT X with ⟨v, st₀, t, T', L, h0, X', hL, e1, e2, ⟨⟨r, u, hv, hp, hb⟩, hF⟩, st⟩ | ⟨q, st₀, t, T', L, E, ce, h0, X', hL, e1, e2, ⟨u, hp, hb, hF⟩, hce, hcv, hcl, st⟩
  · cases hv
    obtain ⟨k1, k2, k3⟩ := vx_keep h0 e1 hS hA hf hL hF
    obtain ⟨t2, a1, b1⟩ := kk r u t T'.heap (locs ++ L) e1.symm (by rw [← e2]; exact X'.warmed.alike) hp hb k1 k2 k3 T' rfl X'
    exact ⟨t2, st t2 a1, b1⟩
  · obtain ⟨k1, k2, k3⟩ := vx_keep h0 e1 hS hAX hf hL hF
    obtain ⟨t2, a1, b1⟩ := kx E ce q u t T'.heap (locs ++ L) e1.symm (by rw [← e2]; exact X'.warmed.alike) hp hb k1 k2 k3 (by rw [e1]; exact hce) hcv hcl T' rfl X'
    exact ⟨t2, st.trans a1, b1⟩
theorem vx_callv {S SX : Type} {post : S → Prop} {px : SX → Prop} {B : S → State → Prop} {BX : String → SX → State → Prop} {AX : Nat → Prop} (hr : vx_Run p l e R s m args below meth c H locs cells slots mc ms (F0 m pc ls st0) rest (va_Qv post B A1 a) (vx_X px BX AX) free) (hS : va_S A0 H0 H locs) (hA : ∀ q, q < H.size → A1 q → A0 q) (hf : ∀ q, free q → A0 q) (hAX : ∀ q, q < H.size → AX q → A0 q)
    (kx : ∀ (E : String) (ce : Cell) (q9 : Addr) (u : SX) (t : State) (H1 : Heap) (locs1 : List Loc), t.heap = H1 → s.vm.Alike t.vm → px u → BX E u t → H.size ≤ H1.size → (∀ q : Nat, q < H.size → ¬ AX q → H1[q]? = H[q]?) → va_S A0 H0 H1 locs1 → H1[q9]? = some ce → ce.vm = .none → s.vm.findClass E = some ce.cls → vx_W p l e R s m args below meth c H1 locs1 (cells + mc) (slots + ms) Q (F0 m pc ls rest) q9)
    (kk : ∀ (u : S) (t : State) (H1 : Heap) (locs1 : List Loc), t.heap = H1 → s.vm.Alike t.vm → post u → B u t → H.size ≤ H1.size → (∀ q : Nat, q < H.size → ¬ A1 q → H1[q]? = H[q]?) → va_S A0 H0 H1 locs1 → W p l e R s m args below meth c H1 locs1 (cells + mc) (slots + ms) Q (F0 m (pc + 3) ls (rest))) : W p l e R s m args below meth c H locs cells slots Q (F0 m pc ls st0) := by
  intro T hT X
  rcases hr T hT X with ⟨v, st₀, t, T', L, h0, X', hL, e1, e2, ⟨⟨u, hv, hp, hb⟩, hF⟩, st⟩ | ⟨q, st₀, t, T', L, E, ce, h0, X', hL, e1, e2, ⟨u, hp, hb, hF⟩, hce, hcv, hcl, st⟩
  · cases hv
    obtain ⟨k1, k2, k3⟩ := vx_keep h0 e1 hS hA hf hL hF
    obtain ⟨t2, a1, b1⟩ := kk u t T'.heap (locs ++ L) e1.symm (by rw [← e2]; exact X'.warmed.alike) hp hb k1 k2 k3 T' rfl X'
    exact ⟨t2, st t2 a1, b1⟩
  · obtain ⟨k1, k2, k3⟩ := vx_keep h0 e1 hS hAX hf hL hF
    obtain ⟨t2, a1, b1⟩ := kx E ce q u t T'.heap (locs ++ L) e1.symm (by rw [← e2]; exact X'.warmed.alike) hp hb k1 k2 k3 (by rw [e1]; exact hce) hcv hcl T' rfl X'
    exact ⟨t2, st.trans a1, b1⟩
/-- caught by the row x of this method's table; the rows ahead don't take it -/
theorem vx_catch {own name : String} {E : String} {ce : Cell} {q : Addr} (hown : s.vm.findClass own = some m.cls) (pre : List ExceptionTableEntry) (x : ExceptionTableEntry) (suf : List ExceptionTableEntry) (hsplit : c.exceptionTable.toList = pre ++ x :: suf)
    (hpass : ∀ z ∈ pre, covers z pc = false ∨ (z.catchType ≠ 0 ∧ ∃ nm : String, (Cond.classLink own z.catchType nm).before args s = true ∧ va_Nc E nm s)) (hx : covers x pc = true) (h0 : x.catchType ≠ 0)
    (hlink : (Cond.classLink own x.catchType name).before args s = true) (hcast : (Cond.castable E name).before args s = true) (hcell : H[q]? = some ce) (hv : ce.vm = .none) (hcl : s.vm.findClass E = some ce.cls)
    (kk : W p l e R s m args below meth c H locs cells slots Q (F0 m x.handlerPc ls [.ref q])) : vx_W p l e R s m args below meth c H locs cells slots Q (F0 m pc ls rest) q := by
  intro T hT X
  have hpl : e.platform.magicAccessors = ({} : Platform).magicAccessors := by rw [X.admits.platform]
  obtain ⟨c3, c4, hc3, hc4, hasg⟩ := Cond.castable_spec hcast
  cases Option.some.inj (hc3.symm.trans hcl)
  obtain ⟨c5, hc5, hcl5⟩ := Cond.classLink_spec hown hlink e.platform hpl
  cases Option.some.inj (hc4.symm.trans hc5)
  obtain ⟨vm', X', st⟩ := X.thenCaughtThrough q (g := F0 m pc ls rest) rfl (Steps.refl _) (by rw [hT]; exact hcell) (by rw [hv]; rfl) (by obtain ⟨k9, h9, -⟩ := Vm.findClass_spec hcl; exact ⟨k9, h9⟩) pre x suf hsplit
    (fun z hz => by
      rcases hpass z hz with h | ⟨hz0, nm, hl1, hn1⟩
      · exact Or.inl h
      · obtain ⟨c6, hc6, hcl6⟩ := Cond.classLink_spec hown hl1 e.platform hpl
        obtain ⟨a8, b8, h1, h2, h3⟩ := hn1
        cases Option.some.inj (h1.symm.trans hcl)
        cases Option.some.inj (h2.symm.trans hc6)
        exact Or.inr ⟨hz0, _, hcl6, h3⟩) hx (Or.inr ⟨h0, c4, hcl5, hasg⟩)
  obtain ⟨t, a1, b1⟩ := kk (T.setVm vm') hT X'
  exact ⟨t, st.trans a1, b1⟩
end Rows
section Ends
variable {p : Program} {l : Launch} {e : Env} {R : Room} {s : State} {m : MethodId} {args : Array Value} {below : List Frame} {meth : Method} {c : Code} {H : Heap} {locs : List Loc} {cells slots : Nat} {Q : State → Prop}
variable {mc ms : Nat} {free : Addr → Prop} {A0 A1 : Nat → Prop} {H0 : Heap} {a : Array Value} {ls : Array Slot} {st0 rest : List Value}
variable {Qc : Array Value → State → Outcome → State → Prop} {XC : String → State → State → Prop}
/-- what a body that may throw owes at its end -/
def vx_MQ (below : List Frame) (Qc : Array Value → State → Outcome → State → Prop) (XC : String → State → State → Prop) (a : Array Value) (s : State) (mc ms : Nat) (free : Addr → Prop) : State → Prop := fun t =>
  ∃ o, t.status = .running ∧ Ended t below o ∧ vx_Q Qc XC mc ms free a s o t
theorem vx_ret {g : JFrame} {mc ms : Nat} (k : W p l e R s m args below meth c H locs cells slots (MQ below Qc args s mc ms free) g) : W p l e R s m args below meth c H locs cells slots (vx_MQ below Qc XC args s mc ms free) g := by
  intro T hT X
  obtain ⟨t, a1, o, b1, b2, b3, b4⟩ := k T hT X
  exact ⟨t, a1, o, b1, b2, Or.inl ⟨b3, b4⟩⟩
/-- not caught here: it goes on to the caller -/
theorem vx_widen {g : JFrame} {q : Addr} {k n : Nat} (h1 : cells ≤ k) (h2 : slots ≤ n) (kk : vx_W p l e R s m args below meth c H locs k n Q g q) : vx_W p l e R s m args below meth c H locs cells slots Q g q := fun T hT X => kk T hT (stand_widen X h1 h2)
theorem vx_out {pc : Nat} {E : String} {ce : Cell} {q : Addr} {mc ms : Nat} (hout : ∀ x ∈ c.exceptionTable.toList, covers x pc = false) (hlocks : meth.locks = false) (hcell : H[q]? = some ce) (hv : ce.vm = .none) (hcl : s.vm.findClass E = some ce.cls)
    (hx : ∀ t : State, t.heap = H → s.vm.Alike t.vm → XC E s t) (hf : ∀ z ∈ locs, free z.base) (hc : cells ≤ mc) (hs : slots ≤ ms) :
    vx_W p l e R s m args below meth c H locs cells slots (vx_MQ below Qc XC args s mc ms free) (F0 m pc ls rest) q := by
  intro T hT X
  obtain ⟨st1, hrun, hend, hW, hsm⟩ := X.leaveThrown q (g := F0 m pc ls rest) rfl rfl rfl hout hlocks
  have hcell9 : (T.setFrames (.throwing q :: below)).heap[q]? = some ce := by
    show T.heap[q]? = some ce
    rw [hT]; exact hcell
  exact ⟨_, st1, .threw q, hrun, hend, Or.inr ⟨q, rfl, E, ce, locs, hx _ hT hW.alike, hcell9, hv, hcl, hW, hsm.mono hc hs, hf⟩⟩
theorem vx_frame {U : State} {k n : Nat} (h : s.sameButNew ({ U with vm := s.vm } : State) locs k n) : s.heap.size ≤ U.heap.size ∧ ∀ q : Nat, q < s.heap.size → (∀ z ∈ locs, z.base ≠ q) → U.heap[q]? = s.heap[q]? := by
  obtain ⟨-, h2, -, -, -, h6⟩ := h
  refine ⟨h2, fun q hq hz => ?_⟩
  obtain ⟨c9, e1, e2, e3, e4⟩ := h6 q _ (Array.getElem?_eq_getElem hq)
  have hs : c9.slots = (s.heap[q]).slots := Array.ext_getElem? fun i => e4 i fun hm => hz _ hm rfl
  have h9 : c9 = s.heap[q] := by
    rw [hs] at e2
    exact e2
  have e5 : U.heap[q]? = some c9 := e1
  rw [e5, h9, Array.getElem?_eq_getElem hq]
/-- the words of a throw but the four that speak of the heap -/
def vx_no (w : Cond) : Bool := decide (w ≠ .isRef (.static Bundle.tN "UNASSIGNED_STACK" Bundle.steD)) && decide (w ≠ .isRef (.static Bundle.tN "SUPPRESSED_SENTINEL" Bundle.listD)) && decide (w ≠ .laysStatic Bundle.tN "UNASSIGNED_STACK" Bundle.steD) && decide (w ≠ .laysStatic Bundle.tN "SUPPRESSED_SENTINEL" Bundle.listD)
def vx_at0 (own : String) (ic : Nat) (X : String) (names : List String) : List Cond := (Bundle.ownAtoms0 own ic X names).filter vx_no
def vx_atS (own : String) (ic : Nat) (X : String) (names : List String) : List Cond := (Bundle.ownAtoms own ic X names).filter vx_no
/-- a word that the tables alone decide, or a good one -/
def vx_ot (w : Cond) : Bool := w.onTables || goodWord w
theorem vx_ot_at {args a' : Array Value} {s U : State} {w : Cond} (hW : s.WarmedH U.vm) (hvm : s.vm = U.vm) (hg : vx_ot w = true) (h : w.before args s = true) : w.before a' U = true := by
  simp only [vx_ot, Bool.or_eq_true] at hg
  rcases hg with hg | hg
  · exact va_tabs hg hvm h
  · exact word_at hW (good_of_word hg) h
/-- a list's words: the good ones out of the method's own list, the others by premises of their own -/
theorem vx_hat {args : Array Value} {s : State} {L B : List Cond} (h1 : ∀ w ∈ L.filter goodWord, w.before args s = true) (h2 : ∀ w ∈ L.filter (fun w => !goodWord w), w ∈ B) (h3 : ∀ w ∈ B, w.before args s = true) : ∀ w ∈ L, w.before args s = true := by
  intro w hw
  by_cases g : goodWord w = true
  · exact h1 w (List.mem_filter.mpr ⟨hw, g⟩)
  · refine h3 w (h2 w (List.mem_filter.mpr ⟨hw, ?_⟩))
    show (!goodWord w) = true
    cases hgw : goodWord w
    · rfl
    · exact absurd hgw g
theorem vx_c {args : Array Value} {s : State} {w : Cond} {B : List Cond} (h : w.before args s = true) (t : ∀ w ∈ B, w.before args s = true) : ∀ w' ∈ w :: B, w'.before args s = true := fun w' h' => (List.mem_cons.mp h').elim (fun e => by rw [e]; exact h) (t w')
theorem vx_n {args : Array Value} {s : State} : ∀ w ∈ ([] : List Cond), w.before args s = true := fun _ h => nomatch h
theorem vx_own {args : Array Value} {s : State} {L : List Cond} (h1 : ∀ w ∈ L.filter vx_no, w.before args s = true)
    (hU : (Cond.isRef (.static Bundle.tN "UNASSIGNED_STACK" Bundle.steD)).before args s = true) (hN : (Cond.isRef (.static Bundle.tN "SUPPRESSED_SENTINEL" Bundle.listD)).before args s = true)
    (lU : (Cond.laysStatic Bundle.tN "UNASSIGNED_STACK" Bundle.steD).before args s = true) (lN : (Cond.laysStatic Bundle.tN "SUPPRESSED_SENTINEL" Bundle.listD).before args s = true) : ∀ w ∈ L, w.before args s = true := by
  intro w hw
  by_cases e1 : w = .isRef (.static Bundle.tN "UNASSIGNED_STACK" Bundle.steD)
  · rw [e1]; exact hU
  · by_cases e2 : w = .isRef (.static Bundle.tN "SUPPRESSED_SENTINEL" Bundle.listD)
    · rw [e2]; exact hN
    · by_cases e3 : w = .laysStatic Bundle.tN "UNASSIGNED_STACK" Bundle.steD
      · rw [e3]; exact lU
      · by_cases e4 : w = .laysStatic Bundle.tN "SUPPRESSED_SENTINEL" Bundle.listD
        · rw [e4]; exact lN
        · exact h1 w (List.mem_filter.mpr ⟨hw, by unfold vx_no; rw [decide_eq_true e1, decide_eq_true e2, decide_eq_true e3, decide_eq_true e4]; rfl⟩)
/-- where a static field lies, its class's statics cell in H -/
def vx_L (C n d : String) (A : Nat → Prop) (U : State) (H : Heap) : Prop := ∃ (c : ClassId) (k : Class) (i : Nat) (f : Field) (a : Nat) (cell : Cell), U.vm.findClass C = some c ∧ U.fieldFound? C n d = some (c, k, i, f) ∧ f.isStatic = true ∧ k.statics = some a ∧ H[a]? = some cell ∧ cell.vm.isStatics = true ∧ cell.cls = c ∧ f.slot < cell.slots.size ∧ k.staticTypes[f.slot]? = some f.type ∧ ¬ A a
theorem vx_L.moved {C n d : String} {A : Nat → Prop} {u U : State} {H : Heap} (hvm : u.vm.Alike U.vm) (h : vx_L C n d A u H) : vx_L C n d A U H := by
  obtain ⟨c, k, i, f, a, cell, h1, h2, h3, h4, h5, h6, h7, h8, h9, h10⟩ := h
  obtain ⟨k', hi', he⟩ := State.fieldFound?_setVm hvm h2
  exact ⟨c, k', i, f, a, cell, by rw [hvm.findClass]; exact h1, hi', h3, by rw [he]; exact h4, h5, h6, h7, h8, by rw [he]; exact h9, h10⟩
theorem vx_L.kept {C n d : String} {A : Nat → Prop} {U : State} {H H1 : Heap} (h : vx_L C n d A U H) (hq : ∀ a : Nat, a < H.size → ¬ A a → H1[a]? = H[a]?) : vx_L C n d A U H1 := by
  obtain ⟨c, k, i, f, a, cell, h1, h2, h3, h4, h5, h6, h7, h8, h9, h10⟩ := h
  exact ⟨c, k, i, f, a, cell, h1, h2, h3, h4, by rw [hq a (Array.getElem?_eq_some_iff.mp h5).1 h10]; exact h5, h6, h7, h8, h9, h10⟩
theorem vx_L.narrow {C n d : String} {A B : Nat → Prop} {U : State} {H : Heap} (h : vx_L C n d A U H) (hAB : ∀ q, B q → A q) : vx_L C n d B U H := by
  obtain ⟨c, k, i, f, a, cell, h1, h2, h3, h4, h5, h6, h7, h8, h9, h10⟩ := h
  exact ⟨c, k, i, f, a, cell, h1, h2, h3, h4, h5, h6, h7, h8, h9, fun z => h10 (hAB _ z)⟩
theorem vx_L.word {C n d : String} {A : Nat → Prop} {s : State} {args : Array Value} (h : vx_L C n d A s s.heap) : (Cond.laysStatic C n d).before args s = true := by
  obtain ⟨c, k, i, f, a, cell, h1, h2, h3, h4, h5, h6, h7, h8, h9, -⟩ := h
  show (Cond.laysStatic C n d).holds args s none s [] = true
  exact Cond.laysStatic_of h1 h2 h3 h4 h5 h6 h7 h8 h9
/-- .. and what it holds: null or some reference -/
def vx_Zq (C n d : String) (A : Nat → Prop) (U : State) (H : Heap) : Prop := va_Zq C n d A U H ∧ vx_L C n d A U H
theorem vx_Zq.moved {C n d : String} {A : Nat → Prop} {u U : State} {H : Heap} (hvm : u.vm.Alike U.vm) (h : vx_Zq C n d A u H) : vx_Zq C n d A U H := ⟨va_Zq.moved hvm h.1, vx_L.moved hvm h.2⟩
theorem vx_Zq.kept {C n d : String} {A : Nat → Prop} {U : State} {H H1 : Heap} (h : vx_Zq C n d A U H) (hq : ∀ a : Nat, a < H.size → ¬ A a → H1[a]? = H[a]?) : vx_Zq C n d A U H1 := ⟨va_Zq.kept h.1 hq, vx_L.kept h.2 hq⟩
theorem vx_Zq.narrow {C n d : String} {A B : Nat → Prop} {U : State} {H : Heap} (h : vx_Zq C n d A U H) (hAB : ∀ q, B q → A q) : vx_Zq C n d B U H := ⟨va_Zq.narrow h.1 hAB, vx_L.narrow h.2 hAB⟩
theorem vx_Zqof {args : Array Value} {s : State} {C n d : String} {A : Nat → Prop} (hl : (Cond.laysStatic C n d).before args s = true) (hini : (Cond.initialized C).before args s = true) (h : (Cond.isRef (.static C n d)).before args s = true) (hA : ∀ a : Nat, a < s.heap.size → ¬ A a) : vx_Zq C n d A s s.heap := by
  refine ⟨va_Zqof hl hini h hA, ?_⟩
  obtain ⟨c, k, i, f, a, cell, h1, h2, h3, h4, h5, h6, h7, h8, h9⟩ := Cond.laysStatic_spec hl
  exact ⟨c, k, i, f, a, cell, h1, h2, h3, h4, h5, h6, h7, h8, h9, hA a (Array.getElem?_eq_some_iff.mp h5).1⟩
theorem vx_isRef {C n d : String} {v : Value} {A : Nat → Prop} {s : State} {args : Array Value} (h : va_Z C n d v A s s.heap) (hv : v.isRef = true) : (Cond.isRef (.static C n d)).before args s = true := by
  obtain ⟨cf, kf, fi, f, a, cell, h1, h2, h3, h4, h5, h6, h7, -⟩ := h
  have he : (Term.static C n d).eval args s none [] s = some v := by
    simp [Term.eval, State.fieldNamed?, h1, h2, h4, h5, h6, h7]
  simp only [Cond.before, Cond.holds, Cond.value, he]
  cases v <;> simp_all [Value.isRef]
theorem vx_isRefq {C n d : String} {A : Nat → Prop} {s : State} {args : Array Value} (h : va_Zq C n d A s s.heap) : (Cond.isRef (.static C n d)).before args s = true := by
  rcases h with h | ⟨t, h⟩
  · exact vx_isRef h rfl
  · exact vx_isRef h rfl
/-- the same frame, seen from here: as if the method were called anew in this heap -/
theorem vx_rebase {T : State} (X : Stand p l e R s m args below meth c T locs cells slots) {R' : Room} (hf : R'.frames ≤ R.frames) (hl : R'.locals ≤ R.locals) (hc : cells + R'.cells ≤ R.cells) (hs : slots + R'.slots ≤ R.slots) :
    Stand p l e R' ((T.setVm s.vm).setFrames (.invoking m args :: below)) m args below meth c T [] 0 0 := by
  have htop : (T.setVm s.vm).topJava?.isSome := X.here.top
  have hF : ((T.setVm s.vm).setFrames (.invoking m args :: below)).frames = .invoking m args :: below := State.frames_setFrames _ (State.cur_lt_of_top htop)
  obtain ⟨g₀, hg0⟩ := Option.isSome_iff_exists.mp htop
  obtain ⟨r, hr⟩ := State.topJava?_eq_some.mp hg0
  have hl9 : e.platform.stackLimits (T.setVm s.vm).me = e.platform.stackLimits s.me := X.limits
  have hb9 : (T.setVm s.vm).me.stackBytes = s.me.stackBytes := X.bytes
  refine ⟨X.admits, X.cas, X.clock, hF, ?_, X.hears, X.method, X.code, X.here, X.tail, X.warmed, ?_, ?_, ?_⟩
  · have h := X.room
    have hU : ((T.setVm s.vm).setFrames (.invoking m args :: below)).localsInUse = s.localsInUse := by
      rw [State.localsInUse_invoking hF (meth := meth) (c := c) X.method X.code, State.localsInUse_invoking X.frames X.method X.code]
    simp only [State.hasRoom, Bool.and_eq_true, decide_eq_true_eq] at h ⊢
    obtain ⟨⟨⟨⟨h1, h2, h3, h4, h5, h6⟩, h7⟩, h8⟩, h9⟩ := h
    rw [X.frames, List.length_cons] at h2 h3
    have q1 := X.heapSize
    have q2 := X.used
    simp only [hF, hU, List.length_cons, State.stackLimits_setFrames, State.stackBytes_setFrames, hl9, hb9]
    refine ⟨⟨⟨⟨by omega, by omega, by omega, by omega, by omega, h6⟩, ?_⟩, ?_⟩, X.book⟩
    · show T.heap.size + R'.cells ≤ e.platform.maxCells
      omega
    · show T.slotsUsed + R'.slots ≤ e.platform.maxSlots
      omega
  · rw [State.stackLimits_setFrames]; rfl
  · rw [State.stackBytes_setFrames]; rfl
  · refine ⟨?_, Nat.le_refl _, Nat.le_refl _, ?_, ?_, fun a c9 h9 => ⟨c9, h9, rfl, rfl, fun _ _ => rfl⟩⟩
    · obtain ⟨t, ht, -⟩ := State.frames_cons hr
      show T.setVm s.vm = { ((T.setVm s.vm).setFrames (.invoking m args :: below)).setFrames (T.setVm s.vm).frames with heap := T.heap, slotsUsed := T.slotsUsed }
      rw [State.setFrames_setFrames, State.setFrames_self ht]
      rfl
    · show T.slotsUsed = T.slotsUsed + ((T.heap.toList.drop T.heap.size).map (·.slots.size)).sum
      rw [List.drop_eq_nil_of_le (Nat.le_of_eq Array.length_toList)]
      rfl
    · show ((T.heap.toList.drop T.heap.size).map (·.slots.size)).sum ≤ 0
      rw [List.drop_eq_nil_of_le (Nat.le_of_eq Array.length_toList)]
      exact Nat.le_refl _
/-- 'throw new E()': new; dup; invokespecial; athrow -/
theorem vx_throw0 {cc : ByteArray} {pc : Nat} (hexec : p.tables.exec = Jvm.exec) (hb : c.code = cc) (hl : l.stackTraces = false) {own cls : String} {names : List String} {ik ic mc ms : Nat} {A : Nat → Prop}
    (hown : s.vm.findClass own = some m.cls) (hcls : Bundle.fit cls = true) (hnames : ∀ n ∈ names, Bundle.fit n = true)
    (hk : (Cond.classLink own ik cls).before args s = true) (hini : (Cond.initialized cls).before args s = true) (hat : ∀ w ∈ vx_at0 own ic cls names, w.before args s = true)
    (hgood : ∀ w ∈ Cond.classLink own ik cls :: Cond.initialized cls :: vx_at0 own ic cls names, vx_ot w = true)
    (hU : vx_Zq Bundle.tN "UNASSIGNED_STACK" Bundle.steD A s s.heap) (hN : vx_Zq Bundle.tN "SUPPRESSED_SENTINEL" Bundle.listD A s s.heap) (hS : va_S A s.heap H locs) (hsize : ls.size = c.maxLocals)
    (d0 : decode cc pc = .ok (.new ik, 3)) (d3 : decode cc (pc + 3) = .ok (.dup, 1)) (d4 : decode cc (pc + 4) = .ok (.invokespecial ic, 3)) (d7 : decode cc (pc + 7) = .ok (.athrow, 1))
    (hout : ∀ x ∈ c.exceptionTable.toList, covers x (pc + 7) = false)
    (hRframes : names.length + 3 < R.frames) (hRlocals : (rest.map fun v => v.category).sum + (13 * (names.length + 1) + 42) ≤ R.locals) (hRcells : cells + 1 ≤ R.cells) (hRslots : slots + 6 ≤ R.slots) (hlocks : meth.locks = false)
    (hx : ∀ t : State, s.vm.Alike t.vm → H.size ≤ t.heap.size → (∀ q : Nat, q < H.size → t.heap[q]? = H[q]?) → XC cls s t)
    (hf : ∀ z ∈ locs, free z.base) (hc : cells + 1 ≤ mc) (hs : slots + 6 ≤ ms) :
    W p l e R s m args below meth c H locs cells slots (vx_MQ below Qc XC args s mc ms free) (F0 m pc ls rest) := by
  intro T hT X
  have htr : e.platform.stackTraces = false := (show e.platform.stackTraces = l.stackTraces by rw [X.admits.platform]).trans hl
  have Y := vx_rebase X (R' := { frames := R.frames, locals := R.locals, cells := 1, slots := 6 }) (Nat.le_refl _) (Nat.le_refl _) hRcells hRslots
  obtain ⟨s', hA⟩ : ∃ z, z = (T.setVm s.vm).setFrames (.invoking m args :: below) := ⟨_, rfl⟩
  rw [← hA] at Y
  have hvm : s'.vm = s.vm := by rw [hA]; rfl
  have hhp : s'.heap = H := by rw [hA]; exact hT
  have hW0 : s.WarmedH s'.vm := by rw [hvm]; exact State.WarmedH.refl s
  have hat' : ∀ w ∈ vx_at0 own ic cls names, w.before args s' = true := fun w hw => vx_ot_at hW0 hvm.symm (hgood w (List.mem_cons_of_mem _ (List.mem_cons_of_mem _ hw))) (hat w hw)
  have hk' : (Cond.classLink own ik cls).before args s' = true := vx_ot_at hW0 hvm.symm (hgood _ List.mem_cons_self) hk
  have hini' : (Cond.initialized cls).before args s' = true := vx_ot_at hW0 hvm.symm (hgood _ (List.mem_cons_of_mem _ List.mem_cons_self)) hini
  have hU' : vx_Zq Bundle.tN "UNASSIGNED_STACK" Bundle.steD A s' s'.heap := by rw [hhp]; exact vx_Zq.moved hW0.alike (hU.kept hS.2.1)
  have hN' : vx_Zq Bundle.tN "SUPPRESSED_SENTINEL" Bundle.listD A s' s'.heap := by rw [hhp]; exact vx_Zq.moved hW0.alike (hN.kept hS.2.1)
  have h : ∀ w ∈ Bundle.ownAtoms0 own ic cls names, w.before args s' = true := vx_own hat' (vx_isRefq hU'.1) (vx_isRefq hN'.1) hU'.2.word hN'.2.word
  have hown' : s'.vm.findClass own = some m.cls := by rw [hvm]; exact hown
  have hins : (Cond.instantiable cls 6).before args s' = true := h _ (by simp [Bundle.ownAtoms0])
  obtain ⟨vm₁, cX, kX, hfX, hkX, -, -, X₁, st1⟩ := Y.newCold hexec (own := own) (C := cls) (index := ik) (n := 6) hown' hk' hins hini'
    (g := F0 m pc ls rest) rfl (by rw [hb]; exact d0) (Nat.le_refl _) (Nat.le_refl _)
  generalize hT1 : (T.setVm vm₁).pushCell { cls := cX, slots := kX.instanceTypes.map defaultValue, vm := .none } = T1 at X₁ st1
  have hcat : (Value.ref T.heap.size).category = 1 := rfl
  have hcellA : T1.heap[T.heap.size]? = some (freshCell cX kX) := by rw [← hT1]; exact State.heap_pushCell_size _ _
  have d3' : decode c.code (pc + 3) = .ok (.dup, 1) := by rw [hb]; exact d3
  obtain ⟨U, hsteps, hrun, hend, hW, hsame, ce, hce, hO⟩ := X₁.ctorThrow0 hexec htr (own := own) (cls := cls) (names := names) (ic := ic) hown' hcls hnames h (fun x hx => nomatch hx) hfX hkX hcellA (by rw [hhp, hT]; exact Nat.le_refl _)
    (g := { method := m, pc := pc + 4, locals := ls, stack := .ref T.heap.size :: .ref T.heap.size :: rest, locked := none }) rfl hsize rfl rfl (rest := rest) rfl
    (by rw [hb]; exact d4) (by rw [hb]; exact d7) hout hRframes (by simp only [List.map_cons, List.sum_cons, hcat]; omega) hlocks
  obtain ⟨f1, f2⟩ := vx_frame hsame
  rw [hhp] at f1 f2
  have hWs : s.WarmedH U.vm := State.WarmedH.trans hW0 hW
  have hcl : s.vm.findClass cls = some ce.cls := by
    have h9 := hO.cls
    rw [hvm] at h9
    exact h9
  have hall : s.sameButNew ({ U with vm := s.vm } : State) locs mc ms := by
    subst hA
    obtain ⟨e1, e2⟩ := hsame
    rw [State.setFrames_setFrames] at e1
    have h2 : (T.setVm s.vm).sameButNew ({ U with vm := s.vm } : State) [] (0 + 1) (0 + 6) := ⟨e1, e2⟩
    have h3 := X.same.trans h2
    rw [List.append_nil] at h3
    exact h3.mono hc hs
  refine ⟨U, ?_, .threw T.heap.size, hrun, hend, Or.inr ⟨T.heap.size, rfl, cls, ce, locs, hx U hWs.alike f1 (fun q hq => f2 q hq (fun z hz => nomatch hz)), hce, hO.vm, hcl, hWs, hall, hf⟩⟩
  refine st1 _ ?_
  show Steps p.tables e below (T1.setTop { method := m, pc := pc + 3, locals := ls, stack := .ref T.heap.size :: rest, locked := none }) _
  jvm_step X₁.here [X₁.here.top, hexec, d3', Value.category]
  exact hsteps
/-- 'throw new E("text")': new; dup; ldc; invokespecial; athrow -/
theorem vx_throwS {cc : ByteArray} {pc : Nat} (hexec : p.tables.exec = Jvm.exec) (hb : c.code = cc) (hl : l.stackTraces = false) {own cls text : String} {names : List String} {ik is ic mc ms sa : Nat} {A : Nat → Prop}
    (hown : s.vm.findClass own = some m.cls) (hcls : Bundle.fit cls = true) (hnames : ∀ n ∈ names, Bundle.fit n = true)
    (hk : (Cond.classLink own ik cls).before args s = true) (hini : (Cond.initialized cls).before args s = true) (hstr : vk_R own is text sa s) (hat : ∀ w ∈ vx_atS own ic cls names, w.before args s = true)
    (hgood : ∀ w ∈ Cond.classLink own ik cls :: Cond.initialized cls :: vx_atS own ic cls names, vx_ot w = true)
    (hU : vx_Zq Bundle.tN "UNASSIGNED_STACK" Bundle.steD A s s.heap) (hN : vx_Zq Bundle.tN "SUPPRESSED_SENTINEL" Bundle.listD A s s.heap) (hS : va_S A s.heap H locs) (hsize : ls.size = c.maxLocals)
    (d0 : decode cc pc = .ok (.new ik, 3)) (d3 : decode cc (pc + 3) = .ok (.dup, 1)) (d4 : decode cc (pc + 4) = .ok (.ldc is, 2)) (d6 : decode cc (pc + 6) = .ok (.invokespecial ic, 3)) (d9 : decode cc (pc + 9) = .ok (.athrow, 1))
    (hout : ∀ x ∈ c.exceptionTable.toList, covers x (pc + 9) = false)
    (hRframes : names.length + 3 < R.frames) (hRlocals : (rest.map fun v => v.category).sum + (13 * (names.length + 1) + 43) ≤ R.locals) (hRcells : cells + 1 ≤ R.cells) (hRslots : slots + 6 ≤ R.slots) (hlocks : meth.locks = false)
    (hx : ∀ t : State, s.vm.Alike t.vm → H.size ≤ t.heap.size → (∀ q : Nat, q < H.size → t.heap[q]? = H[q]?) → XC cls s t)
    (hf : ∀ z ∈ locs, free z.base) (hc : cells + 1 ≤ mc) (hs : slots + 6 ≤ ms) :
    W p l e R s m args below meth c H locs cells slots (vx_MQ below Qc XC args s mc ms free) (F0 m pc ls rest) := by
  intro T hT X
  have htr : e.platform.stackTraces = false := (show e.platform.stackTraces = l.stackTraces by rw [X.admits.platform]).trans hl
  have Y := vx_rebase X (R' := { frames := R.frames, locals := R.locals, cells := 1, slots := 6 }) (Nat.le_refl _) (Nat.le_refl _) hRcells hRslots
  obtain ⟨s', hA⟩ : ∃ z, z = (T.setVm s.vm).setFrames (.invoking m args :: below) := ⟨_, rfl⟩
  rw [← hA] at Y
  have hvm : s'.vm = s.vm := by rw [hA]; rfl
  have hhp : s'.heap = H := by rw [hA]; exact hT
  have hW0 : s.WarmedH s'.vm := by rw [hvm]; exact State.WarmedH.refl s
  have hat' : ∀ w ∈ vx_atS own ic cls names, w.before args s' = true := fun w hw => vx_ot_at hW0 hvm.symm (hgood w (List.mem_cons_of_mem _ (List.mem_cons_of_mem _ hw))) (hat w hw)
  have hk' : (Cond.classLink own ik cls).before args s' = true := vx_ot_at hW0 hvm.symm (hgood _ List.mem_cons_self) hk
  have hini' : (Cond.initialized cls).before args s' = true := vx_ot_at hW0 hvm.symm (hgood _ (List.mem_cons_of_mem _ List.mem_cons_self)) hini
  have hU' : vx_Zq Bundle.tN "UNASSIGNED_STACK" Bundle.steD A s' s'.heap := by rw [hhp]; exact vx_Zq.moved hW0.alike (hU.kept hS.2.1)
  have hN' : vx_Zq Bundle.tN "SUPPRESSED_SENTINEL" Bundle.listD A s' s'.heap := by rw [hhp]; exact vx_Zq.moved hW0.alike (hN.kept hS.2.1)
  have h : ∀ w ∈ Bundle.ownAtoms own ic cls names, w.before args s' = true := vx_own hat' (vx_isRefq hU'.1) (vx_isRefq hN'.1) hU'.2.word hN'.2.word
  have hown' : s'.vm.findClass own = some m.cls := by rw [hvm]; exact hown
  have hins : (Cond.instantiable cls 6).before args s' = true := h _ (by simp [Bundle.ownAtoms])
  obtain ⟨vm₁, cX, kX, hfX, hkX, -, -, X₁, st1⟩ := Y.newCold hexec (own := own) (C := cls) (index := ik) (n := 6) hown' hk' hins hini'
    (g := F0 m pc ls rest) rfl (by rw [hb]; exact d0) (Nat.le_refl _) (Nat.le_refl _)
  generalize hT1 : (T.setVm vm₁).pushCell { cls := cX, slots := kX.instanceTypes.map defaultValue, vm := .none } = T1 at X₁ st1
  have hcat : (Value.ref T.heap.size).category = 1 := rfl
  have hcellA : T1.heap[T.heap.size]? = some (freshCell cX kX) := by rw [← hT1]; exact State.heap_pushCell_size _ _
  have d3' : decode c.code (pc + 3) = .ok (.dup, 1) := by rw [hb]; exact d3
  have d4' : decode c.code (pc + 4) = .ok (.ldc is, 2) := by rw [hb]; exact d4
  have hstr' : vk_R own is text sa s' := vk_R.warm hW0 hstr
  obtain ⟨U, hsteps, hrun, hend, hW, hsame, ce, hce, hO⟩ := X₁.ctorThrowS hexec htr (own := own) (cls := cls) (names := names) (ic := ic) hown' hcls hnames h (fun x hx => nomatch hx) hfX hkX hcellA (by rw [hhp, hT]; exact Nat.le_refl _) (msg := .ref sa) rfl
    (g := { method := m, pc := pc + 6, locals := ls, stack := .ref sa :: .ref T.heap.size :: .ref T.heap.size :: rest, locked := none }) rfl hsize rfl rfl (rest := rest) rfl
    (by rw [hb]; exact d6) (by rw [hb]; exact d9) hout hRframes (by simp only [List.map_cons, List.sum_cons, hcat]; omega) hlocks
  obtain ⟨f1, f2⟩ := vx_frame hsame
  rw [hhp] at f1 f2
  have hWs : s.WarmedH U.vm := State.WarmedH.trans hW0 hW
  have hcl : s.vm.findClass cls = some ce.cls := by
    have h9 := hO.cls
    rw [hvm] at h9
    exact h9
  have hall : s.sameButNew ({ U with vm := s.vm } : State) locs mc ms := by
    subst hA
    obtain ⟨e1, e2⟩ := hsame
    rw [State.setFrames_setFrames] at e1
    have h2 : (T.setVm s.vm).sameButNew ({ U with vm := s.vm } : State) [] (0 + 1) (0 + 6) := ⟨e1, e2⟩
    have h3 := X.same.trans h2
    rw [List.append_nil] at h3
    exact h3.mono hc hs
  refine ⟨U, ?_, .threw T.heap.size, hrun, hend, Or.inr ⟨T.heap.size, rfl, cls, ce, locs, hx U hWs.alike f1 (fun q hq => f2 q hq (fun z hz => nomatch hz)), hce, hO.vm, hcl, hWs, hall, hf⟩⟩
  refine st1 _ ?_
  show Steps p.tables e below (T1.setTop { method := m, pc := pc + 3, locals := ls, stack := .ref T.heap.size :: rest, locked := none }) _
  jvm_step X₁.here [X₁.here.top, hexec, d3', Value.category]
  exact X₁.ldcString hexec (own := own) (text := text) (index := is) (a := sa) hown' hstr'.1 hstr'.2
    (g := { method := m, pc := pc + 4, locals := ls, stack := .ref T.heap.size :: .ref T.heap.size :: rest, locked := none }) rfl d4' _ hsteps
/-- 'throw new E("text")', the text by a wide index -/
theorem vx_throwSW {cc : ByteArray} {pc : Nat} (hexec : p.tables.exec = Jvm.exec) (hb : c.code = cc) (hl : l.stackTraces = false) {own cls text : String} {names : List String} {ik is ic mc ms sa : Nat} {A : Nat → Prop}
    (hown : s.vm.findClass own = some m.cls) (hcls : Bundle.fit cls = true) (hnames : ∀ n ∈ names, Bundle.fit n = true)
    (hk : (Cond.classLink own ik cls).before args s = true) (hini : (Cond.initialized cls).before args s = true) (hstr : vk_R own is text sa s) (hat : ∀ w ∈ vx_atS own ic cls names, w.before args s = true)
    (hgood : ∀ w ∈ Cond.classLink own ik cls :: Cond.initialized cls :: vx_atS own ic cls names, vx_ot w = true)
    (hU : vx_Zq Bundle.tN "UNASSIGNED_STACK" Bundle.steD A s s.heap) (hN : vx_Zq Bundle.tN "SUPPRESSED_SENTINEL" Bundle.listD A s s.heap) (hS : va_S A s.heap H locs) (hsize : ls.size = c.maxLocals)
    (d0 : decode cc pc = .ok (.new ik, 3)) (d3 : decode cc (pc + 3) = .ok (.dup, 1)) (d4 : decode cc (pc + 4) = .ok (.ldc_w is, 3)) (d7 : decode cc (pc + 7) = .ok (.invokespecial ic, 3)) (d10 : decode cc (pc + 10) = .ok (.athrow, 1))
    (hout : ∀ x ∈ c.exceptionTable.toList, covers x (pc + 10) = false)
    (hRframes : names.length + 3 < R.frames) (hRlocals : (rest.map fun v => v.category).sum + (13 * (names.length + 1) + 43) ≤ R.locals) (hRcells : cells + 1 ≤ R.cells) (hRslots : slots + 6 ≤ R.slots) (hlocks : meth.locks = false)
    (hx : ∀ t : State, s.vm.Alike t.vm → H.size ≤ t.heap.size → (∀ q : Nat, q < H.size → t.heap[q]? = H[q]?) → XC cls s t)
    (hf : ∀ z ∈ locs, free z.base) (hc : cells + 1 ≤ mc) (hs : slots + 6 ≤ ms) :
    W p l e R s m args below meth c H locs cells slots (vx_MQ below Qc XC args s mc ms free) (F0 m pc ls rest) := by
  intro T hT X
  have htr : e.platform.stackTraces = false := (show e.platform.stackTraces = l.stackTraces by rw [X.admits.platform]).trans hl
  have Y := vx_rebase X (R' := { frames := R.frames, locals := R.locals, cells := 1, slots := 6 }) (Nat.le_refl _) (Nat.le_refl _) hRcells hRslots
  obtain ⟨s', hA⟩ : ∃ z, z = (T.setVm s.vm).setFrames (.invoking m args :: below) := ⟨_, rfl⟩
  rw [← hA] at Y
  have hvm : s'.vm = s.vm := by rw [hA]; rfl
  have hhp : s'.heap = H := by rw [hA]; exact hT
  have hW0 : s.WarmedH s'.vm := by rw [hvm]; exact State.WarmedH.refl s
  have hat' : ∀ w ∈ vx_atS own ic cls names, w.before args s' = true := fun w hw => vx_ot_at hW0 hvm.symm (hgood w (List.mem_cons_of_mem _ (List.mem_cons_of_mem _ hw))) (hat w hw)
  have hk' : (Cond.classLink own ik cls).before args s' = true := vx_ot_at hW0 hvm.symm (hgood _ List.mem_cons_self) hk
  have hini' : (Cond.initialized cls).before args s' = true := vx_ot_at hW0 hvm.symm (hgood _ (List.mem_cons_of_mem _ List.mem_cons_self)) hini
  have hU' : vx_Zq Bundle.tN "UNASSIGNED_STACK" Bundle.steD A s' s'.heap := by rw [hhp]; exact vx_Zq.moved hW0.alike (hU.kept hS.2.1)
  have hN' : vx_Zq Bundle.tN "SUPPRESSED_SENTINEL" Bundle.listD A s' s'.heap := by rw [hhp]; exact vx_Zq.moved hW0.alike (hN.kept hS.2.1)
  have h : ∀ w ∈ Bundle.ownAtoms own ic cls names, w.before args s' = true := vx_own hat' (vx_isRefq hU'.1) (vx_isRefq hN'.1) hU'.2.word hN'.2.word
  have hown' : s'.vm.findClass own = some m.cls := by rw [hvm]; exact hown
  have hins : (Cond.instantiable cls 6).before args s' = true := h _ (by simp [Bundle.ownAtoms])
  obtain ⟨vm₁, cX, kX, hfX, hkX, -, -, X₁, st1⟩ := Y.newCold hexec (own := own) (C := cls) (index := ik) (n := 6) hown' hk' hins hini'
    (g := F0 m pc ls rest) rfl (by rw [hb]; exact d0) (Nat.le_refl _) (Nat.le_refl _)
  generalize hT1 : (T.setVm vm₁).pushCell { cls := cX, slots := kX.instanceTypes.map defaultValue, vm := .none } = T1 at X₁ st1
  have hcat : (Value.ref T.heap.size).category = 1 := rfl
  have hcellA : T1.heap[T.heap.size]? = some (freshCell cX kX) := by rw [← hT1]; exact State.heap_pushCell_size _ _
  have d3' : decode c.code (pc + 3) = .ok (.dup, 1) := by rw [hb]; exact d3
  have d4' : decode c.code (pc + 4) = .ok (.ldc_w is, 3) := by rw [hb]; exact d4
  have hstr' : vk_R own is text sa s' := vk_R.warm hW0 hstr
  obtain ⟨U, hsteps, hrun, hend, hW, hsame, ce, hce, hO⟩ := X₁.ctorThrowS hexec htr (own := own) (cls := cls) (names := names) (ic := ic) hown' hcls hnames h (fun x hx => nomatch hx) hfX hkX hcellA (by rw [hhp, hT]; exact Nat.le_refl _) (msg := .ref sa) rfl
    (g := { method := m, pc := pc + 7, locals := ls, stack := .ref sa :: .ref T.heap.size :: .ref T.heap.size :: rest, locked := none }) rfl hsize rfl rfl (rest := rest) rfl
    (by rw [hb]; exact d7) (by rw [hb]; exact d10) hout hRframes (by simp only [List.map_cons, List.sum_cons, hcat]; omega) hlocks
  obtain ⟨f1, f2⟩ := vx_frame hsame
  rw [hhp] at f1 f2
  have hWs : s.WarmedH U.vm := State.WarmedH.trans hW0 hW
  have hcl : s.vm.findClass cls = some ce.cls := by
    have h9 := hO.cls
    rw [hvm] at h9
    exact h9
  have hall : s.sameButNew ({ U with vm := s.vm } : State) locs mc ms := by
    subst hA
    obtain ⟨e1, e2⟩ := hsame
    rw [State.setFrames_setFrames] at e1
    have h2 : (T.setVm s.vm).sameButNew ({ U with vm := s.vm } : State) [] (0 + 1) (0 + 6) := ⟨e1, e2⟩
    have h3 := X.same.trans h2
    rw [List.append_nil] at h3
    exact h3.mono hc hs
  refine ⟨U, ?_, .threw T.heap.size, hrun, hend, Or.inr ⟨T.heap.size, rfl, cls, ce, locs, hx U hWs.alike f1 (fun q hq => f2 q hq (fun z hz => nomatch hz)), hce, hO.vm, hcl, hWs, hall, hf⟩⟩
  refine st1 _ ?_
  show Steps p.tables e below (T1.setTop { method := m, pc := pc + 3, locals := ls, stack := .ref T.heap.size :: rest, locked := none }) _
  jvm_step X₁.here [X₁.here.top, hexec, d3', Value.category]
  exact X₁.ldcStringW hexec (own := own) (text := text) (index := is) (a := sa) hown' hstr'.1 hstr'.2
    (g := { method := m, pc := pc + 4, locals := ls, stack := .ref T.heap.size :: .ref T.heap.size :: rest, locked := none }) rfl d4' _ hsteps
end Ends
section Bodies
variable {l : Launch}
theorem vx_ofW {y : MethodName} {ws ws' : List Cond} {rm : Room} {Pc : Array Value → State → Prop} {Qc : Array Value → State → Outcome → State → Prop} {XC : String → State → State → Prop} {mc ms : Nat} {free : Addr → Prop} {cc : ByteArray} {maxL : Nat} {ret : Option FieldType}
    (hy : plainName y.cls = true) (hw : ws = Cond.code y cc maxL ret :: ws')
    (body : ∀ p e s m args below meth c s₁, BodyLoose p l y (headSpec ws rm) cc maxL ret e s m args below meth c s₁ → c.maxLocals = maxL → (∀ x ∈ c.exceptionTable.toList, False) → Pc args s →
      W p l e (headSpec ws rm).room s m args below meth c s.heap [] 0 0 (vx_MQ below Qc XC args s mc ms free) (entryFrame m args maxL)) : vx_Met l y ws rm Pc Qc XC mc ms free := by
  refine MetFree.of_bodyS (code := cc) (maxLocals := maxL) (ret := ret) hy ?_ ?_
  · intro args s m h hn
    obtain ⟨meth, c, h1, h2, h3, h4, h5, h6, -, -⟩ := Cond.code_spec hn (atoms_spec (ws := ws) h _ (by rw [hw]; exact List.mem_cons_self))
    exact ⟨meth, c, h1, h2, h3, h4, h5, h6⟩
  · intro p e s m args below meth c s₁ B hml hP _
    have hh0 : s₁.heap = s.heap := by rw [B.state]; rfl
    have ht : ∀ x ∈ c.exceptionTable.toList, False := by
      obtain ⟨meth9, c9, h1, h2, -, -, -, -, h7, -⟩ := Cond.code_spec B.named (atoms_spec (ws := ws) B.pre _ (by rw [hw]; exact List.mem_cons_self))
      cases Option.some.inj (h1.symm.trans B.method)
      cases Option.some.inj (h2.symm.trans (Stand.of_body B).code)
      intro x hx
      rw [Array.isEmpty_iff.mp h7] at hx
      cases hx
    obtain ⟨t, a1, o, b1, b2, b3⟩ := body p e s m args below meth c s₁ B hml ht hP s₁ hh0 (Stand.of_body B)
    exact ⟨t, o, a1, b1, b2, b3⟩
/-- the table of a body with handlers -/
theorem vx_table {p : Program} {x y : MethodName} {S : Spec} {cc bytes : ByteArray} {maxL maxL' : Nat} {ret ret' : Option FieldType} {e : Env} {s s₁ : State} {m : MethodId} {args : Array Value} {below : List Frame} {meth : Method} {c : Code} {hh : List (Nat × Nat × Nat × Nat)}
    (B : BodyLoose p l y S cc maxL ret e s m args below meth c s₁) (h : (Cond.codeWith y bytes maxL' ret' hh).before args s = true) : c.exceptionTable.toList = tableOf hh := by
  obtain ⟨m9, meth9, c9, hn9, h1, h2, -, -, h6, -⟩ := Cond.codeWith_spec h
  cases Option.some.inj (hn9.symm.trans B.named)
  cases Option.some.inj (h1.symm.trans B.method)
  cases Option.some.inj (h2.symm.trans (Stand.of_body B).code)
  rw [← h6, table_eq]
end Bodies
end VXA
/-! ===== END ===== -/
/-! ===== BEGIN a static call of a method with an exception table ===== -/
section VXS
variable {p : Program} {l : Launch} {e : Env} {R : Room} {s : State} {m : MethodId} {args : Array Value} {below : List Frame} {meth : Method} {c : Code} {T : State} {H : Heap} {locs : List Loc} {cells slots : Nat}
abbrev vx_CSW (R : Room) (s : State) (args : Array Value) (own : String) (index : Nat) (y : MethodName) (bytes : ByteArray) (maxL : Nat) (ret : Option FieldType) (hh : List (Nat × Nat × Nat × Nat)) (ws : List Cond) (rm : Room) (mc ms n : Nat) : Prop :=
  (rm.cells = mc ∧ rm.slots = ms ∧ rm.frames + 1 ≤ R.frames ∧ 8 + (maxL + 11) + rm.locals ≤ R.locals ∧ (∀ w ∈ ws, ∀ (a' : Array Value) (U : State), s.WarmedH U.vm → w.before a' U = true) ∧ Cond.codeWith y bytes maxL ret hh ∈ ws) ∧
  (Cond.codeWith y bytes maxL ret hh).before args s = true ∧ (Cond.initialized y.cls).before args s = true ∧ (y.cls ≠ "java/lang/invoke/MethodHandle" ∧ y.cls ≠ "java/lang/invoke/VarHandle") ∧
  (∀ sig, parseMethodDescriptor y.desc = some sig → n = sig.parameters.length) ∧ (Cond.methodLink own index y).before args s = true ∧ (Cond.static y).before args s = true
theorem vx_cwSW {own : String} {index maxL mc ms : Nat} {y : MethodName} {bytes : ByteArray} {ret : Option FieldType} {hh : List (Nat × Nat × Nat × Nat)} {Ts ws ws' : List Cond} {rm : Room} (n : Nat) (ht : ∀ w ∈ Ts, w.before args s = true) (hT : GoodIn Ts (va_wsS own index y ws)) (hw : ws = Cond.codeWith y bytes maxL ret hh :: ws') (hrc : rm.cells = mc) (hrs : rm.slots = ms)
    (hd : y.cls ≠ "java/lang/invoke/MethodHandle" ∧ y.cls ≠ "java/lang/invoke/VarHandle" ∧ (parseMethodDescriptor y.desc).map (fun d => d.parameters.length) = some n) (hR : rm.frames + 1 ≤ R.frames ∧ 8 + (maxL + 11) + rm.locals ≤ R.locals) :
    vx_CSW R s args own index y bytes maxL ret hh ws rm mc ms n := by
  have ok : ∀ w ∈ va_wsS own index y ws, w.before args s = true := fun w h => ht w (hT w h).1
  have hG : GoodIn Ts ws := fun w h => hT w (by unfold va_wsS; exact List.mem_append_right _ h)
  have hc : Cond.codeWith y bytes maxL ret hh ∈ ws := by rw [hw]; exact List.mem_cons_self
  refine ⟨⟨hrc, hrs, hR.1, hR.2, pay_in ht hG, hc⟩, ht _ (hG _ hc).1, ok _ (by simp [va_wsS]), ⟨hd.1, hd.2.1⟩, fun sig h => ?_, ok _ (by simp [va_wsS]), ok _ (by simp [va_wsS])⟩
  have h2 := hd.2.2
  rw [h] at h2
  exact (Option.some.inj h2).symm
theorem vx_callSW (X : Stand p l e R s m args below meth c T locs cells slots) (hexec : p.tables.exec = Jvm.exec) {own : String} {index : Nat} {y : MethodName} {bytes : ByteArray} {maxL : Nat} {ret : Option FieldType} {hh : List (Nat × Nat × Nat × Nat)}
    (hown : s.vm.findClass own = some m.cls) (hlink : (Cond.methodLink own index y).before args s = true) (hstat : (Cond.static y).before args s = true) (hinit : (Cond.initialized y.cls).before args s = true)
    (hcode : (Cond.codeWith y bytes maxL ret hh).before args s = true) (hy : y.cls ≠ "java/lang/invoke/MethodHandle" ∧ y.cls ≠ "java/lang/invoke/VarHandle")
    {W9 : Nat} {Pre : Pt → Array Value → Prop} {Post : Pt → Array Value → Option Value → Pt → Prop} (hK : Back l R p e below s args y 3 W9 Pre Post)
    {g : JFrame} (hg : g.method = m) (hsize : g.locals.size = c.maxLocals) {argsL rest : List Value} (hlen : ∀ sig, parseMethodDescriptor y.desc = some sig → argsL.length = sig.parameters.length)
    (hstack : g.stack = argsL.reverse ++ rest) (hW : 2 * g.monitorRoom + (rest.map fun v => v.category).sum ≤ W9) (hdg : decode c.code g.pc = .ok (.invokestatic index, 3))
    (hpre : ∀ vm₁, s.WarmedH vm₁ → Pre ⟨T.setVm vm₁, locs, cells, slots⟩ argsL.toArray) :
    ∃ (v : Option Value) (vm₁ : Vm) (B : Pt), s.WarmedH vm₁ ∧ Stand p l e R s m args below meth c B.U B.locs B.cells B.slots ∧ Post ⟨T.setVm vm₁, locs, cells, slots⟩ argsL.toArray v B ∧
      ∀ target, Steps p.tables e below (B.U.setTop { g with pc := g.pc + 3, stack := v.toList ++ rest }) target → Steps p.tables e below (T.setTop g) target := by
  obtain ⟨mk, methM, cM, hnamed, hmethM, -, -, -, -, -, -, hsigM⟩ := Cond.codeWith_spec hcode
  have hstatic : methM.isStatic = true := Cond.static_spec hnamed hmethM hstat
  obtain ⟨kP, hkP, -⟩ := className_of_methodNamed hnamed
  have hinitP : kP.init = .initialized := Cond.initialized_spec (findClass_of_methodNamed hnamed) hkP hinit
  obtain ⟨vm₁, X₁, hstep₁⟩ := X.invokestatic hexec hown hlink hnamed hmethM hstatic hkP hinitP hy (g := g) hg (argsL := argsL) (rest := rest) (hlen _ hsigM) hstack hdg
  obtain ⟨v, B, X', hpost, hsteps⟩ := hK m meth c ⟨T.setVm vm₁, locs, cells, slots⟩ { g with stack := rest } (.invokestatic index) mk argsL.toArray X₁ hg hsize hdg hW (X₁.named hnamed) (hpre vm₁ X₁.warmed)
  exact ⟨v, vm₁, B, X₁.warmed, X', hpost, fun target h => hstep₁ _ fun acts => by rw [doInvoke_state]; exact hsteps.trans h⟩
theorem vx_runSW {y : MethodName} {bytes cc : ByteArray} {maxL nL mc ms n index : Nat} {ret : Option FieldType} {hh : List (Nat × Nat × Nat × Nat)} {ws : List Cond} {rm : Room} {Pc : Array Value → State → Prop} {Qc : Array Value → State → Outcome → State → Prop} {free : Addr → Prop} {Ts : List Cond} {own : String} {As rest : List Value} {g : JFrame}
    (S : CallFix p m c cc nL s args Ts own) (hM : Met l y ws rm Pc Qc mc ms free) (cw : vx_CSW R s args own index y bytes maxL ret hh ws rm mc ms n) (hp : PreS s H Pc As)
    (hg : g.method = m) (hn : As.length = n) (hsize : g.locals.size = nL) (hstack : g.stack = As.reverse ++ rest) (hW : 2 * g.monitorRoom + (rest.map fun v => v.category).sum ≤ 8) (hdg : decode cc g.pc = .ok (.invokestatic index, 3)) (hf : cells + mc ≤ R.cells ∧ slots + ms ≤ R.slots) :
    va_Run p l e R s m args below meth c H locs cells slots mc ms g rest (Qc As.toArray) (free) := by
  obtain ⟨⟨hrc, hrs, hfr, hlo, hws, hcw⟩, hcode, hini, hy, hlen, hl, hstt⟩ := cw
  have hK : Back l R p e below s args y 3 8 (PreOf R mc ms Pc) (PostOf Qc mc ms free) := va_backW (hh := hh) (bytes := bytes) (maxL := maxL) (ret := ret) hM hp.1 hrc hrs hfr hlo hws hcw (fun a' U hW => word_at hW (Or.inl (by first | rfl | simp [Cond.onTables, Cond.keeps, Cond.steady])) hini)
  obtain ⟨hx, hb, hml, ho, -⟩ := S
  intro T hT X
  obtain ⟨v, vm₁, ⟨U', l2, c2, s2⟩, hW₁, X', ⟨g', mk, t, L, e1, e2, hq, h1, hL, h2, h3⟩, st⟩ := vx_callSW X hx (hh := hh) (bytes := bytes) (maxL := maxL) (ret := ret) ho hl hstt hini hcode hy hK hg (hsize.trans hml.symm) (argsL := As) (rest := rest) (fun sig h => hn.trans (hlen sig h)) hstack hW (by rw [hb]; exact hdg)
    (fun vm₁ hW₁ => ⟨hf.1, hf.2, hp.2 (T.setVm vm₁) hT hW₁⟩)
  dsimp only [Pt.U, Pt.locs, Pt.cells, Pt.slots] at X' e1 e2 h1 h2 h3 st
  subst h1; subst h2; subst h3
  exact ⟨v, (T.setVm vm₁).calling g' mk As.toArray, t, U', L, hT, X', hL, e1, e2, hq, st⟩
/-- not caught here, past rows that name other classes: it goes on to the caller -/
theorem vx_outP {p : Program} {l : Launch} {e : Env} {R : Room} {s : State} {m : MethodId} {args : Array Value} {below : List Frame} {meth : Method} {c : Code} {H : Heap} {locs : List Loc} {cells slots : Nat} {free : Addr → Prop} {ls : Array Slot} {rest : List Value} {Qc : Array Value → State → Outcome → State → Prop} {XC : String → State → State → Prop}
    {pc : Nat} {own E : String} {ce : Cell} {q : Addr} {mc ms : Nat} (hown : s.vm.findClass own = some m.cls) (hlocks : meth.locks = false)
    (hpass : ∀ z ∈ c.exceptionTable.toList, covers z pc = false ∨ (z.catchType ≠ 0 ∧ ∃ nm : String, (Cond.classLink own z.catchType nm).before args s = true ∧ va_Nc E nm s)) (hcell : H[q]? = some ce) (hv : ce.vm = .none) (hcl : s.vm.findClass E = some ce.cls)
    (hx : ∀ t : State, t.heap = H → s.vm.Alike t.vm → XC E s t) (hf : ∀ z ∈ locs, free z.base) (hc : cells ≤ mc) (hs : slots ≤ ms) :
    vx_W p l e R s m args below meth c H locs cells slots (vx_MQ below Qc XC args s mc ms free) (F0 m pc ls rest) q := by
  intro T hT X
  have hpl : e.platform.magicAccessors = ({} : Platform).magicAccessors := by rw [X.admits.platform]
  obtain ⟨vm', hW', X', st⟩ := X.outThrough hlocks q (g := F0 m pc ls rest) rfl rfl rfl (cell := ce) (by rw [hT]; exact hcell) (by rw [hv]; rfl)
    (by obtain ⟨k9, h9, -⟩ := Vm.findClass_spec hcl; exact ⟨k9, h9⟩) (fun z hz => by
      rcases hpass z hz with h | ⟨hz0, nm, hl1, hn1⟩
      · exact Or.inl h
      · obtain ⟨c6, hc6, hcl6⟩ := Cond.classLink_spec hown hl1 e.platform hpl
        obtain ⟨a8, b8, h1, h2, h3⟩ := hn1
        cases Option.some.inj (h1.symm.trans hcl)
        cases Option.some.inj (h2.symm.trans hc6)
        exact Or.inr ⟨hz0, _, hcl6, h3⟩)
  obtain ⟨g₀, hfr⟩ := X'.frames_eq
  have hcell9 : ((T.setVm vm').setFrames (.throwing q :: below)).heap[q]? = some ce := by
    show T.heap[q]? = some ce
    rw [hT]; exact hcell
  have hend : Ended ((T.setVm vm').setFrames (.throwing q :: below)) below (.threw q) := State.frames_setFrames _ (State.cur_lt_of_frames hfr)
  refine ⟨(T.setVm vm').setFrames (.throwing q :: below), ?_, .threw q, X'.here.running, hend, Or.inr ⟨q, rfl, E, ce, locs, hx _ hT (X'.ends _).1.alike, hcell9, hv, hcl, (X'.ends _).1, (X'.ends _).2.mono hc hs, hf⟩⟩
  rw [X.pushThrowing_eq]
  exact st
/-- a thing of a world lies in the heap -/
theorem vx_lt {D : va_G} {cl : List vw_C} {ws : va_W} {H1 : Heap} (h : va_P D cl ws H1) {k : Nat} {q : Nat × va_E} (hk : ws[k]? = some q) : q.1 < H1.size := (h k q hk).lt
end VXS
/-! ===== END ===== -/
/-! ===== BEGIN methods with a table of their own: called by a name, returning or throwing ===== -/
section VXH
/-! vx_backW, vx_callVX, vx_callSX, vx_callVW, vx_runVW, vx_runVX, vx_runSX, vx_ofWH follow the same proofs as their sisters above (Free/Laws.lean, Shelf42/LK1.lean); vx_outP calls Shelf42/NT130.lean (outThrough). -/
section
variable {l : Launch} {R : Room} {p : Program} {e : Env} {below : List Frame} {s : State} {sargs : Array Value} {y : MethodName} {len W9 : Nat}
theorem vx_backW {ws : List Cond} {rm : Room} {Pc : Array Value → State → Prop} {Qc : Array Value → State → Outcome → State → Prop} {XC : String → State → State → Prop} {mc ms : Nat} {free : Addr → Prop} {bytes : ByteArray} {maxL : Nat} {ret : Option FieldType} {hh : List (Nat × Nat × Nat × Nat)}
    (hM : vx_Met l y ws rm Pc Qc XC mc ms free) (hblind : FrameBlind Pc) (hrc : rm.cells = mc) (hrs : rm.slots = ms)
    (hframes : rm.frames + 1 ≤ R.frames) (hlocals : W9 + (maxL + 11) + rm.locals ≤ R.locals)
    (hws : ∀ w ∈ ws, ∀ a' U, s.WarmedH U.vm → w.before a' U = true) (hcode : Cond.codeWith y bytes maxL ret hh ∈ ws) (hinit : ∀ a' U, s.WarmedH U.vm → (Cond.initialized y.cls).before a' U = true) :
    vx_Back l R p e below s sargs y len W9 (PreOf R mc ms Pc) (PostOf Qc mc ms free) (vx_Post XC mc ms free) := by
  intro m meth c A g ig mk a X hg hsize hdg hW hn hp
  have h1 : (headSpec ws rm).pre.before a A.U = true := atoms_intro fun w hw => hws w hw _ _ X.warmed
  have h2 : (Cond.codeWith y bytes maxL ret hh).before a A.U = true := hws _ hcode _ _ X.warmed
  have h3 : (Cond.initialized y.cls).before a A.U = true := hinit _ _ X.warmed
  have h4 : A.cells + (headSpec ws rm).room.cells ≤ R.cells := by rw [show (headSpec ws rm).room.cells = mc from hrc]; exact hp.1
  have h5 : A.slots + (headSpec ws rm).room.slots ≤ R.slots := by rw [show (headSpec ws rm).room.slots = ms from hrs]; exact hp.2.1
  have hPc : Pc a (A.U.calling g mk a) := hblind _ _ _ _ hp.2.2
  obtain ⟨U, Ls, c0, s0⟩ := A
  dsimp only [Pt.U, Pt.locs, Pt.cells, Pt.slots] at h1 h2 h3 h4 h5 X hn hPc ⊢
  obtain ⟨m9, methY, cY, hn9, hmY, hcY, -, hlY, -⟩ := Cond.codeWith_spec h2
  cases Option.some.inj (hn9.symm.trans hn)
  obtain ⟨kY, hkY, -⟩ := className_of_methodNamed hn
  have hinitY : kY.init = .initialized := Cond.initialized_spec (findClass_of_methodNamed hn) hkY h3
  have h : At U g.method c below := by rw [hg]; exact X.here
  have hlocals9 : W9 + (maxL + 11) + (headSpec ws rm).room.locals ≤ R.locals := hlocals
  have happ : (headSpec ws rm).appliesLoose y e.platform (U.calling g mk a) = true :=
    Spec.appliesLoose_calling (g := g) h hdg hn hkY hinitY
      (X.room_calling (g := g) (R' := (headSpec ws rm).room) hsize hmY hcY hframes (by rw [hlY]; omega) h4 h5) h1
  obtain ⟨mid, hmid⟩ := h.above
  have hfr : (U.setTop g).frames = (.java g :: mid) ++ below := by rw [State.frames_setTop' g h.top, hmid]; rfl
  obtain ⟨o, s₂, hsteps, -, hend, hq⟩ := Steps.callFree hM p X.admits X.cas X.clock (acts := []) hfr happ hPc trivial
  have hq' : vx_Q Qc XC mc ms free a (U.calling g mk a) o s₂ := hq
  rw [State.frames_setTop' g h.top] at hend
  obtain ⟨g₀, hg0⟩ := Option.isSome_iff_exists.mp h.top
  obtain ⟨r, hr⟩ := State.topJava?_eq_some.mp hg0
  have hr' : (({ U with heap := s₂.heap, slotsUsed := s₂.slotsUsed } : State).setVm s₂.vm).frames = .java g₀ :: r := hr
  rcases hq' with ⟨hqc, L, hfe, hL⟩ | ⟨q, rfl, E, ce, L, hx, hce, hcv, hcl, hW₂, hsm, hL⟩
  · obtain ⟨⟨v, rfl⟩, hW₂, e2, q2, q3, q4, q5, q6⟩ := id hfe
    have e3 : s₂ = ({ (U.calling g mk a).setFrames s₂.frames with heap := s₂.heap, slotsUsed := s₂.slotsUsed } : State).setVm s₂.vm := by
      have : s₂ = ({ s₂ with vm := (U.calling g mk a).vm } : State).setVm s₂.vm := rfl
      rw [e2] at this
      exact this
    obtain ⟨c₂, i₂, len₂, hc₂, hd₂, hf₂⟩ := hend
    have hW' : U.WarmedH s₂.vm := hW₂
    have hcc : c₂ = c := by
      have h1 : s₂.code? g.method = U.code? g.method := by
        rw [State.code?_eq, State.code?_eq, hW'.alike.method?]
      exact Option.some.inj (hc₂.symm.trans (h1.trans h.code))
    subst hcc
    have hlen : len₂ = len := by rw [hdg] at hd₂; cases hd₂; rfl
    subst hlen
    have hs₂ : s₂ = (({ U with heap := s₂.heap, slotsUsed := s₂.slotsUsed } : State).setVm s₂.vm).setTop { g with pc := g.pc + len₂, stack := v.toList ++ g.stack } := by
      refine e3.trans ?_
      rw [hf₂, State.calling_eq h.top, State.setFrames_setFrames, State.setTop_of_frames _ hr', hr]
      rfl
    have hsame : U.sameButNew ({ U with heap := s₂.heap, slotsUsed := s₂.slotsUsed } : State) L mc ms := by
      refine ⟨?_, q2, q3, q4, q5, q6⟩
      obtain ⟨t, ht, -⟩ := State.frames_cons hr
      show ({ U with heap := s₂.heap, slotsUsed := s₂.slotsUsed } : State) = { U.setFrames U.frames with heap := s₂.heap, slotsUsed := s₂.slotsUsed }
      rw [State.setFrames_self ht]
    subst hg
    refine Or.inl ⟨v, ⟨(({ U with heap := s₂.heap, slotsUsed := s₂.slotsUsed } : State).setVm s₂.vm), Ls ++ L, c0 + mc, s0 + ms⟩,
      ⟨X.admits, X.cas, X.clock, X.frames, X.room, X.hears, X.method, X.code, (X.here.setHeapUsed s₂.heap s₂.slotsUsed).setVm hW'.alike, X.tail, State.WarmedH.trans X.warmed hW', X.limits, X.bytes, X.same.trans (hsame.setVm s.vm)⟩,
      ⟨g, mk, s₂, L, rfl, rfl, hqc, rfl, hL, rfl, rfl⟩, ?_⟩
    show Steps p.tables e below _ ((({ U with heap := s₂.heap, slotsUsed := s₂.slotsUsed } : State).setVm s₂.vm).setTop { g with pc := g.pc + len₂, stack := v.toList ++ g.stack })
    rw [← hs₂]
    exact hsteps
  · obtain ⟨e2, q2, q3, q4, q5, q6⟩ := id hsm
    have e3 : s₂ = ({ (U.calling g mk a).setFrames s₂.frames with heap := s₂.heap, slotsUsed := s₂.slotsUsed } : State).setVm s₂.vm := by
      have : s₂ = ({ s₂ with vm := (U.calling g mk a).vm } : State).setVm s₂.vm := rfl
      rw [e2] at this
      exact this
    have hf₂ : s₂.frames = .throwing q :: .java g :: U.frames.tail := hend
    have hW' : U.WarmedH s₂.vm := hW₂
    have hs₂ : s₂ = ((({ U with heap := s₂.heap, slotsUsed := s₂.slotsUsed } : State).setVm s₂.vm).setTop g).pushFrame (.throwing q) := by
      refine e3.trans ?_
      rw [hf₂, State.calling_eq h.top, State.setFrames_setFrames, State.pushFrame, State.frames_setTop _ hr', State.setTop_of_frames _ hr', State.setFrames_setFrames, hr]
      rfl
    have hsame : U.sameButNew ({ U with heap := s₂.heap, slotsUsed := s₂.slotsUsed } : State) L mc ms := by
      refine ⟨?_, q2, q3, q4, q5, q6⟩
      obtain ⟨t, ht, -⟩ := State.frames_cons hr
      show ({ U with heap := s₂.heap, slotsUsed := s₂.slotsUsed } : State) = { U.setFrames U.frames with heap := s₂.heap, slotsUsed := s₂.slotsUsed }
      rw [State.setFrames_self ht]
    subst hg
    refine Or.inr ⟨q, ⟨(({ U with heap := s₂.heap, slotsUsed := s₂.slotsUsed } : State).setVm s₂.vm), Ls ++ L, c0 + mc, s0 + ms⟩,
      ⟨X.admits, X.cas, X.clock, X.frames, X.room, X.hears, X.method, X.code, (X.here.setHeapUsed s₂.heap s₂.slotsUsed).setVm hW'.alike, X.tail, State.WarmedH.trans X.warmed hW', X.limits, X.bytes, X.same.trans (hsame.setVm s.vm)⟩,
      ⟨g, mk, s₂, L, E, ce, rfl, rfl, hx, hce, hcv, hcl, rfl, hL, rfl, rfl⟩, ?_⟩
    show Steps p.tables e below _ (((({ U with heap := s₂.heap, slotsUsed := s₂.slotsUsed } : State).setVm s₂.vm).setTop g).pushFrame (.throwing q))
    rw [← hs₂]
    exact hsteps
end
variable {p : Program} {l : Launch} {e : Env} {R : Room} {s : State} {m : MethodId} {args : Array Value} {below : List Frame} {meth : Method} {c : Code} {T : State} {H : Heap} {locs : List Loc} {cells slots : Nat}
theorem vx_callVX (X : Stand p l e R s m args below meth c T locs cells slots) (hexec : p.tables.exec = Jvm.exec) {own C : String} {index : Nat} {y : MethodName} {bytes : ByteArray} {maxL : Nat} {ret : Option FieldType} {hh : List (Nat × Nat × Nat × Nat)}
    (hown : s.vm.findClass own = some m.cls) (hlink : (Cond.methodLink own index y).before args s = true) (hinst : (Cond.instanceMethod y).before args s = true) (hsel : (Cond.selects C y y).before args s = true)
    (hcode : (Cond.codeWith y bytes maxL ret hh).before args s = true) (hy : y.cls ≠ "java/lang/invoke/MethodHandle" ∧ y.cls ≠ "java/lang/invoke/VarHandle")
    {W9 : Nat} {Pre : Pt → Array Value → Prop} {Post : Pt → Array Value → Option Value → Pt → Prop} {PostX : Pt → Array Value → Addr → Pt → Prop} (hK : vx_Back l R p e below s args y 3 W9 Pre Post PostX)
    {b : Addr} {cellB : Cell} (hcell : T.heap[b]? = some cellB) (hobj : cellB.vm.isStatics = false) (hcls : s.vm.findClass C = some cellB.cls)
    {g : JFrame} (hg : g.method = m) (hsize : g.locals.size = c.maxLocals) {argsL rest : List Value} (hlen : ∀ sig, parseMethodDescriptor y.desc = some sig → argsL.length = sig.parameters.length)
    (hstack : g.stack = argsL.reverse ++ .ref b :: rest) (hW : 2 * g.monitorRoom + (rest.map fun v => v.category).sum ≤ W9) (hdg : decode c.code g.pc = .ok (.invokevirtual index, 3))
    (hpre : ∀ vm₁, s.WarmedH vm₁ → Pre ⟨T.setVm vm₁, locs, cells, slots⟩ (Value.ref b :: argsL).toArray) :
    (∃ (v : Option Value) (vm₁ : Vm) (B : Pt), s.WarmedH vm₁ ∧ Stand p l e R s m args below meth c B.U B.locs B.cells B.slots ∧ Post ⟨T.setVm vm₁, locs, cells, slots⟩ (Value.ref b :: argsL).toArray v B ∧
      ∀ target, Steps p.tables e below (B.U.setTop { g with pc := g.pc + 3, stack := v.toList ++ rest }) target → Steps p.tables e below (T.setTop g) target) ∨
    (∃ (q : Addr) (vm₁ : Vm) (B : Pt), s.WarmedH vm₁ ∧ Stand p l e R s m args below meth c B.U B.locs B.cells B.slots ∧ PostX ⟨T.setVm vm₁, locs, cells, slots⟩ (Value.ref b :: argsL).toArray q B ∧
      Steps p.tables e below (T.setTop g) ((B.U.setTop { g with stack := rest }).pushFrame (.throwing q))) := by
  obtain ⟨mk, methM, hnamed, hmethM, hstM, habM⟩ := Cond.instanceMethod_spec hinst
  obtain ⟨m8, methM', cM, hn8, hmethM', -, -, -, -, -, -, hsigM⟩ := Cond.codeWith_spec hcode
  cases Option.some.inj (hn8.symm.trans hnamed)
  cases hmethM.symm.trans hmethM'
  obtain ⟨c2, r2, m2, q1, q2, q3, q4, kP, hkP, hkPi⟩ := Cond.selects_spec hsel
  cases hcls.symm.trans q1
  cases (State.methodFound?_of_named hnamed hy).symm.trans q2
  cases hnamed.symm.trans q3
  have hselP : selectMethod e.platform s.vm cellB.cls mk = .method mk := by rw [Launch.admits_selectMethod X.admits]; exact q4
  obtain ⟨vm₁, X₁, hstep₁⟩ := X.invokevirtual hexec hown hlink hnamed hmethM hstM hkP hkPi hy (a := b) (cell := cellB) hcell
    (fun z h => by rw [h] at hobj; cases hobj) hselP hmethM habM hkP hkPi (g := g) hg (argsL := argsL) (rest := rest) (hlen _ hsigM) hstack hdg
  rcases hK m meth c ⟨T.setVm vm₁, locs, cells, slots⟩ { g with stack := rest } (.invokevirtual index) mk (Value.ref b :: argsL).toArray X₁ hg hsize hdg hW (X₁.named hnamed) (hpre vm₁ X₁.warmed) with ⟨v, B, X', hpost, hsteps⟩ | ⟨q, B, X', hpost, hsteps⟩
  · exact Or.inl ⟨v, vm₁, B, X₁.warmed, X', hpost, fun target h => hstep₁ _ fun acts => by rw [doInvoke_state]; exact hsteps.trans h⟩
  · exact Or.inr ⟨q, vm₁, B, X₁.warmed, X', hpost, hstep₁ _ fun acts => by rw [doInvoke_state]; exact hsteps⟩
theorem vx_callSX (X : Stand p l e R s m args below meth c T locs cells slots) (hexec : p.tables.exec = Jvm.exec) {own : String} {index : Nat} {y : MethodName} {bytes : ByteArray} {maxL : Nat} {ret : Option FieldType} {hh : List (Nat × Nat × Nat × Nat)}
    (hown : s.vm.findClass own = some m.cls) (hlink : (Cond.methodLink own index y).before args s = true) (hstat : (Cond.static y).before args s = true) (hinit : (Cond.initialized y.cls).before args s = true)
    (hcode : (Cond.codeWith y bytes maxL ret hh).before args s = true) (hy : y.cls ≠ "java/lang/invoke/MethodHandle" ∧ y.cls ≠ "java/lang/invoke/VarHandle")
    {W9 : Nat} {Pre : Pt → Array Value → Prop} {Post : Pt → Array Value → Option Value → Pt → Prop} {PostX : Pt → Array Value → Addr → Pt → Prop} (hK : vx_Back l R p e below s args y 3 W9 Pre Post PostX)
    {g : JFrame} (hg : g.method = m) (hsize : g.locals.size = c.maxLocals) {argsL rest : List Value} (hlen : ∀ sig, parseMethodDescriptor y.desc = some sig → argsL.length = sig.parameters.length)
    (hstack : g.stack = argsL.reverse ++ rest) (hW : 2 * g.monitorRoom + (rest.map fun v => v.category).sum ≤ W9) (hdg : decode c.code g.pc = .ok (.invokestatic index, 3))
    (hpre : ∀ vm₁, s.WarmedH vm₁ → Pre ⟨T.setVm vm₁, locs, cells, slots⟩ argsL.toArray) :
    (∃ (v : Option Value) (vm₁ : Vm) (B : Pt), s.WarmedH vm₁ ∧ Stand p l e R s m args below meth c B.U B.locs B.cells B.slots ∧ Post ⟨T.setVm vm₁, locs, cells, slots⟩ argsL.toArray v B ∧
      ∀ target, Steps p.tables e below (B.U.setTop { g with pc := g.pc + 3, stack := v.toList ++ rest }) target → Steps p.tables e below (T.setTop g) target) ∨
    (∃ (q : Addr) (vm₁ : Vm) (B : Pt), s.WarmedH vm₁ ∧ Stand p l e R s m args below meth c B.U B.locs B.cells B.slots ∧ PostX ⟨T.setVm vm₁, locs, cells, slots⟩ argsL.toArray q B ∧
      Steps p.tables e below (T.setTop g) ((B.U.setTop { g with stack := rest }).pushFrame (.throwing q))) := by
  obtain ⟨mk, methM, cM, hnamed, hmethM, -, -, -, -, -, -, hsigM⟩ := Cond.codeWith_spec hcode
  have hstatic : methM.isStatic = true := Cond.static_spec hnamed hmethM hstat
  obtain ⟨kP, hkP, -⟩ := className_of_methodNamed hnamed
  have hinitP : kP.init = .initialized := Cond.initialized_spec (findClass_of_methodNamed hnamed) hkP hinit
  obtain ⟨vm₁, X₁, hstep₁⟩ := X.invokestatic hexec hown hlink hnamed hmethM hstatic hkP hinitP hy (g := g) hg (argsL := argsL) (rest := rest) (hlen _ hsigM) hstack hdg
  rcases hK m meth c ⟨T.setVm vm₁, locs, cells, slots⟩ { g with stack := rest } (.invokestatic index) mk argsL.toArray X₁ hg hsize hdg hW (X₁.named hnamed) (hpre vm₁ X₁.warmed) with ⟨v, B, X', hpost, hsteps⟩ | ⟨q, B, X', hpost, hsteps⟩
  · exact Or.inl ⟨v, vm₁, B, X₁.warmed, X', hpost, fun target h => hstep₁ _ fun acts => by rw [doInvoke_state]; exact hsteps.trans h⟩
  · exact Or.inr ⟨q, vm₁, B, X₁.warmed, X', hpost, hstep₁ _ fun acts => by rw [doInvoke_state]; exact hsteps⟩
theorem vx_callVW (X : Stand p l e R s m args below meth c T locs cells slots) (hexec : p.tables.exec = Jvm.exec) {own C : String} {index : Nat} {y : MethodName} {bytes : ByteArray} {maxL : Nat} {ret : Option FieldType} {hh : List (Nat × Nat × Nat × Nat)}
    (hown : s.vm.findClass own = some m.cls) (hlink : (Cond.methodLink own index y).before args s = true) (hinst : (Cond.instanceMethod y).before args s = true) (hsel : (Cond.selects C y y).before args s = true)
    (hcode : (Cond.codeWith y bytes maxL ret hh).before args s = true) (hy : y.cls ≠ "java/lang/invoke/MethodHandle" ∧ y.cls ≠ "java/lang/invoke/VarHandle")
    {W9 : Nat} {Pre : Pt → Array Value → Prop} {Post : Pt → Array Value → Option Value → Pt → Prop} (hK : Back l R p e below s args y 3 W9 Pre Post)
    {b : Addr} {cellB : Cell} (hcell : T.heap[b]? = some cellB) (hobj : cellB.vm.isStatics = false) (hcls : s.vm.findClass C = some cellB.cls)
    {g : JFrame} (hg : g.method = m) (hsize : g.locals.size = c.maxLocals) {argsL rest : List Value} (hlen : ∀ sig, parseMethodDescriptor y.desc = some sig → argsL.length = sig.parameters.length)
    (hstack : g.stack = argsL.reverse ++ .ref b :: rest) (hW : 2 * g.monitorRoom + (rest.map fun v => v.category).sum ≤ W9) (hdg : decode c.code g.pc = .ok (.invokevirtual index, 3))
    (hpre : ∀ vm₁, s.WarmedH vm₁ → Pre ⟨T.setVm vm₁, locs, cells, slots⟩ (Value.ref b :: argsL).toArray) :
    ∃ (v : Option Value) (vm₁ : Vm) (B : Pt), s.WarmedH vm₁ ∧ Stand p l e R s m args below meth c B.U B.locs B.cells B.slots ∧ Post ⟨T.setVm vm₁, locs, cells, slots⟩ (Value.ref b :: argsL).toArray v B ∧
      ∀ target, Steps p.tables e below (B.U.setTop { g with pc := g.pc + 3, stack := v.toList ++ rest }) target → Steps p.tables e below (T.setTop g) target := by
  obtain ⟨mk, methM, hnamed, hmethM, hstM, habM⟩ := Cond.instanceMethod_spec hinst
  obtain ⟨m8, methM', cM, hn8, hmethM', -, -, -, -, -, -, hsigM⟩ := Cond.codeWith_spec hcode
  cases Option.some.inj (hn8.symm.trans hnamed)
  cases hmethM.symm.trans hmethM'
  obtain ⟨c2, r2, m2, q1, q2, q3, q4, kP, hkP, hkPi⟩ := Cond.selects_spec hsel
  cases hcls.symm.trans q1
  cases (State.methodFound?_of_named hnamed hy).symm.trans q2
  cases hnamed.symm.trans q3
  have hselP : selectMethod e.platform s.vm cellB.cls mk = .method mk := by rw [Launch.admits_selectMethod X.admits]; exact q4
  obtain ⟨vm₁, X₁, hstep₁⟩ := X.invokevirtual hexec hown hlink hnamed hmethM hstM hkP hkPi hy (a := b) (cell := cellB) hcell
    (fun z h => by rw [h] at hobj; cases hobj) hselP hmethM habM hkP hkPi (g := g) hg (argsL := argsL) (rest := rest) (hlen _ hsigM) hstack hdg
  obtain ⟨v, B, X', hpost, hsteps⟩ := hK m meth c ⟨T.setVm vm₁, locs, cells, slots⟩ { g with stack := rest } (.invokevirtual index) mk (Value.ref b :: argsL).toArray X₁ hg hsize hdg hW (X₁.named hnamed) (hpre vm₁ X₁.warmed)
  exact ⟨v, vm₁, B, X₁.warmed, X', hpost, fun target h => hstep₁ _ fun acts => by rw [doInvoke_state]; exact hsteps.trans h⟩
abbrev vx_CVW (R : Room) (s : State) (args : Array Value) (own C : String) (index : Nat) (y : MethodName) (bytes : ByteArray) (maxL : Nat) (ret : Option FieldType) (hh : List (Nat × Nat × Nat × Nat)) (ws : List Cond) (rm : Room) (mc ms n : Nat) : Prop :=
  (rm.cells = mc ∧ rm.slots = ms ∧ rm.frames + 1 ≤ R.frames ∧ 8 + (maxL + 11) + rm.locals ≤ R.locals ∧ (∀ w ∈ ws, ∀ (a' : Array Value) (U : State), s.WarmedH U.vm → w.before a' U = true) ∧ Cond.codeWith y bytes maxL ret hh ∈ ws) ∧
  (Cond.codeWith y bytes maxL ret hh).before args s = true ∧ (Cond.initialized y.cls).before args s = true ∧ (y.cls ≠ "java/lang/invoke/MethodHandle" ∧ y.cls ≠ "java/lang/invoke/VarHandle") ∧
  (∀ sig, parseMethodDescriptor y.desc = some sig → n = sig.parameters.length) ∧ (Cond.methodLink own index y).before args s = true ∧ (Cond.instanceMethod y).before args s = true ∧ (Cond.selects C y y).before args s = true
theorem vx_cwVW {own C : String} {index maxL mc ms : Nat} {y : MethodName} {bytes : ByteArray} {ret : Option FieldType} {hh : List (Nat × Nat × Nat × Nat)} {Ts ws ws' : List Cond} {rm : Room} (n : Nat) (ht : ∀ w ∈ Ts, w.before args s = true) (hT : GoodIn Ts (wsV own index C y ws)) (hw : ws = Cond.codeWith y bytes maxL ret hh :: ws') (hrc : rm.cells = mc) (hrs : rm.slots = ms)
    (hd : y.cls = C ∧ y.cls ≠ "java/lang/invoke/MethodHandle" ∧ y.cls ≠ "java/lang/invoke/VarHandle" ∧ (parseMethodDescriptor y.desc).map (fun d => d.parameters.length) = some n) (hR : rm.frames + 1 ≤ R.frames ∧ 8 + (maxL + 11) + rm.locals ≤ R.locals) :
    vx_CVW R s args own C index y bytes maxL ret hh ws rm mc ms n := by
  obtain ⟨hC, hd⟩ := hd
  subst hC
  have ok : ∀ w ∈ wsV own index y.cls y ws, w.before args s = true := fun w h => ht w (hT w h).1
  have hG : GoodIn Ts ws := fun w h => hT w (by unfold wsV; exact List.mem_append_right _ h)
  have hc : Cond.codeWith y bytes maxL ret hh ∈ ws := by rw [hw]; exact List.mem_cons_self
  refine ⟨⟨hrc, hrs, hR.1, hR.2, pay_in ht hG, hc⟩, ht _ (hG _ hc).1, ok _ (by simp [wsV]), ⟨hd.1, hd.2.1⟩, fun sig h => ?_, ok _ (by simp [wsV]), ok _ (by simp [wsV]), ok _ (by simp [wsV])⟩
  have h2 := hd.2.2
  rw [h] at h2
  exact (Option.some.inj h2).symm
theorem vx_runVW {y : MethodName} {bytes cc : ByteArray} {maxL nL mc ms n index : Nat} {ret : Option FieldType} {hh : List (Nat × Nat × Nat × Nat)} {ws : List Cond} {rm : Room} {Pc : Array Value → State → Prop} {Qc : Array Value → State → Outcome → State → Prop} {free : Addr → Prop} {Ts : List Cond} {own C : String} {b : Addr} {As rest : List Value} {g : JFrame}
    (S : CallFix p m c cc nL s args Ts own) (hM : Met l y ws rm Pc Qc mc ms free) (cw : vx_CVW R s args own C index y bytes maxL ret hh ws rm mc ms n) (hp : PreV s H C b Pc As)
    (hg : g.method = m) (hn : As.length = n) (hsize : g.locals.size = nL) (hstack : g.stack = As.reverse ++ .ref b :: rest) (hW : 2 * g.monitorRoom + (rest.map fun v => v.category).sum ≤ 8) (hdg : decode cc g.pc = .ok (.invokevirtual index, 3)) (hf : cells + mc ≤ R.cells ∧ slots + ms ≤ R.slots) :
    va_Run p l e R s m args below meth c H locs cells slots mc ms g rest (Qc (Value.ref b :: As).toArray) free := by
  obtain ⟨⟨hrc, hrs, hfr, hlo, hws, hcw⟩, hcode, hini, hy, hlen, hl, hin, hse⟩ := cw
  have hK : Back l R p e below s args y 3 8 (PreOf R mc ms Pc) (PostOf Qc mc ms free) := va_backW (hh := hh) (bytes := bytes) (maxL := maxL) (ret := ret) hM hp.1 hrc hrs hfr hlo hws hcw (fun a' U hW => word_at hW (Or.inl (by first | rfl | simp [Cond.onTables, Cond.keeps, Cond.steady])) hini)
  obtain ⟨hx, hb, hml, ho, -⟩ := S
  obtain ⟨-, ⟨cellB, hcB, hoB, hclB⟩, hPc⟩ := hp
  intro T hT X
  obtain ⟨v, vm₁, ⟨U', l2, c2, s2⟩, hW₁, X', ⟨g', mk, t, L, e1, e2, hq, h1, hL, h2, h3⟩, st⟩ := vx_callVW X hx (C := C) (hh := hh) (bytes := bytes) (maxL := maxL) (ret := ret) ho hl hin hse hcode hy hK (by rw [hT]; exact hcB) hoB hclB hg (hsize.trans hml.symm) (argsL := As) (rest := rest) (fun sig h => hn.trans (hlen sig h)) hstack hW (by rw [hb]; exact hdg)
    (fun vm₁ hW₁ => ⟨hf.1, hf.2, hPc (T.setVm vm₁) hT hW₁⟩)
  dsimp only [Pt.U, Pt.locs, Pt.cells, Pt.slots] at X' e1 e2 h1 h2 h3 st
  subst h1; subst h2; subst h3
  exact ⟨v, (T.setVm vm₁).calling g' mk (Value.ref b :: As).toArray, t, U', L, hT, X', hL, e1, e2, hq, st⟩
section
variable {y : MethodName} {bytes cc : ByteArray} {maxL nL mc ms n index : Nat} {ret : Option FieldType} {ws : List Cond} {rm : Room} {Pc : Array Value → State → Prop} {Qc : Array Value → State → Outcome → State → Prop} {XC : String → State → State → Prop} {free : Addr → Prop} {Ts : List Cond} {own C : String} {b : Addr} {As rest : List Value} {g : JFrame}
theorem vx_runVX {hh : List (Nat × Nat × Nat × Nat)} (S : CallFix p m c cc nL s args Ts own) (hM : vx_Met l y ws rm Pc Qc XC mc ms free) (cw : vx_CVW R s args own C index y bytes maxL ret hh ws rm mc ms n) (hp : PreV s H C b Pc As)
    (hg : g.method = m) (hn : As.length = n) (hsize : g.locals.size = nL) (hstack : g.stack = As.reverse ++ .ref b :: rest) (hW : 2 * g.monitorRoom + (rest.map fun v => v.category).sum ≤ 8) (hdg : decode cc g.pc = .ok (.invokevirtual index, 3)) (hf : cells + mc ≤ R.cells ∧ slots + ms ≤ R.slots) :
    vx_Run p l e R s m args below meth c H locs cells slots mc ms g rest (Qc (Value.ref b :: As).toArray) XC free := by
  obtain ⟨⟨hrc, hrs, hfr, hlo, hws, hcw⟩, hcode, hini, hy, hlen, hl, hin, hse⟩ := cw
  have hK : vx_Back l R p e below s args y 3 8 (PreOf R mc ms Pc) (PostOf Qc mc ms free) (vx_Post XC mc ms free) := vx_backW (hh := hh) (bytes := bytes) (maxL := maxL) (ret := ret) hM hp.1 hrc hrs hfr hlo hws hcw (fun a' U hW => word_at hW (Or.inl (by first | rfl | simp [Cond.onTables, Cond.keeps, Cond.steady])) hini)
  obtain ⟨hx, hb, hml, ho, -⟩ := S
  obtain ⟨-, ⟨cellB, hcB, hoB, hclB⟩, hPc⟩ := hp
  intro T hT X
  rcases vx_callVX X hx (C := C) (hh := hh) (bytes := bytes) (maxL := maxL) (ret := ret) ho hl hin hse hcode hy hK (by rw [hT]; exact hcB) hoB hclB hg (hsize.trans hml.symm) (argsL := As) (rest := rest) (fun sig h => hn.trans (hlen sig h)) hstack hW (by rw [hb]; exact hdg)
    (fun vm₁ hW₁ => ⟨hf.1, hf.2, hPc (T.setVm vm₁) hT hW₁⟩) with ⟨v, vm₁, ⟨U', l2, c2, s2⟩, hW₁, X', ⟨g', mk, t, L, e1, e2, hq, h1, hL, h2, h3⟩, st⟩ | ⟨q, vm₁, ⟨U', l2, c2, s2⟩, hW₁, X', ⟨g', mk, t, L, E, ce, e1, e2, hq, hce, hcv, hcl, h1, hL, h2, h3⟩, st⟩
  · dsimp only [Pt.U, Pt.locs, Pt.cells, Pt.slots] at X' e1 e2 h1 h2 h3 st
    subst h1; subst h2; subst h3
    exact Or.inl ⟨v, (T.setVm vm₁).calling g' mk (Value.ref b :: As).toArray, t, U', L, hT, X', hL, e1, e2, hq, st⟩
  · dsimp only [Pt.U, Pt.locs, Pt.cells, Pt.slots] at X' e1 e2 h1 h2 h3 st hcl
    subst h1; subst h2; subst h3
    exact Or.inr ⟨q, (T.setVm vm₁).calling g' mk (Value.ref b :: As).toArray, t, U', L, E, ce, hT, X', hL, e1, e2, hq, hce, hcv, vx_cls hW₁ hcl, st⟩
theorem vx_runSX {hh : List (Nat × Nat × Nat × Nat)} (S : CallFix p m c cc nL s args Ts own) (hM : vx_Met l y ws rm Pc Qc XC mc ms free) (cw : vx_CSW R s args own index y bytes maxL ret hh ws rm mc ms n) (hp : PreS s H Pc As)
    (hg : g.method = m) (hn : As.length = n) (hsize : g.locals.size = nL) (hstack : g.stack = As.reverse ++ rest) (hW : 2 * g.monitorRoom + (rest.map fun v => v.category).sum ≤ 8) (hdg : decode cc g.pc = .ok (.invokestatic index, 3)) (hf : cells + mc ≤ R.cells ∧ slots + ms ≤ R.slots) :
    vx_Run p l e R s m args below meth c H locs cells slots mc ms g rest (Qc As.toArray) XC free := by
  obtain ⟨⟨hrc, hrs, hfr, hlo, hws, hcw⟩, hcode, hini, hy, hlen, hl, hstt⟩ := cw
  have hK : vx_Back l R p e below s args y 3 8 (PreOf R mc ms Pc) (PostOf Qc mc ms free) (vx_Post XC mc ms free) := vx_backW (hh := hh) (bytes := bytes) (maxL := maxL) (ret := ret) hM hp.1 hrc hrs hfr hlo hws hcw (fun a' U hW => word_at hW (Or.inl (by first | rfl | simp [Cond.onTables, Cond.keeps, Cond.steady])) hini)
  obtain ⟨hx, hb, hml, ho, -⟩ := S
  intro T hT X
  rcases vx_callSX X hx (hh := hh) (bytes := bytes) (maxL := maxL) (ret := ret) ho hl hstt hini hcode hy hK hg (hsize.trans hml.symm) (argsL := As) (rest := rest) (fun sig h => hn.trans (hlen sig h)) hstack hW (by rw [hb]; exact hdg)
    (fun vm₁ hW₁ => ⟨hf.1, hf.2, hp.2 (T.setVm vm₁) hT hW₁⟩) with ⟨v, vm₁, ⟨U', l2, c2, s2⟩, hW₁, X', ⟨g', mk, t, L, e1, e2, hq, h1, hL, h2, h3⟩, st⟩ | ⟨q, vm₁, ⟨U', l2, c2, s2⟩, hW₁, X', ⟨g', mk, t, L, E, ce, e1, e2, hq, hce, hcv, hcl, h1, hL, h2, h3⟩, st⟩
  · dsimp only [Pt.U, Pt.locs, Pt.cells, Pt.slots] at X' e1 e2 h1 h2 h3 st
    subst h1; subst h2; subst h3
    exact Or.inl ⟨v, (T.setVm vm₁).calling g' mk As.toArray, t, U', L, hT, X', hL, e1, e2, hq, st⟩
  · dsimp only [Pt.U, Pt.locs, Pt.cells, Pt.slots] at X' e1 e2 h1 h2 h3 st hcl
    subst h1; subst h2; subst h3
    exact Or.inr ⟨q, (T.setVm vm₁).calling g' mk As.toArray, t, U', L, E, ce, hT, X', hL, e1, e2, hq, hce, hcv, vx_cls hW₁ hcl, st⟩
end
end VXH
theorem vx_ofWH {l : Launch} {y : MethodName} {ws ws' : List Cond} {rm : Room} {Pc : Array Value → State → Prop} {Qc : Array Value → State → Outcome → State → Prop} {XC : String → State → State → Prop} {mc ms : Nat} {free : Addr → Prop} {cc : ByteArray} {maxL : Nat} {ret : Option FieldType} {hh : List (Nat × Nat × Nat × Nat)}
    (hy : plainName y.cls = true) (hw : ws = Cond.codeWith y cc maxL ret hh :: ws')
    (body : ∀ p e s m args below meth c s₁, BodyLoose p l y (headSpec ws rm) cc maxL ret e s m args below meth c s₁ → c.maxLocals = maxL → Pc args s →
      W p l e (headSpec ws rm).room s m args below meth c s.heap [] 0 0 (vx_MQ below Qc XC args s mc ms free) (entryFrame m args maxL)) : vx_Met l y ws rm Pc Qc XC mc ms free := by
  refine MetFree.of_bodyS (code := cc) (maxLocals := maxL) (ret := ret) hy ?_ ?_
  · intro args s m h hn
    obtain ⟨m9, meth, c, hn9, h1, h2, h3, h4, -, h5, h6, -⟩ := Cond.codeWith_spec (atoms_spec (ws := ws) h _ (by rw [hw]; exact List.mem_cons_self))
    cases hn.symm.trans hn9
    exact ⟨meth, c, h1, h2, h3, h4, h5, h6⟩
  · intro p e s m args below meth c s₁ B hml hP _
    have hh0 : s₁.heap = s.heap := by rw [B.state]; rfl
    obtain ⟨t, a1, o, b1, b2, b3⟩ := body p e s m args below meth c s₁ B hml hP s₁ hh0 (Stand.of_body B)
    exact ⟨t, o, a1, b1, b2, b3⟩
/-! ===== END ===== -/
end
section
def mR_D : String := "HingeTables$Door"
def mT_D : u_T := fun k => match k with
  | 0 => ("HingeTables$Door", "width", "J", false)
  | 1 => ("HingeTables$Door", "height", "J", false)
  | 2 => ("HingeTables$Door", "thickness", "J", false)
  | _ => ("HingeTables$Door", "heaviness", "J", false)
def mF_D : Nat → FieldType := fun k => match k with
  | 0 => .long
  | 1 => .long
  | 2 => .long
  | _ => .long
theorem mN_D : ∀ a, a < 4 → ∀ b, b < 4 → a ≠ b → (mT_D a).2.1 ≠ (mT_D b).2.1 := by decide +kernel
theorem mO_D : ∀ k, k < 4 → parseFieldDescriptor (mT_D k).2.2.1 = some (mF_D k) := by decide +kernel
def mR_H : String := "HingeTables$Holes"
def mT_H : u_T := fun k => match k with
  | 0 => ("HingeTables$Holes", "xs", "[I", true)
  | 1 => ("HingeTables$Holes", "ys", "[I", true)
  | _ => ("HingeTables$Holes", "radii", "[I", true)
def mF_H : Nat → FieldType := fun k => match k with
  | 0 => .array .int
  | 1 => .array .int
  | _ => .array .int
theorem mN_H : ∀ a, a < 3 → ∀ b, b < 3 → a ≠ b → (mT_H a).2.1 ≠ (mT_H b).2.1 := by decide +kernel
theorem mO_H : ∀ k, k < 3 → parseFieldDescriptor (mT_H k).2.2.1 = some (mF_H k) := by decide +kernel
def mR_T : String := "HingeTables$Table"
def mT_T : u_T := fun k => match k with
  | 0 => ("HingeTables$Table", "letters", "[C", true)
  | 1 => ("HingeTables$Table", "numbers", "[I", true)
  | 2 => ("HingeTables$Table", "stocks", "[I", true)
  | _ => ("HingeTables$Table", "size", "I", false)
def mF_T : Nat → FieldType := fun k => match k with
  | 0 => .array .char
  | 1 => .array .int
  | 2 => .array .int
  | _ => .int
theorem mN_T : ∀ a, a < 4 → ∀ b, b < 4 → a ≠ b → (mT_T a).2.1 ≠ (mT_T b).2.1 := by decide +kernel
theorem mO_T : ∀ k, k < 4 → parseFieldDescriptor (mT_T k).2.2.1 = some (mF_T k) := by decide +kernel
def mR_S : String := "HingeTables$Text"
def mT_S : u_T := fun k => match k with
  | 0 => ("HingeTables$Text", "characters", "[C", true)
  | _ => ("HingeTables$Text", "length", "I", false)
def mF_S : Nat → FieldType := fun k => match k with
  | 0 => .array .char
  | _ => .int
theorem mN_S : ∀ a, a < 2 → ∀ b, b < 2 → a ≠ b → (mT_S a).2.1 ≠ (mT_S b).2.1 := by decide +kernel
theorem mO_S : ∀ k, k < 2 → parseFieldDescriptor (mT_S k).2.2.1 = some (mF_S k) := by decide +kernel
def mR_K : String := "HingeTables"
def mT_K : u_T := fun k => match k with
  | 0 => ("HingeTables", "text", "LHingeTables$Text;", true)
  | 1 => ("HingeTables", "ownDoor", "LHingeTables$Door;", true)
  | 2 => ("HingeTables", "holes", "LHingeTables$Holes;", true)
  | 3 => ("HingeTables", "table", "LHingeTables$Table;", false)
  | _ => ("HingeTables", "spare", "LHingeTables$Table;", false)
def mF_K : Nat → FieldType := fun k => match k with
  | 0 => .object "HingeTables$Text"
  | 1 => .object "HingeTables$Door"
  | 2 => .object "HingeTables$Holes"
  | 3 => .object "HingeTables$Table"
  | _ => .object "HingeTables$Table"
theorem mN_K : ∀ a, a < 5 → ∀ b, b < 5 → a ≠ b → (mT_K a).2.1 ≠ (mT_K b).2.1 := by decide +kernel
theorem mO_K : ∀ k, k < 5 → parseFieldDescriptor (mT_K k).2.2.1 = some (mF_K k) := by decide +kernel
def mR_M : String := "HingeTablesModel"
def mT_M : u_T := fun k => match k with
  | 0 => ("HingeTablesModel", "code", "I", false)
  | 1 => ("HingeTablesModel", "typed", "[I", true)
  | 2 => ("HingeTablesModel", "size", "I", false)
  | 3 => ("HingeTablesModel", "at", "I", false)
  | 4 => ("HingeTablesModel", "failed", "I", false)
  | 5 => ("HingeTablesModel", "rows", "I", false)
  | 6 => ("HingeTablesModel", "told", "[I", true)
  | 7 => ("HingeTablesModel", "draft", "[I", true)
  | 8 => ("HingeTablesModel", "stocks", "[I", true)
  | 9 => ("HingeTablesModel", "width", "J", false)
  | 10 => ("HingeTablesModel", "height", "J", false)
  | 11 => ("HingeTablesModel", "thick", "J", false)
  | 12 => ("HingeTablesModel", "density", "J", false)
  | 13 => ("HingeTablesModel", "xs", "[J", true)
  | 14 => ("HingeTablesModel", "ys", "[J", true)
  | 15 => ("HingeTablesModel", "radii", "[J", true)
  | 16 => ("HingeTablesModel", "cosines", "[I", true)
  | _ => ("HingeTablesModel", "sines", "[I", true)
def mF_M : Nat → FieldType := fun k => match k with
  | 0 => .int
  | 1 => .array .int
  | 2 => .int
  | 3 => .int
  | 4 => .int
  | 5 => .int
  | 6 => .array .int
  | 7 => .array .int
  | 8 => .array .int
  | 9 => .long
  | 10 => .long
  | 11 => .long
  | 12 => .long
  | 13 => .array .long
  | 14 => .array .long
  | 15 => .array .long
  | 16 => .array .int
  | _ => .array .int
theorem mN_M : ∀ a, a < 18 → ∀ b, b < 18 → a ≠ b → (mT_M a).2.1 ≠ (mT_M b).2.1 := by decide +kernel
theorem mO_M : ∀ k, k < 18 → parseFieldDescriptor (mT_M k).2.2.1 = some (mF_M k) := by decide +kernel
abbrev mC : List vw_C := [(mR_D, mT_D, 4), (mR_H, mT_H, 3), (mR_T, mT_T, 4), (mR_S, mT_S, 2), (mR_K, mT_K, 5), (mR_M, mT_M, 18)]
abbrev mb_K_init : ByteArray := prog_1_method_1_code
def my_K_init : MethodName := ⟨"HingeTables", "<init>", "()V"⟩
abbrev mb_S_init : ByteArray := prog_5_method_1_code
def my_S_init : MethodName := ⟨"HingeTables$Text", "<init>", "()V"⟩
abbrev mb_D_init : ByteArray := prog_2_method_1_code
def my_D_init : MethodName := ⟨"HingeTables$Door", "<init>", "()V"⟩
abbrev mb_H_init : ByteArray := prog_3_method_1_code
def my_H_init : MethodName := ⟨"HingeTables$Holes", "<init>", "()V"⟩
abbrev mb_T_init : ByteArray := prog_4_method_1_code
def my_T_init : MethodName := ⟨"HingeTables$Table", "<init>", "()V"⟩
abbrev mb_K_unit : ByteArray := prog_1_method_2_code
def my_K_unit : MethodName := ⟨"HingeTables", "unit", "(I)Z"⟩
abbrev mb_S_add : ByteArray := prog_5_method_2_code
def my_S_add : MethodName := ⟨"HingeTables$Text", "add", "(I)Z"⟩
abbrev mb_K_read : ByteArray := prog_1_method_3_code
def my_K_read : MethodName := ⟨"HingeTables", "read", "()I"⟩
abbrev mb_T_fill : ByteArray := prog_4_method_2_code
def my_T_fill : MethodName := ⟨"HingeTables$Table", "fill", "(LHingeTables$Text;)I"⟩
abbrev mb_S_endsAt : ByteArray := prog_5_method_4_code
def my_S_endsAt : MethodName := ⟨"HingeTables$Text", "endsAt", "(I)Z"⟩
abbrev mb_T_finish : ByteArray := prog_4_method_3_code
def my_T_finish : MethodName := ⟨"HingeTables$Table", "finish", "(I)I"⟩
abbrev mb_S_at : ByteArray := prog_5_method_3_code
def my_S_at : MethodName := ⟨"HingeTables$Text", "at", "(I)C"⟩
abbrev mb_T_fault : ByteArray := prog_4_method_4_code
def my_T_fault : MethodName := ⟨"HingeTables$Table", "fault", "(I)I"⟩
abbrev mb_T_fillRow : ByteArray := prog_4_method_5_code
def my_T_fillRow : MethodName := ⟨"HingeTables$Table", "fillRow", "(LHingeTables$Text;II)I"⟩
abbrev mb_K_numbersBehind : ByteArray := prog_1_method_25_code
def my_K_numbersBehind : MethodName := ⟨"HingeTables", "numbersBehind", "(C)I"⟩
abbrev mb_T_fillNumber : ByteArray := prog_4_method_6_code
def my_T_fillNumber : MethodName := ⟨"HingeTables$Table", "fillNumber", "(LHingeTables$Text;III)I"⟩
abbrev mb_T_isDigit : ByteArray := prog_4_method_7_code
def my_T_isDigit : MethodName := ⟨"HingeTables$Table", "isDigit", "(C)Z"⟩
abbrev mb_T_mayStand : ByteArray := prog_4_method_8_code
def my_T_mayStand : MethodName := ⟨"HingeTables$Table", "mayStand", "(III)Z"⟩
abbrev mb_T_number : ByteArray := prog_4_method_10_code
def my_T_number : MethodName := ⟨"HingeTables$Table", "number", "(II)I"⟩
abbrev mb_S_clear : ByteArray := prog_5_method_5_code
def my_S_clear : MethodName := ⟨"HingeTables$Text", "clear", "()V"⟩
abbrev mb_L_row : ByteArray := method_3_code
def my_L_row : MethodName := ⟨"HingeTablesLaw", "row", "(LHingeTables;II[J)I"⟩
abbrev mb_K_row : ByteArray := prog_1_method_4_code
def my_K_row : MethodName := ⟨"HingeTables", "row", "(II)I"⟩
abbrev mb_K_needTable : ByteArray := prog_1_method_19_code
def my_K_needTable : MethodName := ⟨"HingeTables", "needTable", "()V"⟩
abbrev mb_K_needRow : ByteArray := prog_1_method_20_code
def my_K_needRow : MethodName := ⟨"HingeTables", "needRow", "(I)V"⟩
abbrev mb_T_letter : ByteArray := prog_4_method_9_code
def my_T_letter : MethodName := ⟨"HingeTables$Table", "letter", "(I)C"⟩
abbrev mb_L_stock : ByteArray := method_4_code
def my_L_stock : MethodName := ⟨"HingeTablesLaw", "stock", "(LHingeTables;II[J)I"⟩
abbrev mb_K_stock : ByteArray := prog_1_method_5_code
def my_K_stock : MethodName := ⟨"HingeTables", "stock", "(II)Z"⟩
abbrev mb_T_changeStock : ByteArray := prog_4_method_11_code
def my_T_changeStock : MethodName := ⟨"HingeTables$Table", "changeStock", "(II)Z"⟩
abbrev mb_L_hinge : ByteArray := method_5_code
def my_L_hinge : MethodName := ⟨"HingeTablesLaw", "hinge", "(LHingeTables;JJI[J)I"⟩
abbrev mb_K_hinge : ByteArray := prog_1_method_6_code
def my_K_hinge : MethodName := ⟨"HingeTables", "hinge", "(JJI)I"⟩
abbrev mb_T_firstHinge : ByteArray := prog_4_method_13_code
def my_T_firstHinge : MethodName := ⟨"HingeTables$Table", "firstHinge", "(JJI)I"⟩
abbrev mb_T_isStocked : ByteArray := prog_4_method_12_code
def my_T_isStocked : MethodName := ⟨"HingeTables$Table", "isStocked", "(IC)Z"⟩
abbrev mb_T_holds : ByteArray := prog_4_method_14_code
def my_T_holds : MethodName := ⟨"HingeTables$Table", "holds", "(IIJJ)Z"⟩
abbrev mb_L_other : ByteArray := method_6_code
def my_L_other : MethodName := ⟨"HingeTablesLaw", "other", "(LHingeTables;II[J)I"⟩
abbrev mb_K_other : ByteArray := prog_1_method_7_code
def my_K_other : MethodName := ⟨"HingeTables", "other", "(II)I"⟩
abbrev mb_T_otherHinge : ByteArray := prog_4_method_15_code
def my_T_otherHinge : MethodName := ⟨"HingeTables$Table", "otherHinge", "(II)I"⟩
abbrev mb_T_canReplace : ByteArray := prog_4_method_16_code
def my_T_canReplace : MethodName := ⟨"HingeTables$Table", "canReplace", "(II)Z"⟩
abbrev mb_L_slide : ByteArray := method_7_code
def my_L_slide : MethodName := ⟨"HingeTablesLaw", "slide", "(LHingeTables;J[J)I"⟩
abbrev mb_K_slide : ByteArray := prog_1_method_8_code
def my_K_slide : MethodName := ⟨"HingeTables", "slide", "(J)I"⟩
abbrev mb_T_longestSlide : ByteArray := prog_4_method_17_code
def my_T_longestSlide : MethodName := ⟨"HingeTables$Table", "longestSlide", "(J)I"⟩
abbrev mb_L_door : ByteArray := method_8_code
def my_L_door : MethodName := ⟨"HingeTablesLaw", "door", "(LHingeTables;JJJJ[J)I"⟩
abbrev mb_K_door : ByteArray := prog_1_method_9_code
def my_K_door : MethodName := ⟨"HingeTables", "door", "(JJJJ)Z"⟩
abbrev mb_K_isOfDoor : ByteArray := prog_1_method_23_code
def my_K_isOfDoor : MethodName := ⟨"HingeTables", "isOfDoor", "(J)Z"⟩
abbrev mb_K_isWithin : ByteArray := prog_1_method_24_code
def my_K_isWithin : MethodName := ⟨"HingeTables", "isWithin", "(JII)Z"⟩
abbrev mb_D_change : ByteArray := prog_2_method_2_code
def my_D_change : MethodName := ⟨"HingeTables$Door", "change", "(JJJJ)Z"⟩
abbrev mb_L_weight : ByteArray := method_9_code
def my_L_weight : MethodName := ⟨"HingeTablesLaw", "weight", "(LHingeTables;I[J)I"⟩
abbrev mb_K_weight : ByteArray := prog_1_method_10_code
def my_K_weight : MethodName := ⟨"HingeTables", "weight", "(I)J"⟩
abbrev mb_K_needPart : ByteArray := prog_1_method_22_code
def my_K_needPart : MethodName := ⟨"HingeTables", "needPart", "(I)V"⟩
abbrev mb_D_millionWeights : ByteArray := prog_2_method_3_code
def my_D_millionWeights : MethodName := ⟨"HingeTables$Door", "millionWeights", "()J"⟩
abbrev mb_K_partOfFraction : ByteArray := prog_1_method_26_code
def my_K_partOfFraction : MethodName := ⟨"HingeTables", "partOfFraction", "(JJI)J"⟩
abbrev mb_K_commonDivisor : ByteArray := prog_1_method_27_code
def my_K_commonDivisor : MethodName := ⟨"HingeTables", "commonDivisor", "(JJ)J"⟩
abbrev mb_L_count : ByteArray := method_10_code
def my_L_count : MethodName := ⟨"HingeTablesLaw", "count", "(LHingeTables;[J)I"⟩
abbrev mb_K_count : ByteArray := prog_1_method_11_code
def my_K_count : MethodName := ⟨"HingeTables", "count", "()I"⟩
abbrev mb_T_hingesOf : ByteArray := prog_4_method_18_code
def my_T_hingesOf : MethodName := ⟨"HingeTables$Table", "hingesOf", "(LHingeTables$Door;)I"⟩
abbrev mb_L_place : ByteArray := method_11_code
def my_L_place : MethodName := ⟨"HingeTablesLaw", "place", "(LHingeTables;II[J)I"⟩
abbrev mb_K_place : ByteArray := prog_1_method_12_code
def my_K_place : MethodName := ⟨"HingeTables", "place", "(II)J"⟩
abbrev mb_D_placeNumerator : ByteArray := prog_2_method_4_code
def my_D_placeNumerator : MethodName := ⟨"HingeTables$Door", "placeNumerator", "(II)J"⟩
abbrev mb_L_hole : ByteArray := method_12_code
def my_L_hole : MethodName := ⟨"HingeTablesLaw", "hole", "(LHingeTables;IJJJ[J)I"⟩
abbrev mb_K_hole : ByteArray := prog_1_method_13_code
def my_K_hole : MethodName := ⟨"HingeTables", "hole", "(IJJJ)Z"⟩
abbrev mb_K_needHole : ByteArray := prog_1_method_21_code
def my_K_needHole : MethodName := ⟨"HingeTables", "needHole", "(I)V"⟩
abbrev mb_H_change : ByteArray := prog_3_method_2_code
def my_H_change : MethodName := ⟨"HingeTables$Holes", "change", "(IJJJ)Z"⟩
abbrev mb_L_meet : ByteArray := method_13_code
def my_L_meet : MethodName := ⟨"HingeTablesLaw", "meet", "(LHingeTables;II[J)I"⟩
abbrev mb_K_meet : ByteArray := prog_1_method_14_code
def my_K_meet : MethodName := ⟨"HingeTables", "meet", "(II)Z"⟩
abbrev mb_H_overlap : ByteArray := prog_3_method_3_code
def my_H_overlap : MethodName := ⟨"HingeTables$Holes", "overlap", "(II)Z"⟩
abbrev mb_L_pair : ByteArray := method_14_code
def my_L_pair : MethodName := ⟨"HingeTablesLaw", "pair", "(LHingeTables;I[J)I"⟩
abbrev mb_K_pair : ByteArray := prog_1_method_15_code
def my_K_pair : MethodName := ⟨"HingeTables", "pair", "(I)I"⟩
abbrev mb_H_overlappingPair : ByteArray := prog_3_method_4_code
def my_H_overlappingPair : MethodName := ⟨"HingeTables$Holes", "overlappingPair", "(I)I"⟩
abbrev mb_L_wall : ByteArray := method_15_code
def my_L_wall : MethodName := ⟨"HingeTablesLaw", "wall", "(LHingeTables;J[J)I"⟩
abbrev mb_K_wall : ByteArray := prog_1_method_16_code
def my_K_wall : MethodName := ⟨"HingeTables", "wall", "(J)I"⟩
abbrev mb_D_leastX : ByteArray := prog_2_method_9_code
def my_D_leastX : MethodName := ⟨"HingeTables$Door", "leastX", "(I)J"⟩
abbrev mb_D_turnedX : ByteArray := prog_2_method_7_code
def my_D_turnedX : MethodName := ⟨"HingeTables$Door", "turnedX", "(II)J"⟩
abbrev mb_D_shutX : ByteArray := prog_2_method_5_code
def my_D_shutX : MethodName := ⟨"HingeTables$Door", "shutX", "(I)J"⟩
abbrev mb_D_shutY : ByteArray := prog_2_method_6_code
def my_D_shutY : MethodName := ⟨"HingeTables$Door", "shutY", "(I)J"⟩
abbrev mb_L_corner : ByteArray := method_16_code
def my_L_corner : MethodName := ⟨"HingeTablesLaw", "corner", "(LHingeTables;III[J)I"⟩
abbrev mb_K_corner : ByteArray := prog_1_method_17_code
def my_K_corner : MethodName := ⟨"HingeTables", "corner", "(III)J"⟩
abbrev mb_D_turnedY : ByteArray := prog_2_method_8_code
def my_D_turnedY : MethodName := ⟨"HingeTables$Door", "turnedY", "(II)J"⟩
abbrev mb_L_rows32 : ByteArray := method_17_code
def my_L_rows32 : MethodName := ⟨"HingeTablesLaw", "rows32", "(LHingeTables;JI[J)I"⟩
abbrev mb_K_rows32 : ByteArray := prog_1_method_18_code
def my_K_rows32 : MethodName := ⟨"HingeTables", "rows32", "(JI)I"⟩
abbrev mb_M_init : ByteArray := prog_7_method_1_code
def my_M_init : MethodName := ⟨"HingeTablesModel", "<init>", "()V"⟩
abbrev mb_M_turn : ByteArray := prog_7_method_2_code
def my_M_turn : MethodName := ⟨"HingeTablesModel", "turn", "(III)V"⟩
abbrev mb_M_unit : ByteArray := prog_7_method_5_code
def my_M_unit : MethodName := ⟨"HingeTablesModel", "unit", "(I)Z"⟩
abbrev mb_M_read : ByteArray := prog_7_method_11_code
def my_M_read : MethodName := ⟨"HingeTablesModel", "read", "()I"⟩
abbrev mb_M_readRow : ByteArray := prog_7_method_10_code
def my_M_readRow : MethodName := ⟨"HingeTablesModel", "readRow", "(I)V"⟩
abbrev mb_M_here : ByteArray := prog_7_method_6_code
def my_M_here : MethodName := ⟨"HingeTablesModel", "here", "()I"⟩
abbrev mb_M_sizeOf : ByteArray := prog_7_method_9_code
def my_M_sizeOf : MethodName := ⟨"HingeTablesModel", "sizeOf", "(I)I"⟩
abbrev mb_M_failAt : ByteArray := prog_7_method_7_code
def my_M_failAt : MethodName := ⟨"HingeTablesModel", "failAt", "(I)V"⟩
abbrev mb_M_readNumber : ByteArray := prog_7_method_8_code
def my_M_readNumber : MethodName := ⟨"HingeTablesModel", "readNumber", "()I"⟩
abbrev mb_M_isIn : ByteArray := prog_7_method_4_code
def my_M_isIn : MethodName := ⟨"HingeTablesModel", "isIn", "(JJJ)Z"⟩
abbrev mb_M_row : ByteArray := prog_7_method_14_code
def my_M_row : MethodName := ⟨"HingeTablesModel", "row", "(II)I"⟩
abbrev mb_M_rowCode : ByteArray := prog_7_method_12_code
def my_M_rowCode : MethodName := ⟨"HingeTablesModel", "rowCode", "(I)I"⟩
abbrev mb_M_stock : ByteArray := prog_7_method_15_code
def my_M_stock : MethodName := ⟨"HingeTablesModel", "stock", "(II)Z"⟩
abbrev mb_M_hinge : ByteArray := prog_7_method_17_code
def my_M_hinge : MethodName := ⟨"HingeTablesModel", "hinge", "(JJI)I"⟩
abbrev mb_M_number : ByteArray := prog_7_method_13_code
def my_M_number : MethodName := ⟨"HingeTablesModel", "number", "(II)J"⟩
abbrev mb_M_isThere : ByteArray := prog_7_method_16_code
def my_M_isThere : MethodName := ⟨"HingeTablesModel", "isThere", "(II)Z"⟩
abbrev mb_M_other : ByteArray := prog_7_method_19_code
def my_M_other : MethodName := ⟨"HingeTablesModel", "other", "(II)I"⟩
abbrev mb_M_replaces : ByteArray := prog_7_method_18_code
def my_M_replaces : MethodName := ⟨"HingeTablesModel", "replaces", "(II)Z"⟩
abbrev mb_M_slide : ByteArray := prog_7_method_20_code
def my_M_slide : MethodName := ⟨"HingeTablesModel", "slide", "(J)I"⟩
abbrev mb_M_door : ByteArray := prog_7_method_22_code
def my_M_door : MethodName := ⟨"HingeTablesModel", "door", "(JJJJ)Z"⟩
abbrev mb_M_isSize : ByteArray := prog_7_method_21_code
def my_M_isSize : MethodName := ⟨"HingeTablesModel", "isSize", "(J)Z"⟩
abbrev mb_M_weight : ByteArray := prog_7_method_25_code
def my_M_weight : MethodName := ⟨"HingeTablesModel", "weight", "(I)J"⟩
abbrev mb_M_grams : ByteArray := prog_7_method_24_code
def my_M_grams : MethodName := ⟨"HingeTablesModel", "grams", "()J"⟩
abbrev mb_M_common : ByteArray := prog_7_method_23_code
def my_M_common : MethodName := ⟨"HingeTablesModel", "common", "(JJ)J"⟩
abbrev mb_M_count : ByteArray := prog_7_method_27_code
def my_M_count : MethodName := ⟨"HingeTablesModel", "count", "()I"⟩
abbrev mb_M_hinges : ByteArray := prog_7_method_26_code
def my_M_hinges : MethodName := ⟨"HingeTablesModel", "hinges", "()I"⟩
abbrev mb_M_place : ByteArray := prog_7_method_28_code
def my_M_place : MethodName := ⟨"HingeTablesModel", "place", "(II)J"⟩
abbrev mb_M_hole : ByteArray := prog_7_method_29_code
def my_M_hole : MethodName := ⟨"HingeTablesModel", "hole", "(IJJJ)Z"⟩
abbrev mb_M_meet : ByteArray := prog_7_method_31_code
def my_M_meet : MethodName := ⟨"HingeTablesModel", "meet", "(II)Z"⟩
abbrev mb_M_meets : ByteArray := prog_7_method_30_code
def my_M_meets : MethodName := ⟨"HingeTablesModel", "meets", "(II)Z"⟩
abbrev mb_M_pair : ByteArray := prog_7_method_32_code
def my_M_pair : MethodName := ⟨"HingeTablesModel", "pair", "(I)I"⟩
abbrev mb_M_corner : ByteArray := prog_7_method_34_code
def my_M_corner : MethodName := ⟨"HingeTablesModel", "corner", "(III)J"⟩
abbrev mb_M_placeOf : ByteArray := prog_7_method_33_code
def my_M_placeOf : MethodName := ⟨"HingeTablesModel", "placeOf", "(III)J"⟩
abbrev mb_M_wall : ByteArray := prog_7_method_35_code
def my_M_wall : MethodName := ⟨"HingeTablesModel", "wall", "(J)I"⟩
abbrev mb_M_rows32 : ByteArray := prog_7_method_36_code
def my_M_rows32 : MethodName := ⟨"HingeTablesModel", "rows32", "(JI)I"⟩
abbrev mb_L_law : ByteArray := code
def gw_l : List Cond := lw_tbl.filter goodWord
theorem gw_mem {w : Cond} (h : w ∈ lw_tbl) (g : goodWord w = true) : w ∈ gw_l := List.mem_filter.mpr ⟨h, g⟩
theorem gw_t {w : Cond} (i : Nat) (h : tables_1[i]? = some w) (g : goodWord w = true) : w ∈ gw_l := gw_mem (List.mem_append_right _ (List.mem_of_getElem? h)) g
theorem gw_p {w : Cond} (i : Nat) (h : (k2_sels lw_privs)[i]? = some w) (g : goodWord w = true) : w ∈ gw_l := gw_mem (List.mem_append_left _ (List.mem_of_getElem? h)) g
theorem wd_0 : Cond.initialized "HingeTablesLaw" ∈ gw_l := gw_t 0 (by decide +kernel) rfl
theorem wd_1 : Cond.initialized "HingeTables" ∈ gw_l := gw_t 1 (by decide +kernel) rfl
theorem wd_2 : Cond.initialized "HingeTables$Text" ∈ gw_l := gw_t 2 (by decide +kernel) rfl
theorem wd_3 : Cond.initialized "HingeTables$Door" ∈ gw_l := gw_t 3 (by decide +kernel) rfl
theorem wd_4 : Cond.initialized "HingeTables$Holes" ∈ gw_l := gw_t 4 (by decide +kernel) rfl
theorem wd_5 : Cond.initialized "HingeTables$Table" ∈ gw_l := gw_t 5 (by decide +kernel) rfl
theorem wd_6 : Cond.initialized "HingeTablesModel" ∈ gw_l := gw_t 6 (by decide +kernel) rfl
theorem wd_7 : Cond.initialized "java/lang/Throwable" ∈ gw_l := gw_t 7 (by decide +kernel) rfl
theorem wd_8 : Cond.initialized "java/lang/Exception" ∈ gw_l := gw_t 8 (by decide +kernel) rfl
theorem wd_9 : Cond.initialized "java/lang/RuntimeException" ∈ gw_l := gw_t 9 (by decide +kernel) rfl
theorem wd_10 : Cond.initialized "java/lang/IllegalStateException" ∈ gw_l := gw_t 10 (by decide +kernel) rfl
theorem wd_11 : Cond.initialized "java/lang/IndexOutOfBoundsException" ∈ gw_l := gw_t 11 (by decide +kernel) rfl
theorem wd_12 : Cond.initialized "java/lang/IllegalArgumentException" ∈ gw_l := gw_t 12 (by decide +kernel) rfl
theorem wd_13 : Cond.initialized "java/lang/Math" ∈ gw_l := gw_t 13 (by decide +kernel) rfl
theorem wd_14 : Cond.classLink "HingeTablesLaw" 8 "HingeTables" ∈ gw_l := gw_t 14 (by decide +kernel) rfl
theorem wd_15 : Cond.instantiable "HingeTables" 5 ∈ gw_l := gw_t 15 (by decide +kernel) rfl
theorem wd_16 : Cond.methodLink "HingeTablesLaw" 72 my_K_init ∈ gw_l := gw_t 16 (by decide +kernel) rfl
theorem wd_17 : Cond.instanceMethod my_K_init ∈ gw_l := gw_t 17 (by decide +kernel) rfl
theorem wd_18 : Cond.code my_K_init mb_K_init 1 none ∈ gw_l := gw_t 18 (by decide +kernel) rfl
theorem wd_19 : Cond.methodLink "HingeTables" 1 ⟨"java/lang/Object", "<init>", "()V"⟩ ∈ gw_l := gw_t 19 (by decide +kernel) rfl
theorem wd_20 : Cond.instanceMethod ⟨"java/lang/Object", "<init>", "()V"⟩ ∈ gw_l := gw_t 20 (by decide +kernel) rfl
theorem wd_22 : Cond.classLink "HingeTables" 7 "HingeTables$Text" ∈ gw_l := gw_t 22 (by decide +kernel) rfl
theorem wd_23 : Cond.instantiable "HingeTables$Text" 2 ∈ gw_l := gw_t 23 (by decide +kernel) rfl
theorem wd_25 : Cond.instanceMethod my_S_init ∈ gw_l := gw_t 25 (by decide +kernel) rfl
theorem wd_26 : Cond.code my_S_init mb_S_init 1 none ∈ gw_l := gw_t 26 (by decide +kernel) rfl
theorem wd_27 : Cond.methodLink "HingeTables$Text" 3 ⟨"java/lang/Object", "<init>", "()V"⟩ ∈ gw_l := gw_t 27 (by decide +kernel) rfl
theorem wd_28 : Cond.fieldLink "HingeTables$Text" 9 "HingeTables$Text" "characters" "[C" ∈ gw_l := gw_t 28 (by decide +kernel) rfl
theorem wd_29 : Cond.fieldLink "HingeTables$Text" 15 "HingeTables$Text" "length" "I" ∈ gw_l := gw_t 29 (by decide +kernel) rfl
theorem wd_30 : Cond.laysFinal "HingeTables$Text" "HingeTables$Text" "characters" "[C" ∈ gw_l := gw_t 30 (by decide +kernel) rfl
theorem wd_32 : Cond.lays "HingeTables$Text" "HingeTables$Text" "length" "I" ∈ gw_l := gw_t 32 (by decide +kernel) rfl
theorem wd_35 : Cond.arrayClass .char ∈ gw_l := gw_t 35 (by decide +kernel) rfl
theorem wd_36 : Cond.classLink "HingeTables" 16 "HingeTables$Door" ∈ gw_l := gw_t 36 (by decide +kernel) rfl
theorem wd_37 : Cond.instantiable "HingeTables$Door" 4 ∈ gw_l := gw_t 37 (by decide +kernel) rfl
theorem wd_39 : Cond.instanceMethod my_D_init ∈ gw_l := gw_t 39 (by decide +kernel) rfl
theorem wd_40 : Cond.code my_D_init mb_D_init 1 none ∈ gw_l := gw_t 40 (by decide +kernel) rfl
theorem wd_41 : Cond.methodLink "HingeTables$Door" 3 ⟨"java/lang/Object", "<init>", "()V"⟩ ∈ gw_l := gw_t 41 (by decide +kernel) rfl
theorem wd_42 : Cond.constantLong "HingeTables$Door" 9 400 ∈ gw_l := gw_t 42 (by decide +kernel) rfl
theorem wd_43 : Cond.constantLong "HingeTables$Door" 17 700 ∈ gw_l := gw_t 43 (by decide +kernel) rfl
theorem wd_44 : Cond.constantLong "HingeTables$Door" 22 19 ∈ gw_l := gw_t 44 (by decide +kernel) rfl
theorem wd_45 : Cond.fieldLink "HingeTables$Door" 11 "HingeTables$Door" "width" "J" ∈ gw_l := gw_t 45 (by decide +kernel) rfl
theorem wd_46 : Cond.fieldLink "HingeTables$Door" 19 "HingeTables$Door" "height" "J" ∈ gw_l := gw_t 46 (by decide +kernel) rfl
theorem wd_49 : Cond.fieldLink "HingeTables$Door" 24 "HingeTables$Door" "thickness" "J" ∈ gw_l := gw_t 49 (by decide +kernel) rfl
theorem wd_50 : Cond.fieldLink "HingeTables$Door" 27 "HingeTables$Door" "heaviness" "J" ∈ gw_l := gw_t 50 (by decide +kernel) rfl
theorem wd_51 : Cond.lays "HingeTables$Door" "HingeTables$Door" "width" "J" ∈ gw_l := gw_t 51 (by decide +kernel) rfl
theorem wd_53 : Cond.lays "HingeTables$Door" "HingeTables$Door" "height" "J" ∈ gw_l := gw_t 53 (by decide +kernel) rfl
theorem wd_55 : Cond.lays "HingeTables$Door" "HingeTables$Door" "thickness" "J" ∈ gw_l := gw_t 55 (by decide +kernel) rfl
theorem wd_57 : Cond.lays "HingeTables$Door" "HingeTables$Door" "heaviness" "J" ∈ gw_l := gw_t 57 (by decide +kernel) rfl
theorem wd_60 : Cond.classLink "HingeTables" 23 "HingeTables$Holes" ∈ gw_l := gw_t 60 (by decide +kernel) rfl
theorem wd_61 : Cond.instantiable "HingeTables$Holes" 3 ∈ gw_l := gw_t 61 (by decide +kernel) rfl
theorem wd_63 : Cond.instanceMethod my_H_init ∈ gw_l := gw_t 63 (by decide +kernel) rfl
theorem wd_64 : Cond.code my_H_init mb_H_init 1 none ∈ gw_l := gw_t 64 (by decide +kernel) rfl
theorem wd_65 : Cond.methodLink "HingeTables$Holes" 3 ⟨"java/lang/Object", "<init>", "()V"⟩ ∈ gw_l := gw_t 65 (by decide +kernel) rfl
theorem wd_66 : Cond.fieldLink "HingeTables$Holes" 9 "HingeTables$Holes" "xs" "[I" ∈ gw_l := gw_t 66 (by decide +kernel) rfl
theorem wd_67 : Cond.fieldLink "HingeTables$Holes" 15 "HingeTables$Holes" "ys" "[I" ∈ gw_l := gw_t 67 (by decide +kernel) rfl
theorem wd_68 : Cond.fieldLink "HingeTables$Holes" 18 "HingeTables$Holes" "radii" "[I" ∈ gw_l := gw_t 68 (by decide +kernel) rfl
theorem wd_69 : Cond.laysFinal "HingeTables$Holes" "HingeTables$Holes" "xs" "[I" ∈ gw_l := gw_t 69 (by decide +kernel) rfl
theorem wd_71 : Cond.laysFinal "HingeTables$Holes" "HingeTables$Holes" "ys" "[I" ∈ gw_l := gw_t 71 (by decide +kernel) rfl
theorem wd_73 : Cond.laysFinal "HingeTables$Holes" "HingeTables$Holes" "radii" "[I" ∈ gw_l := gw_t 73 (by decide +kernel) rfl
theorem wd_76 : Cond.arrayClass .int ∈ gw_l := gw_t 76 (by decide +kernel) rfl
theorem wd_77 : Cond.classLink "HingeTables" 30 "HingeTables$Table" ∈ gw_l := gw_t 77 (by decide +kernel) rfl
theorem wd_78 : Cond.instantiable "HingeTables$Table" 4 ∈ gw_l := gw_t 78 (by decide +kernel) rfl
theorem wd_80 : Cond.instanceMethod my_T_init ∈ gw_l := gw_t 80 (by decide +kernel) rfl
theorem wd_81 : Cond.code my_T_init mb_T_init 1 none ∈ gw_l := gw_t 81 (by decide +kernel) rfl
theorem wd_82 : Cond.methodLink "HingeTables$Table" 3 ⟨"java/lang/Object", "<init>", "()V"⟩ ∈ gw_l := gw_t 82 (by decide +kernel) rfl
theorem wd_83 : Cond.fieldLink "HingeTables$Table" 9 "HingeTables$Table" "letters" "[C" ∈ gw_l := gw_t 83 (by decide +kernel) rfl
theorem wd_84 : Cond.fieldLink "HingeTables$Table" 15 "HingeTables$Table" "numbers" "[I" ∈ gw_l := gw_t 84 (by decide +kernel) rfl
theorem wd_85 : Cond.fieldLink "HingeTables$Table" 19 "HingeTables$Table" "stocks" "[I" ∈ gw_l := gw_t 85 (by decide +kernel) rfl
theorem wd_86 : Cond.fieldLink "HingeTables$Table" 22 "HingeTables$Table" "size" "I" ∈ gw_l := gw_t 86 (by decide +kernel) rfl
theorem wd_88 : Cond.laysFinal "HingeTables$Table" "HingeTables$Table" "letters" "[C" ∈ gw_l := gw_t 88 (by decide +kernel) rfl
theorem wd_90 : Cond.laysFinal "HingeTables$Table" "HingeTables$Table" "numbers" "[I" ∈ gw_l := gw_t 90 (by decide +kernel) rfl
theorem wd_92 : Cond.laysFinal "HingeTables$Table" "HingeTables$Table" "stocks" "[I" ∈ gw_l := gw_t 92 (by decide +kernel) rfl
theorem wd_94 : Cond.lays "HingeTables$Table" "HingeTables$Table" "size" "I" ∈ gw_l := gw_t 94 (by decide +kernel) rfl
theorem wd_97 : Cond.fieldLink "HingeTables" 10 "HingeTables" "text" "LHingeTables$Text;" ∈ gw_l := gw_t 97 (by decide +kernel) rfl
theorem wd_98 : Cond.fieldLink "HingeTables" 19 "HingeTables" "ownDoor" "LHingeTables$Door;" ∈ gw_l := gw_t 98 (by decide +kernel) rfl
theorem wd_99 : Cond.fieldLink "HingeTables" 26 "HingeTables" "holes" "LHingeTables$Holes;" ∈ gw_l := gw_t 99 (by decide +kernel) rfl
theorem wd_100 : Cond.fieldLink "HingeTables" 33 "HingeTables" "table" "LHingeTables$Table;" ∈ gw_l := gw_t 100 (by decide +kernel) rfl
theorem wd_101 : Cond.fieldLink "HingeTables" 37 "HingeTables" "spare" "LHingeTables$Table;" ∈ gw_l := gw_t 101 (by decide +kernel) rfl
theorem wd_102 : Cond.laysFinal "HingeTables" "HingeTables" "text" "LHingeTables$Text;" ∈ gw_l := gw_t 102 (by decide +kernel) rfl
theorem wd_104 : Cond.laysFinal "HingeTables" "HingeTables" "ownDoor" "LHingeTables$Door;" ∈ gw_l := gw_t 104 (by decide +kernel) rfl
theorem wd_106 : Cond.laysFinal "HingeTables" "HingeTables" "holes" "LHingeTables$Holes;" ∈ gw_l := gw_t 106 (by decide +kernel) rfl
theorem wd_108 : Cond.lays "HingeTables" "HingeTables" "table" "LHingeTables$Table;" ∈ gw_l := gw_t 108 (by decide +kernel) rfl
theorem wd_110 : Cond.lays "HingeTables" "HingeTables" "spare" "LHingeTables$Table;" ∈ gw_l := gw_t 110 (by decide +kernel) rfl
theorem wd_113 : Cond.methodLink "HingeTablesLaw" 76 my_K_unit ∈ gw_l := gw_t 113 (by decide +kernel) rfl
theorem wd_114 : Cond.instanceMethod my_K_unit ∈ gw_l := gw_t 114 (by decide +kernel) rfl
theorem wd_115 : Cond.selects "HingeTables" my_K_unit my_K_unit ∈ gw_l := gw_t 115 (by decide +kernel) rfl
theorem wd_116 : Cond.code my_K_unit mb_K_unit 2 (some .boolean) ∈ gw_l := gw_t 116 (by decide +kernel) rfl
theorem wd_117 : Cond.methodLink "HingeTables" 40 my_S_add ∈ gw_l := gw_t 117 (by decide +kernel) rfl
theorem wd_118 : Cond.instanceMethod my_S_add ∈ gw_l := gw_t 118 (by decide +kernel) rfl
theorem wd_119 : Cond.selects "HingeTables$Text" my_S_add my_S_add ∈ gw_l := gw_t 119 (by decide +kernel) rfl
theorem wd_120 : Cond.code my_S_add mb_S_add 2 (some .boolean) ∈ gw_l := gw_t 120 (by decide +kernel) rfl
theorem wd_121 : Cond.methodLink "HingeTablesLaw" 81 my_K_read ∈ gw_l := gw_t 121 (by decide +kernel) rfl
theorem wd_122 : Cond.instanceMethod my_K_read ∈ gw_l := gw_t 122 (by decide +kernel) rfl
theorem wd_123 : Cond.selects "HingeTables" my_K_read my_K_read ∈ gw_l := gw_t 123 (by decide +kernel) rfl
theorem wd_124 : Cond.code my_K_read mb_K_read 3 (some .int) ∈ gw_l := gw_t 124 (by decide +kernel) rfl
theorem wd_125 : Cond.methodLink "HingeTables" 44 my_T_fill ∈ gw_l := gw_t 125 (by decide +kernel) rfl
theorem wd_126 : Cond.instanceMethod my_T_fill ∈ gw_l := gw_t 126 (by decide +kernel) rfl
theorem wd_127 : Cond.selects "HingeTables$Table" my_T_fill my_T_fill ∈ gw_l := gw_t 127 (by decide +kernel) rfl
theorem wd_128 : Cond.code my_T_fill mb_T_fill 4 (some .int) ∈ gw_l := gw_t 128 (by decide +kernel) rfl
theorem wd_129 : Cond.methodLink "HingeTables$Table" 26 my_S_endsAt ∈ gw_l := gw_t 129 (by decide +kernel) rfl
theorem wd_130 : Cond.instanceMethod my_S_endsAt ∈ gw_l := gw_t 130 (by decide +kernel) rfl
theorem wd_131 : Cond.selects "HingeTables$Text" my_S_endsAt my_S_endsAt ∈ gw_l := gw_t 131 (by decide +kernel) rfl
theorem wd_132 : Cond.code my_S_endsAt mb_S_endsAt 2 (some .boolean) ∈ gw_l := gw_t 132 (by decide +kernel) rfl
theorem wd_133 : Cond.methodLink "HingeTables$Table" 32 my_T_finish ∈ gw_l := gw_t 133 (by decide +kernel) rfl
theorem wd_135 : Cond.instanceMethod my_T_finish ∈ gw_l := gw_t 135 (by decide +kernel) rfl
theorem wd_136 : Cond.code my_T_finish mb_T_finish 3 (some .int) ∈ gw_l := gw_t 136 (by decide +kernel) rfl
theorem wd_137 : Cond.methodLink "HingeTables$Table" 36 my_S_at ∈ gw_l := gw_t 137 (by decide +kernel) rfl
theorem wd_138 : Cond.instanceMethod my_S_at ∈ gw_l := gw_t 138 (by decide +kernel) rfl
theorem wd_139 : Cond.selects "HingeTables$Text" my_S_at my_S_at ∈ gw_l := gw_t 139 (by decide +kernel) rfl
theorem wd_140 : Cond.code my_S_at mb_S_at 2 (some .char) ∈ gw_l := gw_t 140 (by decide +kernel) rfl
theorem wd_141 : Cond.methodLink "HingeTables$Table" 40 my_T_fault ∈ gw_l := gw_t 141 (by decide +kernel) rfl
theorem wd_142 : Cond.static my_T_fault ∈ gw_l := gw_t 142 (by decide +kernel) rfl
theorem wd_143 : Cond.code my_T_fault mb_T_fault 1 (some .int) ∈ gw_l := gw_t 143 (by decide +kernel) rfl
theorem wd_144 : Cond.methodLink "HingeTables$Table" 43 my_T_fillRow ∈ gw_l := gw_t 144 (by decide +kernel) rfl
theorem wd_146 : Cond.instanceMethod my_T_fillRow ∈ gw_l := gw_t 146 (by decide +kernel) rfl
theorem wd_147 : Cond.code my_T_fillRow mb_T_fillRow 8 (some .int) ∈ gw_l := gw_t 147 (by decide +kernel) rfl
theorem wd_149 : Cond.static my_K_numbersBehind ∈ gw_l := gw_t 149 (by decide +kernel) rfl
theorem wd_150 : Cond.code my_K_numbersBehind mb_K_numbersBehind 1 (some .int) ∈ gw_l := gw_t 150 (by decide +kernel) rfl
theorem wd_151 : Cond.methodLink "HingeTables$Table" 51 my_T_fillNumber ∈ gw_l := gw_t 151 (by decide +kernel) rfl
theorem wd_153 : Cond.instanceMethod my_T_fillNumber ∈ gw_l := gw_t 153 (by decide +kernel) rfl
theorem wd_154 : Cond.code my_T_fillNumber mb_T_fillNumber 8 (some .int) ∈ gw_l := gw_t 154 (by decide +kernel) rfl
theorem wd_155 : Cond.methodLink "HingeTables$Table" 55 my_T_isDigit ∈ gw_l := gw_t 155 (by decide +kernel) rfl
theorem wd_156 : Cond.static my_T_isDigit ∈ gw_l := gw_t 156 (by decide +kernel) rfl
theorem wd_157 : Cond.code my_T_isDigit mb_T_isDigit 1 (some .boolean) ∈ gw_l := gw_t 157 (by decide +kernel) rfl
theorem wd_158 : Cond.methodLink "HingeTables$Table" 59 my_T_mayStand ∈ gw_l := gw_t 158 (by decide +kernel) rfl
theorem wd_160 : Cond.instanceMethod my_T_mayStand ∈ gw_l := gw_t 160 (by decide +kernel) rfl
theorem wd_161 : Cond.code my_T_mayStand mb_T_mayStand 4 (some .boolean) ∈ gw_l := gw_t 161 (by decide +kernel) rfl
theorem wd_162 : Cond.methodLink "HingeTables$Table" 63 my_T_number ∈ gw_l := gw_t 162 (by decide +kernel) rfl
theorem wd_163 : Cond.instanceMethod my_T_number ∈ gw_l := gw_t 163 (by decide +kernel) rfl
theorem wd_164 : Cond.selects "HingeTables$Table" my_T_number my_T_number ∈ gw_l := gw_t 164 (by decide +kernel) rfl
theorem wd_165 : Cond.code my_T_number mb_T_number 3 (some .int) ∈ gw_l := gw_t 165 (by decide +kernel) rfl
theorem wd_166 : Cond.methodLink "HingeTables" 48 my_S_clear ∈ gw_l := gw_t 166 (by decide +kernel) rfl
theorem wd_167 : Cond.instanceMethod my_S_clear ∈ gw_l := gw_t 167 (by decide +kernel) rfl
theorem wd_168 : Cond.selects "HingeTables$Text" my_S_clear my_S_clear ∈ gw_l := gw_t 168 (by decide +kernel) rfl
theorem wd_169 : Cond.code my_S_clear mb_S_clear 1 none ∈ gw_l := gw_t 169 (by decide +kernel) rfl
theorem wd_170 : Cond.methodLink "HingeTablesLaw" 85 my_L_row ∈ gw_l := gw_t 170 (by decide +kernel) rfl
theorem wd_171 : Cond.static my_L_row ∈ gw_l := gw_t 171 (by decide +kernel) rfl
theorem wd_173 : Cond.classLink "HingeTablesLaw" 13 "java/lang/IllegalStateException" ∈ gw_l := gw_t 173 (by decide +kernel) rfl
theorem wd_174 : Cond.classLink "HingeTablesLaw" 15 "java/lang/IndexOutOfBoundsException" ∈ gw_l := gw_t 174 (by decide +kernel) rfl
theorem wd_175 : Cond.methodLink "HingeTablesLaw" 7 my_K_row ∈ gw_l := gw_t 175 (by decide +kernel) rfl
theorem wd_176 : Cond.instanceMethod my_K_row ∈ gw_l := gw_t 176 (by decide +kernel) rfl
theorem wd_177 : Cond.selects "HingeTables" my_K_row my_K_row ∈ gw_l := gw_t 177 (by decide +kernel) rfl
theorem wd_178 : Cond.code my_K_row mb_K_row 3 (some .int) ∈ gw_l := gw_t 178 (by decide +kernel) rfl
theorem wd_179 : Cond.methodLink "HingeTables" 51 my_K_needTable ∈ gw_l := gw_t 179 (by decide +kernel) rfl
theorem wd_181 : Cond.instanceMethod my_K_needTable ∈ gw_l := gw_t 181 (by decide +kernel) rfl
theorem wd_182 : Cond.code my_K_needTable mb_K_needTable 1 none ∈ gw_l := gw_t 182 (by decide +kernel) rfl
theorem wd_183 : Cond.classLink "HingeTables" 128 "java/lang/IllegalStateException" ∈ gw_l := gw_t 183 (by decide +kernel) rfl
theorem wd_184 : Cond.instantiable "java/lang/IllegalStateException" 6 ∈ gw_l := gw_t 184 (by decide +kernel) rfl
theorem wd_192 : Cond.selects "java/lang/IllegalStateException" ⟨"java/lang/Throwable", "fillInStackTrace", "(I)Ljava/lang/Throwable;"⟩ ⟨"java/lang/Throwable", "fillInStackTrace", "(I)Ljava/lang/Throwable;"⟩ ∈ gw_l := gw_t 192 (by decide +kernel) rfl
theorem wd_193 : Cond.selects "java/lang/IllegalStateException" ⟨"java/lang/Throwable", "fillInStackTrace", "()Ljava/lang/Throwable;"⟩ ⟨"java/lang/Throwable", "fillInStackTrace", "()Ljava/lang/Throwable;"⟩ ∈ gw_l := gw_t 193 (by decide +kernel) rfl
theorem wd_194 : Cond.lays "java/lang/IllegalStateException" "java/lang/Throwable" "cause" "Ljava/lang/Throwable;" ∈ gw_l := gw_t 194 (by decide +kernel) rfl
theorem wd_195 : Cond.lays "java/lang/Throwable" "java/lang/Throwable" "cause" "Ljava/lang/Throwable;" ∈ gw_l := gw_t 195 (by decide +kernel) rfl
theorem wd_196 : Cond.lays "java/lang/IllegalStateException" "java/lang/Throwable" "stackTrace" "[Ljava/lang/StackTraceElement;" ∈ gw_l := gw_t 196 (by decide +kernel) rfl
theorem wd_197 : Cond.lays "java/lang/Throwable" "java/lang/Throwable" "stackTrace" "[Ljava/lang/StackTraceElement;" ∈ gw_l := gw_t 197 (by decide +kernel) rfl
theorem wd_198 : Cond.lays "java/lang/IllegalStateException" "java/lang/Throwable" "suppressedExceptions" "Ljava/util/List;" ∈ gw_l := gw_t 198 (by decide +kernel) rfl
theorem wd_199 : Cond.lays "java/lang/Throwable" "java/lang/Throwable" "suppressedExceptions" "Ljava/util/List;" ∈ gw_l := gw_t 199 (by decide +kernel) rfl
theorem wd_200 : Cond.lays "java/lang/IllegalStateException" "java/lang/Throwable" "detailMessage" "Ljava/lang/String;" ∈ gw_l := gw_t 200 (by decide +kernel) rfl
theorem wd_201 : Cond.lays "java/lang/Throwable" "java/lang/Throwable" "detailMessage" "Ljava/lang/String;" ∈ gw_l := gw_t 201 (by decide +kernel) rfl
theorem wd_202 : Cond.lays "java/lang/IllegalStateException" "java/lang/Throwable" "backtrace" "Ljava/lang/Object;" ∈ gw_l := gw_t 202 (by decide +kernel) rfl
theorem wd_203 : Cond.lays "java/lang/Throwable" "java/lang/Throwable" "backtrace" "Ljava/lang/Object;" ∈ gw_l := gw_t 203 (by decide +kernel) rfl
theorem wd_204 : Cond.fieldLink "java/lang/Throwable" 198 "java/lang/Throwable" "backtrace" "Ljava/lang/Object;" ∈ gw_l := gw_t 204 (by decide +kernel) rfl
theorem wd_206 : Cond.instanceMethod ⟨"java/lang/Throwable", "<init>", "()V"⟩ ∈ gw_l := gw_t 206 (by decide +kernel) rfl
theorem wd_208 : Cond.methodLink "java/lang/Throwable" 1 ⟨"java/lang/Object", "<init>", "()V"⟩ ∈ gw_l := gw_t 208 (by decide +kernel) rfl
theorem wd_209 : Cond.fieldLink "java/lang/Throwable" 13 "java/lang/Throwable" "UNASSIGNED_STACK" "[Ljava/lang/StackTraceElement;" ∈ gw_l := gw_t 209 (by decide +kernel) rfl
theorem wd_211 : Cond.fieldLink "java/lang/Throwable" 20 "java/lang/Throwable" "SUPPRESSED_SENTINEL" "Ljava/util/List;" ∈ gw_l := gw_t 211 (by decide +kernel) rfl
theorem wd_213 : Cond.methodLink "java/lang/Throwable" 27 ⟨"java/lang/Throwable", "fillInStackTrace", "()Ljava/lang/Throwable;"⟩ ∈ gw_l := gw_t 213 (by decide +kernel) rfl
theorem wd_214 : Cond.instanceMethod ⟨"java/lang/Throwable", "fillInStackTrace", "()Ljava/lang/Throwable;"⟩ ∈ gw_l := gw_t 214 (by decide +kernel) rfl
theorem wd_216 : Cond.selects "java/lang/IllegalArgumentException" ⟨"java/lang/Throwable", "fillInStackTrace", "()Ljava/lang/Throwable;"⟩ ⟨"java/lang/Throwable", "fillInStackTrace", "()Ljava/lang/Throwable;"⟩ ∈ gw_l := gw_t 216 (by decide +kernel) rfl
theorem wd_217 : Cond.selects "java/lang/IndexOutOfBoundsException" ⟨"java/lang/Throwable", "fillInStackTrace", "()Ljava/lang/Throwable;"⟩ ⟨"java/lang/Throwable", "fillInStackTrace", "()Ljava/lang/Throwable;"⟩ ∈ gw_l := gw_t 217 (by decide +kernel) rfl
theorem wd_219 : Cond.methodLink "java/lang/Throwable" 202 ⟨"java/lang/Throwable", "fillInStackTrace", "(I)Ljava/lang/Throwable;"⟩ ∈ gw_l := gw_t 219 (by decide +kernel) rfl
theorem wd_221 : Cond.instanceMethod ⟨"java/lang/Throwable", "fillInStackTrace", "(I)Ljava/lang/Throwable;"⟩ ∈ gw_l := gw_t 221 (by decide +kernel) rfl
theorem wd_222 : Cond.instantiable "java/lang/Throwable" 6 ∈ gw_l := gw_t 222 (by decide +kernel) rfl
theorem wd_225 : Cond.methodLink "HingeTables" 132 ⟨"java/lang/IllegalStateException", "<init>", "(Ljava/lang/String;)V"⟩ ∈ gw_l := gw_t 225 (by decide +kernel) rfl
theorem wd_226 : Cond.instanceMethod ⟨"java/lang/IllegalStateException", "<init>", "(Ljava/lang/String;)V"⟩ ∈ gw_l := gw_t 226 (by decide +kernel) rfl
theorem wd_228 : Cond.methodLink "java/lang/IllegalStateException" 7 ⟨"java/lang/RuntimeException", "<init>", "(Ljava/lang/String;)V"⟩ ∈ gw_l := gw_t 228 (by decide +kernel) rfl
theorem wd_229 : Cond.instanceMethod ⟨"java/lang/RuntimeException", "<init>", "(Ljava/lang/String;)V"⟩ ∈ gw_l := gw_t 229 (by decide +kernel) rfl
theorem wd_231 : Cond.methodLink "java/lang/RuntimeException" 7 ⟨"java/lang/Exception", "<init>", "(Ljava/lang/String;)V"⟩ ∈ gw_l := gw_t 231 (by decide +kernel) rfl
theorem wd_232 : Cond.instanceMethod ⟨"java/lang/Exception", "<init>", "(Ljava/lang/String;)V"⟩ ∈ gw_l := gw_t 232 (by decide +kernel) rfl
theorem wd_234 : Cond.methodLink "java/lang/Exception" 7 ⟨"java/lang/Throwable", "<init>", "(Ljava/lang/String;)V"⟩ ∈ gw_l := gw_t 234 (by decide +kernel) rfl
theorem wd_235 : Cond.instanceMethod ⟨"java/lang/Throwable", "<init>", "(Ljava/lang/String;)V"⟩ ∈ gw_l := gw_t 235 (by decide +kernel) rfl
theorem wd_237 : Cond.fieldLink "java/lang/Throwable" 198 "java/lang/Throwable" "backtrace" "Ljava/lang/Object;" ∈ gw_l := gw_t 237 (by decide +kernel) rfl
theorem wd_238 : Cond.fieldLink "java/lang/Throwable" 31 "java/lang/Throwable" "detailMessage" "Ljava/lang/String;" ∈ gw_l := gw_t 238 (by decide +kernel) rfl
theorem wd_239 : Cond.fieldLink "java/lang/Throwable" 7 "java/lang/Throwable" "cause" "Ljava/lang/Throwable;" ∈ gw_l := gw_t 239 (by decide +kernel) rfl
theorem wd_240 : Cond.fieldLink "java/lang/Throwable" 17 "java/lang/Throwable" "stackTrace" "[Ljava/lang/StackTraceElement;" ∈ gw_l := gw_t 240 (by decide +kernel) rfl
theorem wd_241 : Cond.fieldLink "java/lang/Throwable" 24 "java/lang/Throwable" "suppressedExceptions" "Ljava/util/List;" ∈ gw_l := gw_t 241 (by decide +kernel) rfl
theorem wd_246 : Cond.lays "java/lang/IllegalStateException" "java/lang/Throwable" "depth" "I" ∈ gw_l := gw_t 246 (by decide +kernel) rfl
theorem wd_250 : Cond.arrayClass .byte ∈ gw_l := gw_t 250 (by decide +kernel) rfl
theorem wd_251 : Cond.methodLink "HingeTables" 54 my_K_needRow ∈ gw_l := gw_t 251 (by decide +kernel) rfl
theorem wd_253 : Cond.instanceMethod my_K_needRow ∈ gw_l := gw_t 253 (by decide +kernel) rfl
theorem wd_254 : Cond.code my_K_needRow mb_K_needRow 2 none ∈ gw_l := gw_t 254 (by decide +kernel) rfl
theorem wd_255 : Cond.classLink "HingeTables" 66 "java/lang/IndexOutOfBoundsException" ∈ gw_l := gw_t 255 (by decide +kernel) rfl
theorem wd_256 : Cond.instantiable "java/lang/IndexOutOfBoundsException" 6 ∈ gw_l := gw_t 256 (by decide +kernel) rfl
theorem wd_258 : Cond.selects "java/lang/IndexOutOfBoundsException" ⟨"java/lang/Throwable", "fillInStackTrace", "(I)Ljava/lang/Throwable;"⟩ ⟨"java/lang/Throwable", "fillInStackTrace", "(I)Ljava/lang/Throwable;"⟩ ∈ gw_l := gw_t 258 (by decide +kernel) rfl
theorem wd_259 : Cond.lays "java/lang/IndexOutOfBoundsException" "java/lang/Throwable" "cause" "Ljava/lang/Throwable;" ∈ gw_l := gw_t 259 (by decide +kernel) rfl
theorem wd_260 : Cond.lays "java/lang/IndexOutOfBoundsException" "java/lang/Throwable" "stackTrace" "[Ljava/lang/StackTraceElement;" ∈ gw_l := gw_t 260 (by decide +kernel) rfl
theorem wd_261 : Cond.lays "java/lang/IndexOutOfBoundsException" "java/lang/Throwable" "suppressedExceptions" "Ljava/util/List;" ∈ gw_l := gw_t 261 (by decide +kernel) rfl
theorem wd_262 : Cond.lays "java/lang/IndexOutOfBoundsException" "java/lang/Throwable" "detailMessage" "Ljava/lang/String;" ∈ gw_l := gw_t 262 (by decide +kernel) rfl
theorem wd_263 : Cond.lays "java/lang/IndexOutOfBoundsException" "java/lang/Throwable" "backtrace" "Ljava/lang/Object;" ∈ gw_l := gw_t 263 (by decide +kernel) rfl
theorem wd_265 : Cond.methodLink "HingeTables" 70 ⟨"java/lang/IndexOutOfBoundsException", "<init>", "(Ljava/lang/String;)V"⟩ ∈ gw_l := gw_t 265 (by decide +kernel) rfl
theorem wd_266 : Cond.instanceMethod ⟨"java/lang/IndexOutOfBoundsException", "<init>", "(Ljava/lang/String;)V"⟩ ∈ gw_l := gw_t 266 (by decide +kernel) rfl
theorem wd_268 : Cond.methodLink "java/lang/IndexOutOfBoundsException" 7 ⟨"java/lang/RuntimeException", "<init>", "(Ljava/lang/String;)V"⟩ ∈ gw_l := gw_t 268 (by decide +kernel) rfl
theorem wd_269 : Cond.lays "java/lang/IndexOutOfBoundsException" "java/lang/Throwable" "depth" "I" ∈ gw_l := gw_t 269 (by decide +kernel) rfl
theorem wd_271 : Cond.methodLink "HingeTables" 58 my_T_letter ∈ gw_l := gw_t 271 (by decide +kernel) rfl
theorem wd_272 : Cond.instanceMethod my_T_letter ∈ gw_l := gw_t 272 (by decide +kernel) rfl
theorem wd_273 : Cond.selects "HingeTables$Table" my_T_letter my_T_letter ∈ gw_l := gw_t 273 (by decide +kernel) rfl
theorem wd_274 : Cond.code my_T_letter mb_T_letter 2 (some .char) ∈ gw_l := gw_t 274 (by decide +kernel) rfl
theorem wd_275 : Cond.methodLink "HingeTables" 62 my_K_numbersBehind ∈ gw_l := gw_t 275 (by decide +kernel) rfl
theorem wd_277 : Cond.methodLink "HingeTables" 73 my_T_number ∈ gw_l := gw_t 277 (by decide +kernel) rfl
theorem wd_278 : Cond.methodLink "HingeTablesLaw" 91 my_L_stock ∈ gw_l := gw_t 278 (by decide +kernel) rfl
theorem wd_279 : Cond.static my_L_stock ∈ gw_l := gw_t 279 (by decide +kernel) rfl
theorem wd_281 : Cond.classLink "HingeTablesLaw" 21 "java/lang/IllegalArgumentException" ∈ gw_l := gw_t 281 (by decide +kernel) rfl
theorem wd_282 : Cond.methodLink "HingeTablesLaw" 17 my_K_stock ∈ gw_l := gw_t 282 (by decide +kernel) rfl
theorem wd_283 : Cond.instanceMethod my_K_stock ∈ gw_l := gw_t 283 (by decide +kernel) rfl
theorem wd_284 : Cond.selects "HingeTables" my_K_stock my_K_stock ∈ gw_l := gw_t 284 (by decide +kernel) rfl
theorem wd_285 : Cond.code my_K_stock mb_K_stock 3 (some .boolean) ∈ gw_l := gw_t 285 (by decide +kernel) rfl
theorem wd_286 : Cond.classLink "HingeTables" 77 "java/lang/IllegalArgumentException" ∈ gw_l := gw_t 286 (by decide +kernel) rfl
theorem wd_287 : Cond.instantiable "java/lang/IllegalArgumentException" 6 ∈ gw_l := gw_t 287 (by decide +kernel) rfl
theorem wd_289 : Cond.selects "java/lang/IllegalArgumentException" ⟨"java/lang/Throwable", "fillInStackTrace", "(I)Ljava/lang/Throwable;"⟩ ⟨"java/lang/Throwable", "fillInStackTrace", "(I)Ljava/lang/Throwable;"⟩ ∈ gw_l := gw_t 289 (by decide +kernel) rfl
theorem wd_290 : Cond.lays "java/lang/IllegalArgumentException" "java/lang/Throwable" "cause" "Ljava/lang/Throwable;" ∈ gw_l := gw_t 290 (by decide +kernel) rfl
theorem wd_291 : Cond.lays "java/lang/IllegalArgumentException" "java/lang/Throwable" "stackTrace" "[Ljava/lang/StackTraceElement;" ∈ gw_l := gw_t 291 (by decide +kernel) rfl
theorem wd_292 : Cond.lays "java/lang/IllegalArgumentException" "java/lang/Throwable" "suppressedExceptions" "Ljava/util/List;" ∈ gw_l := gw_t 292 (by decide +kernel) rfl
theorem wd_293 : Cond.lays "java/lang/IllegalArgumentException" "java/lang/Throwable" "detailMessage" "Ljava/lang/String;" ∈ gw_l := gw_t 293 (by decide +kernel) rfl
theorem wd_294 : Cond.lays "java/lang/IllegalArgumentException" "java/lang/Throwable" "backtrace" "Ljava/lang/Object;" ∈ gw_l := gw_t 294 (by decide +kernel) rfl
theorem wd_296 : Cond.methodLink "HingeTables" 81 ⟨"java/lang/IllegalArgumentException", "<init>", "(Ljava/lang/String;)V"⟩ ∈ gw_l := gw_t 296 (by decide +kernel) rfl
theorem wd_297 : Cond.instanceMethod ⟨"java/lang/IllegalArgumentException", "<init>", "(Ljava/lang/String;)V"⟩ ∈ gw_l := gw_t 297 (by decide +kernel) rfl
theorem wd_299 : Cond.methodLink "java/lang/IllegalArgumentException" 7 ⟨"java/lang/RuntimeException", "<init>", "(Ljava/lang/String;)V"⟩ ∈ gw_l := gw_t 299 (by decide +kernel) rfl
theorem wd_300 : Cond.lays "java/lang/IllegalArgumentException" "java/lang/Throwable" "depth" "I" ∈ gw_l := gw_t 300 (by decide +kernel) rfl
theorem wd_302 : Cond.methodLink "HingeTables" 82 my_T_changeStock ∈ gw_l := gw_t 302 (by decide +kernel) rfl
theorem wd_303 : Cond.instanceMethod my_T_changeStock ∈ gw_l := gw_t 303 (by decide +kernel) rfl
theorem wd_304 : Cond.selects "HingeTables$Table" my_T_changeStock my_T_changeStock ∈ gw_l := gw_t 304 (by decide +kernel) rfl
theorem wd_305 : Cond.code my_T_changeStock mb_T_changeStock 4 (some .boolean) ∈ gw_l := gw_t 305 (by decide +kernel) rfl
theorem wd_306 : Cond.methodLink "HingeTablesLaw" 96 my_L_hinge ∈ gw_l := gw_t 306 (by decide +kernel) rfl
theorem wd_307 : Cond.static my_L_hinge ∈ gw_l := gw_t 307 (by decide +kernel) rfl
theorem wd_309 : Cond.methodLink "HingeTablesLaw" 23 my_K_hinge ∈ gw_l := gw_t 309 (by decide +kernel) rfl
theorem wd_310 : Cond.instanceMethod my_K_hinge ∈ gw_l := gw_t 310 (by decide +kernel) rfl
theorem wd_311 : Cond.selects "HingeTables" my_K_hinge my_K_hinge ∈ gw_l := gw_t 311 (by decide +kernel) rfl
theorem wd_312 : Cond.code my_K_hinge mb_K_hinge 6 (some .int) ∈ gw_l := gw_t 312 (by decide +kernel) rfl
theorem wd_313 : Cond.methodLink "HingeTables" 86 my_T_firstHinge ∈ gw_l := gw_t 313 (by decide +kernel) rfl
theorem wd_314 : Cond.instanceMethod my_T_firstHinge ∈ gw_l := gw_t 314 (by decide +kernel) rfl
theorem wd_315 : Cond.selects "HingeTables$Table" my_T_firstHinge my_T_firstHinge ∈ gw_l := gw_t 315 (by decide +kernel) rfl
theorem wd_316 : Cond.code my_T_firstHinge mb_T_firstHinge 7 (some .int) ∈ gw_l := gw_t 316 (by decide +kernel) rfl
theorem wd_317 : Cond.methodLink "HingeTables$Table" 67 my_T_isStocked ∈ gw_l := gw_t 317 (by decide +kernel) rfl
theorem wd_319 : Cond.instanceMethod my_T_isStocked ∈ gw_l := gw_t 319 (by decide +kernel) rfl
theorem wd_320 : Cond.code my_T_isStocked mb_T_isStocked 3 (some .boolean) ∈ gw_l := gw_t 320 (by decide +kernel) rfl
theorem wd_321 : Cond.methodLink "HingeTables$Table" 71 my_T_holds ∈ gw_l := gw_t 321 (by decide +kernel) rfl
theorem wd_323 : Cond.instanceMethod my_T_holds ∈ gw_l := gw_t 323 (by decide +kernel) rfl
theorem wd_324 : Cond.code my_T_holds mb_T_holds 7 (some .boolean) ∈ gw_l := gw_t 324 (by decide +kernel) rfl
theorem wd_325 : Cond.methodLink "HingeTablesLaw" 100 my_L_other ∈ gw_l := gw_t 325 (by decide +kernel) rfl
theorem wd_326 : Cond.static my_L_other ∈ gw_l := gw_t 326 (by decide +kernel) rfl
theorem wd_328 : Cond.methodLink "HingeTablesLaw" 27 my_K_other ∈ gw_l := gw_t 328 (by decide +kernel) rfl
theorem wd_329 : Cond.instanceMethod my_K_other ∈ gw_l := gw_t 329 (by decide +kernel) rfl
theorem wd_330 : Cond.selects "HingeTables" my_K_other my_K_other ∈ gw_l := gw_t 330 (by decide +kernel) rfl
theorem wd_331 : Cond.code my_K_other mb_K_other 3 (some .int) ∈ gw_l := gw_t 331 (by decide +kernel) rfl
theorem wd_334 : Cond.methodLink "HingeTables" 94 my_T_otherHinge ∈ gw_l := gw_t 334 (by decide +kernel) rfl
theorem wd_335 : Cond.instanceMethod my_T_otherHinge ∈ gw_l := gw_t 335 (by decide +kernel) rfl
theorem wd_336 : Cond.selects "HingeTables$Table" my_T_otherHinge my_T_otherHinge ∈ gw_l := gw_t 336 (by decide +kernel) rfl
theorem wd_337 : Cond.code my_T_otherHinge mb_T_otherHinge 5 (some .int) ∈ gw_l := gw_t 337 (by decide +kernel) rfl
theorem wd_338 : Cond.methodLink "HingeTables$Table" 75 my_T_canReplace ∈ gw_l := gw_t 338 (by decide +kernel) rfl
theorem wd_340 : Cond.instanceMethod my_T_canReplace ∈ gw_l := gw_t 340 (by decide +kernel) rfl
theorem wd_341 : Cond.code my_T_canReplace mb_T_canReplace 3 (some .boolean) ∈ gw_l := gw_t 341 (by decide +kernel) rfl
theorem wd_342 : Cond.methodLink "HingeTablesLaw" 103 my_L_slide ∈ gw_l := gw_t 342 (by decide +kernel) rfl
theorem wd_343 : Cond.static my_L_slide ∈ gw_l := gw_t 343 (by decide +kernel) rfl
theorem wd_345 : Cond.methodLink "HingeTablesLaw" 30 my_K_slide ∈ gw_l := gw_t 345 (by decide +kernel) rfl
theorem wd_346 : Cond.instanceMethod my_K_slide ∈ gw_l := gw_t 346 (by decide +kernel) rfl
theorem wd_347 : Cond.selects "HingeTables" my_K_slide my_K_slide ∈ gw_l := gw_t 347 (by decide +kernel) rfl
theorem wd_348 : Cond.code my_K_slide mb_K_slide 3 (some .int) ∈ gw_l := gw_t 348 (by decide +kernel) rfl
theorem wd_349 : Cond.methodLink "HingeTables" 97 my_T_longestSlide ∈ gw_l := gw_t 349 (by decide +kernel) rfl
theorem wd_350 : Cond.instanceMethod my_T_longestSlide ∈ gw_l := gw_t 350 (by decide +kernel) rfl
theorem wd_351 : Cond.selects "HingeTables$Table" my_T_longestSlide my_T_longestSlide ∈ gw_l := gw_t 351 (by decide +kernel) rfl
theorem wd_352 : Cond.code my_T_longestSlide mb_T_longestSlide 5 (some .int) ∈ gw_l := gw_t 352 (by decide +kernel) rfl
theorem wd_353 : Cond.methodLink "HingeTablesLaw" 107 my_L_door ∈ gw_l := gw_t 353 (by decide +kernel) rfl
theorem wd_354 : Cond.static my_L_door ∈ gw_l := gw_t 354 (by decide +kernel) rfl
theorem wd_356 : Cond.methodLink "HingeTablesLaw" 34 my_K_door ∈ gw_l := gw_t 356 (by decide +kernel) rfl
theorem wd_357 : Cond.instanceMethod my_K_door ∈ gw_l := gw_t 357 (by decide +kernel) rfl
theorem wd_358 : Cond.selects "HingeTables" my_K_door my_K_door ∈ gw_l := gw_t 358 (by decide +kernel) rfl
theorem wd_359 : Cond.code my_K_door mb_K_door 9 (some .boolean) ∈ gw_l := gw_t 359 (by decide +kernel) rfl
theorem wd_360 : Cond.methodLink "HingeTables" 101 my_K_isOfDoor ∈ gw_l := gw_t 360 (by decide +kernel) rfl
theorem wd_361 : Cond.static my_K_isOfDoor ∈ gw_l := gw_t 361 (by decide +kernel) rfl
theorem wd_362 : Cond.code my_K_isOfDoor mb_K_isOfDoor 2 (some .boolean) ∈ gw_l := gw_t 362 (by decide +kernel) rfl
theorem wd_363 : Cond.methodLink "HingeTables" 152 my_K_isWithin ∈ gw_l := gw_t 363 (by decide +kernel) rfl
theorem wd_364 : Cond.static my_K_isWithin ∈ gw_l := gw_t 364 (by decide +kernel) rfl
theorem wd_365 : Cond.code my_K_isWithin mb_K_isWithin 4 (some .boolean) ∈ gw_l := gw_t 365 (by decide +kernel) rfl
theorem wd_367 : Cond.methodLink "HingeTables" 107 my_D_change ∈ gw_l := gw_t 367 (by decide +kernel) rfl
theorem wd_368 : Cond.instanceMethod my_D_change ∈ gw_l := gw_t 368 (by decide +kernel) rfl
theorem wd_369 : Cond.selects "HingeTables$Door" my_D_change my_D_change ∈ gw_l := gw_t 369 (by decide +kernel) rfl
theorem wd_370 : Cond.code my_D_change mb_D_change 10 (some .boolean) ∈ gw_l := gw_t 370 (by decide +kernel) rfl
theorem wd_371 : Cond.methodLink "HingeTablesLaw" 111 my_L_weight ∈ gw_l := gw_t 371 (by decide +kernel) rfl
theorem wd_372 : Cond.static my_L_weight ∈ gw_l := gw_t 372 (by decide +kernel) rfl
theorem wd_374 : Cond.methodLink "HingeTablesLaw" 38 my_K_weight ∈ gw_l := gw_t 374 (by decide +kernel) rfl
theorem wd_375 : Cond.instanceMethod my_K_weight ∈ gw_l := gw_t 375 (by decide +kernel) rfl
theorem wd_376 : Cond.selects "HingeTables" my_K_weight my_K_weight ∈ gw_l := gw_t 376 (by decide +kernel) rfl
theorem wd_377 : Cond.code my_K_weight mb_K_weight 2 (some .long) ∈ gw_l := gw_t 377 (by decide +kernel) rfl
theorem wd_378 : Cond.methodLink "HingeTables" 111 my_K_needPart ∈ gw_l := gw_t 378 (by decide +kernel) rfl
theorem wd_379 : Cond.static my_K_needPart ∈ gw_l := gw_t 379 (by decide +kernel) rfl
theorem wd_380 : Cond.code my_K_needPart mb_K_needPart 1 none ∈ gw_l := gw_t 380 (by decide +kernel) rfl
theorem wd_382 : Cond.methodLink "HingeTables" 114 my_D_millionWeights ∈ gw_l := gw_t 382 (by decide +kernel) rfl
theorem wd_383 : Cond.instanceMethod my_D_millionWeights ∈ gw_l := gw_t 383 (by decide +kernel) rfl
theorem wd_384 : Cond.selects "HingeTables$Door" my_D_millionWeights my_D_millionWeights ∈ gw_l := gw_t 384 (by decide +kernel) rfl
theorem wd_385 : Cond.code my_D_millionWeights mb_D_millionWeights 1 (some .long) ∈ gw_l := gw_t 385 (by decide +kernel) rfl
theorem wd_386 : Cond.constantLong "HingeTables" 118 1000000 ∈ gw_l := gw_t 386 (by decide +kernel) rfl
theorem wd_387 : Cond.methodLink "HingeTables" 120 my_K_partOfFraction ∈ gw_l := gw_t 387 (by decide +kernel) rfl
theorem wd_388 : Cond.static my_K_partOfFraction ∈ gw_l := gw_t 388 (by decide +kernel) rfl
theorem wd_389 : Cond.code my_K_partOfFraction mb_K_partOfFraction 9 (some .long) ∈ gw_l := gw_t 389 (by decide +kernel) rfl
theorem wd_390 : Cond.methodLink "HingeTables" 198 my_K_commonDivisor ∈ gw_l := gw_t 390 (by decide +kernel) rfl
theorem wd_391 : Cond.static my_K_commonDivisor ∈ gw_l := gw_t 391 (by decide +kernel) rfl
theorem wd_392 : Cond.code my_K_commonDivisor mb_K_commonDivisor 11 (some .long) ∈ gw_l := gw_t 392 (by decide +kernel) rfl
theorem wd_393 : Cond.methodLink "HingeTablesLaw" 115 my_L_count ∈ gw_l := gw_t 393 (by decide +kernel) rfl
theorem wd_394 : Cond.static my_L_count ∈ gw_l := gw_t 394 (by decide +kernel) rfl
theorem wd_396 : Cond.methodLink "HingeTablesLaw" 42 my_K_count ∈ gw_l := gw_t 396 (by decide +kernel) rfl
theorem wd_397 : Cond.instanceMethod my_K_count ∈ gw_l := gw_t 397 (by decide +kernel) rfl
theorem wd_398 : Cond.selects "HingeTables" my_K_count my_K_count ∈ gw_l := gw_t 398 (by decide +kernel) rfl
theorem wd_399 : Cond.code my_K_count mb_K_count 1 (some .int) ∈ gw_l := gw_t 399 (by decide +kernel) rfl
theorem wd_400 : Cond.methodLink "HingeTables" 124 my_T_hingesOf ∈ gw_l := gw_t 400 (by decide +kernel) rfl
theorem wd_401 : Cond.instanceMethod my_T_hingesOf ∈ gw_l := gw_t 401 (by decide +kernel) rfl
theorem wd_402 : Cond.selects "HingeTables$Table" my_T_hingesOf my_T_hingesOf ∈ gw_l := gw_t 402 (by decide +kernel) rfl
theorem wd_403 : Cond.code my_T_hingesOf mb_T_hingesOf 3 (some .int) ∈ gw_l := gw_t 403 (by decide +kernel) rfl
theorem wd_404 : Cond.constantLong "HingeTables$Table" 85 1000 ∈ gw_l := gw_t 404 (by decide +kernel) rfl
theorem wd_405 : Cond.constantLong "HingeTables$Table" 87 1000000 ∈ gw_l := gw_t 405 (by decide +kernel) rfl
theorem wd_406 : Cond.methodLink "HingeTables$Table" 89 my_D_millionWeights ∈ gw_l := gw_t 406 (by decide +kernel) rfl
theorem wd_407 : Cond.methodLink "HingeTablesLaw" 119 my_L_place ∈ gw_l := gw_t 407 (by decide +kernel) rfl
theorem wd_408 : Cond.static my_L_place ∈ gw_l := gw_t 408 (by decide +kernel) rfl
theorem wd_410 : Cond.methodLink "HingeTablesLaw" 46 my_K_place ∈ gw_l := gw_t 410 (by decide +kernel) rfl
theorem wd_411 : Cond.instanceMethod my_K_place ∈ gw_l := gw_t 411 (by decide +kernel) rfl
theorem wd_412 : Cond.selects "HingeTables" my_K_place my_K_place ∈ gw_l := gw_t 412 (by decide +kernel) rfl
theorem wd_413 : Cond.code my_K_place mb_K_place 4 (some .long) ∈ gw_l := gw_t 413 (by decide +kernel) rfl
theorem wd_416 : Cond.constantLong "HingeTables" 139 2 ∈ gw_l := gw_t 416 (by decide +kernel) rfl
theorem wd_417 : Cond.methodLink "HingeTables" 141 my_D_placeNumerator ∈ gw_l := gw_t 417 (by decide +kernel) rfl
theorem wd_418 : Cond.instanceMethod my_D_placeNumerator ∈ gw_l := gw_t 418 (by decide +kernel) rfl
theorem wd_419 : Cond.selects "HingeTables$Door" my_D_placeNumerator my_D_placeNumerator ∈ gw_l := gw_t 419 (by decide +kernel) rfl
theorem wd_420 : Cond.code my_D_placeNumerator mb_D_placeNumerator 5 (some .long) ∈ gw_l := gw_t 420 (by decide +kernel) rfl
theorem wd_421 : Cond.constantLong "HingeTables$Door" 30 320 ∈ gw_l := gw_t 421 (by decide +kernel) rfl
theorem wd_422 : Cond.methodLink "HingeTables$Door" 32 ⟨"java/lang/Math", "min", "(JJ)J"⟩ ∈ gw_l := gw_t 422 (by decide +kernel) rfl
theorem wd_423 : Cond.static ⟨"java/lang/Math", "min", "(JJ)J"⟩ ∈ gw_l := gw_t 423 (by decide +kernel) rfl
theorem wd_425 : Cond.constantLong "HingeTables$Door" 38 4 ∈ gw_l := gw_t 425 (by decide +kernel) rfl
theorem wd_426 : Cond.constantLong "HingeTables$Door" 40 2 ∈ gw_l := gw_t 426 (by decide +kernel) rfl
theorem wd_427 : Cond.constantLong "HingeTables" 145 4 ∈ gw_l := gw_t 427 (by decide +kernel) rfl
theorem wd_428 : Cond.methodLink "HingeTablesLaw" 122 my_L_hole ∈ gw_l := gw_t 428 (by decide +kernel) rfl
theorem wd_429 : Cond.static my_L_hole ∈ gw_l := gw_t 429 (by decide +kernel) rfl
theorem wd_431 : Cond.methodLink "HingeTablesLaw" 50 my_K_hole ∈ gw_l := gw_t 431 (by decide +kernel) rfl
theorem wd_432 : Cond.instanceMethod my_K_hole ∈ gw_l := gw_t 432 (by decide +kernel) rfl
theorem wd_433 : Cond.selects "HingeTables" my_K_hole my_K_hole ∈ gw_l := gw_t 433 (by decide +kernel) rfl
theorem wd_434 : Cond.code my_K_hole mb_K_hole 8 (some .boolean) ∈ gw_l := gw_t 434 (by decide +kernel) rfl
theorem wd_435 : Cond.methodLink "HingeTables" 147 my_K_needHole ∈ gw_l := gw_t 435 (by decide +kernel) rfl
theorem wd_436 : Cond.static my_K_needHole ∈ gw_l := gw_t 436 (by decide +kernel) rfl
theorem wd_437 : Cond.code my_K_needHole mb_K_needHole 1 none ∈ gw_l := gw_t 437 (by decide +kernel) rfl
theorem wd_439 : Cond.constant "HingeTables" 150 (-100000) ∈ gw_l := gw_t 439 (by decide +kernel) rfl
theorem wd_440 : Cond.constant "HingeTables" 151 100000 ∈ gw_l := gw_t 440 (by decide +kernel) rfl
theorem wd_442 : Cond.methodLink "HingeTables" 158 my_H_change ∈ gw_l := gw_t 442 (by decide +kernel) rfl
theorem wd_443 : Cond.instanceMethod my_H_change ∈ gw_l := gw_t 443 (by decide +kernel) rfl
theorem wd_444 : Cond.selects "HingeTables$Holes" my_H_change my_H_change ∈ gw_l := gw_t 444 (by decide +kernel) rfl
theorem wd_445 : Cond.code my_H_change mb_H_change 11 (some .boolean) ∈ gw_l := gw_t 445 (by decide +kernel) rfl
theorem wd_446 : Cond.methodLink "HingeTablesLaw" 126 my_L_meet ∈ gw_l := gw_t 446 (by decide +kernel) rfl
theorem wd_447 : Cond.static my_L_meet ∈ gw_l := gw_t 447 (by decide +kernel) rfl
theorem wd_449 : Cond.methodLink "HingeTablesLaw" 54 my_K_meet ∈ gw_l := gw_t 449 (by decide +kernel) rfl
theorem wd_450 : Cond.instanceMethod my_K_meet ∈ gw_l := gw_t 450 (by decide +kernel) rfl
theorem wd_451 : Cond.selects "HingeTables" my_K_meet my_K_meet ∈ gw_l := gw_t 451 (by decide +kernel) rfl
theorem wd_452 : Cond.code my_K_meet mb_K_meet 3 (some .boolean) ∈ gw_l := gw_t 452 (by decide +kernel) rfl
theorem wd_453 : Cond.methodLink "HingeTables" 161 my_H_overlap ∈ gw_l := gw_t 453 (by decide +kernel) rfl
theorem wd_454 : Cond.instanceMethod my_H_overlap ∈ gw_l := gw_t 454 (by decide +kernel) rfl
theorem wd_455 : Cond.selects "HingeTables$Holes" my_H_overlap my_H_overlap ∈ gw_l := gw_t 455 (by decide +kernel) rfl
theorem wd_456 : Cond.code my_H_overlap mb_H_overlap 9 (some .boolean) ∈ gw_l := gw_t 456 (by decide +kernel) rfl
theorem wd_457 : Cond.methodLink "HingeTablesLaw" 129 my_L_pair ∈ gw_l := gw_t 457 (by decide +kernel) rfl
theorem wd_458 : Cond.static my_L_pair ∈ gw_l := gw_t 458 (by decide +kernel) rfl
theorem wd_460 : Cond.methodLink "HingeTablesLaw" 57 my_K_pair ∈ gw_l := gw_t 460 (by decide +kernel) rfl
theorem wd_461 : Cond.instanceMethod my_K_pair ∈ gw_l := gw_t 461 (by decide +kernel) rfl
theorem wd_462 : Cond.selects "HingeTables" my_K_pair my_K_pair ∈ gw_l := gw_t 462 (by decide +kernel) rfl
theorem wd_463 : Cond.code my_K_pair mb_K_pair 2 (some .int) ∈ gw_l := gw_t 463 (by decide +kernel) rfl
theorem wd_464 : Cond.methodLink "HingeTables" 164 my_H_overlappingPair ∈ gw_l := gw_t 464 (by decide +kernel) rfl
theorem wd_465 : Cond.instanceMethod my_H_overlappingPair ∈ gw_l := gw_t 465 (by decide +kernel) rfl
theorem wd_466 : Cond.selects "HingeTables$Holes" my_H_overlappingPair my_H_overlappingPair ∈ gw_l := gw_t 466 (by decide +kernel) rfl
theorem wd_467 : Cond.code my_H_overlappingPair mb_H_overlappingPair 5 (some .int) ∈ gw_l := gw_t 467 (by decide +kernel) rfl
theorem wd_468 : Cond.methodLink "HingeTables$Holes" 21 my_H_overlap ∈ gw_l := gw_t 468 (by decide +kernel) rfl
theorem wd_469 : Cond.methodLink "HingeTablesLaw" 132 my_L_wall ∈ gw_l := gw_t 469 (by decide +kernel) rfl
theorem wd_470 : Cond.static my_L_wall ∈ gw_l := gw_t 470 (by decide +kernel) rfl
theorem wd_472 : Cond.methodLink "HingeTablesLaw" 61 my_K_wall ∈ gw_l := gw_t 472 (by decide +kernel) rfl
theorem wd_473 : Cond.instanceMethod my_K_wall ∈ gw_l := gw_t 473 (by decide +kernel) rfl
theorem wd_474 : Cond.selects "HingeTables" my_K_wall my_K_wall ∈ gw_l := gw_t 474 (by decide +kernel) rfl
theorem wd_475 : Cond.code my_K_wall mb_K_wall 4 (some .int) ∈ gw_l := gw_t 475 (by decide +kernel) rfl
theorem wd_477 : Cond.methodLink "HingeTables" 170 my_D_leastX ∈ gw_l := gw_t 477 (by decide +kernel) rfl
theorem wd_478 : Cond.instanceMethod my_D_leastX ∈ gw_l := gw_t 478 (by decide +kernel) rfl
theorem wd_479 : Cond.selects "HingeTables$Door" my_D_leastX my_D_leastX ∈ gw_l := gw_t 479 (by decide +kernel) rfl
theorem wd_480 : Cond.code my_D_leastX mb_D_leastX 5 (some .long) ∈ gw_l := gw_t 480 (by decide +kernel) rfl
theorem wd_481 : Cond.methodLink "HingeTables$Door" 56 my_D_turnedX ∈ gw_l := gw_t 481 (by decide +kernel) rfl
theorem wd_482 : Cond.instanceMethod my_D_turnedX ∈ gw_l := gw_t 482 (by decide +kernel) rfl
theorem wd_483 : Cond.selects "HingeTables$Door" my_D_turnedX my_D_turnedX ∈ gw_l := gw_t 483 (by decide +kernel) rfl
theorem wd_484 : Cond.code my_D_turnedX mb_D_turnedX 3 (some .long) ∈ gw_l := gw_t 484 (by decide +kernel) rfl
theorem wd_485 : Cond.methodLink "HingeTables$Door" 42 my_D_shutX ∈ gw_l := gw_t 485 (by decide +kernel) rfl
theorem wd_487 : Cond.instanceMethod my_D_shutX ∈ gw_l := gw_t 487 (by decide +kernel) rfl
theorem wd_488 : Cond.code my_D_shutX mb_D_shutX 2 (some .long) ∈ gw_l := gw_t 488 (by decide +kernel) rfl
theorem wd_491 : Cond.methodLink "HingeTables$Door" 50 my_D_shutY ∈ gw_l := gw_t 491 (by decide +kernel) rfl
theorem wd_493 : Cond.instanceMethod my_D_shutY ∈ gw_l := gw_t 493 (by decide +kernel) rfl
theorem wd_494 : Cond.code my_D_shutY mb_D_shutY 2 (some .long) ∈ gw_l := gw_t 494 (by decide +kernel) rfl
theorem wd_497 : Cond.constantLong "HingeTables" 174 65 ∈ gw_l := gw_t 497 (by decide +kernel) rfl
theorem wd_498 : Cond.methodLink "HingeTablesLaw" 135 my_L_corner ∈ gw_l := gw_t 498 (by decide +kernel) rfl
theorem wd_499 : Cond.static my_L_corner ∈ gw_l := gw_t 499 (by decide +kernel) rfl
theorem wd_501 : Cond.methodLink "HingeTablesLaw" 64 my_K_corner ∈ gw_l := gw_t 501 (by decide +kernel) rfl
theorem wd_502 : Cond.instanceMethod my_K_corner ∈ gw_l := gw_t 502 (by decide +kernel) rfl
theorem wd_503 : Cond.selects "HingeTables" my_K_corner my_K_corner ∈ gw_l := gw_t 503 (by decide +kernel) rfl
theorem wd_504 : Cond.code my_K_corner mb_K_corner 4 (some .long) ∈ gw_l := gw_t 504 (by decide +kernel) rfl
theorem wd_506 : Cond.methodLink "HingeTables" 178 my_D_turnedX ∈ gw_l := gw_t 506 (by decide +kernel) rfl
theorem wd_507 : Cond.methodLink "HingeTables" 181 my_D_turnedY ∈ gw_l := gw_t 507 (by decide +kernel) rfl
theorem wd_508 : Cond.instanceMethod my_D_turnedY ∈ gw_l := gw_t 508 (by decide +kernel) rfl
theorem wd_509 : Cond.selects "HingeTables$Door" my_D_turnedY my_D_turnedY ∈ gw_l := gw_t 509 (by decide +kernel) rfl
theorem wd_510 : Cond.code my_D_turnedY mb_D_turnedY 3 (some .long) ∈ gw_l := gw_t 510 (by decide +kernel) rfl
theorem wd_511 : Cond.methodLink "HingeTablesLaw" 139 my_L_rows32 ∈ gw_l := gw_t 511 (by decide +kernel) rfl
theorem wd_512 : Cond.static my_L_rows32 ∈ gw_l := gw_t 512 (by decide +kernel) rfl
theorem wd_514 : Cond.methodLink "HingeTablesLaw" 68 my_K_rows32 ∈ gw_l := gw_t 514 (by decide +kernel) rfl
theorem wd_515 : Cond.instanceMethod my_K_rows32 ∈ gw_l := gw_t 515 (by decide +kernel) rfl
theorem wd_516 : Cond.selects "HingeTables" my_K_rows32 my_K_rows32 ∈ gw_l := gw_t 516 (by decide +kernel) rfl
theorem wd_517 : Cond.code my_K_rows32 mb_K_rows32 6 (some .int) ∈ gw_l := gw_t 517 (by decide +kernel) rfl
theorem wd_519 : Cond.classLink "HingeTablesLaw" 73 "HingeTablesModel" ∈ gw_l := gw_t 519 (by decide +kernel) rfl
theorem wd_520 : Cond.instantiable "HingeTablesModel" 18 ∈ gw_l := gw_t 520 (by decide +kernel) rfl
theorem wd_521 : Cond.methodLink "HingeTablesLaw" 75 my_M_init ∈ gw_l := gw_t 521 (by decide +kernel) rfl
theorem wd_522 : Cond.instanceMethod my_M_init ∈ gw_l := gw_t 522 (by decide +kernel) rfl
theorem wd_523 : Cond.code my_M_init mb_M_init 2 none ∈ gw_l := gw_t 523 (by decide +kernel) rfl
theorem wd_524 : Cond.methodLink "HingeTablesModel" 1 ⟨"java/lang/Object", "<init>", "()V"⟩ ∈ gw_l := gw_t 524 (by decide +kernel) rfl
theorem wd_525 : Cond.constantLong "HingeTablesModel" 22 400 ∈ gw_l := gw_t 525 (by decide +kernel) rfl
theorem wd_526 : Cond.constantLong "HingeTablesModel" 28 700 ∈ gw_l := gw_t 526 (by decide +kernel) rfl
theorem wd_527 : Cond.constantLong "HingeTablesModel" 33 19 ∈ gw_l := gw_t 527 (by decide +kernel) rfl
theorem wd_528 : Cond.methodLink "HingeTablesModel" 57 my_M_turn ∈ gw_l := gw_t 528 (by decide +kernel) rfl
theorem wd_530 : Cond.instanceMethod my_M_turn ∈ gw_l := gw_t 530 (by decide +kernel) rfl
theorem wd_531 : Cond.code my_M_turn mb_M_turn 4 none ∈ gw_l := gw_t 531 (by decide +kernel) rfl
theorem wd_532 : Cond.fieldLink "HingeTablesModel" 61 "HingeTablesModel" "code" "I" ∈ gw_l := gw_t 532 (by decide +kernel) rfl
theorem wd_533 : Cond.fieldLink "HingeTablesModel" 7 "HingeTablesModel" "typed" "[I" ∈ gw_l := gw_t 533 (by decide +kernel) rfl
theorem wd_534 : Cond.fieldLink "HingeTablesModel" 65 "HingeTablesModel" "size" "I" ∈ gw_l := gw_t 534 (by decide +kernel) rfl
theorem wd_535 : Cond.fieldLink "HingeTablesModel" 68 "HingeTablesModel" "at" "I" ∈ gw_l := gw_t 535 (by decide +kernel) rfl
theorem wd_536 : Cond.fieldLink "HingeTablesModel" 71 "HingeTablesModel" "failed" "I" ∈ gw_l := gw_t 536 (by decide +kernel) rfl
theorem wd_537 : Cond.fieldLink "HingeTablesModel" 98 "HingeTablesModel" "rows" "I" ∈ gw_l := gw_t 537 (by decide +kernel) rfl
theorem wd_538 : Cond.fieldLink "HingeTablesModel" 13 "HingeTablesModel" "told" "[I" ∈ gw_l := gw_t 538 (by decide +kernel) rfl
theorem wd_539 : Cond.fieldLink "HingeTablesModel" 16 "HingeTablesModel" "draft" "[I" ∈ gw_l := gw_t 539 (by decide +kernel) rfl
theorem wd_540 : Cond.fieldLink "HingeTablesModel" 19 "HingeTablesModel" "stocks" "[I" ∈ gw_l := gw_t 540 (by decide +kernel) rfl
theorem wd_541 : Cond.fieldLink "HingeTablesModel" 24 "HingeTablesModel" "width" "J" ∈ gw_l := gw_t 541 (by decide +kernel) rfl
theorem wd_542 : Cond.fieldLink "HingeTablesModel" 30 "HingeTablesModel" "height" "J" ∈ gw_l := gw_t 542 (by decide +kernel) rfl
theorem wd_543 : Cond.fieldLink "HingeTablesModel" 35 "HingeTablesModel" "thick" "J" ∈ gw_l := gw_t 543 (by decide +kernel) rfl
theorem wd_544 : Cond.fieldLink "HingeTablesModel" 38 "HingeTablesModel" "density" "J" ∈ gw_l := gw_t 544 (by decide +kernel) rfl
theorem wd_545 : Cond.fieldLink "HingeTablesModel" 41 "HingeTablesModel" "xs" "[J" ∈ gw_l := gw_t 545 (by decide +kernel) rfl
theorem wd_546 : Cond.fieldLink "HingeTablesModel" 45 "HingeTablesModel" "ys" "[J" ∈ gw_l := gw_t 546 (by decide +kernel) rfl
theorem wd_547 : Cond.fieldLink "HingeTablesModel" 48 "HingeTablesModel" "radii" "[J" ∈ gw_l := gw_t 547 (by decide +kernel) rfl
theorem wd_548 : Cond.fieldLink "HingeTablesModel" 51 "HingeTablesModel" "cosines" "[I" ∈ gw_l := gw_t 548 (by decide +kernel) rfl
theorem wd_549 : Cond.fieldLink "HingeTablesModel" 54 "HingeTablesModel" "sines" "[I" ∈ gw_l := gw_t 549 (by decide +kernel) rfl
theorem wd_550 : Cond.lays "HingeTablesModel" "HingeTablesModel" "code" "I" ∈ gw_l := gw_t 550 (by decide +kernel) rfl
theorem wd_552 : Cond.laysFinal "HingeTablesModel" "HingeTablesModel" "typed" "[I" ∈ gw_l := gw_t 552 (by decide +kernel) rfl
theorem wd_554 : Cond.lays "HingeTablesModel" "HingeTablesModel" "size" "I" ∈ gw_l := gw_t 554 (by decide +kernel) rfl
theorem wd_556 : Cond.lays "HingeTablesModel" "HingeTablesModel" "at" "I" ∈ gw_l := gw_t 556 (by decide +kernel) rfl
theorem wd_558 : Cond.lays "HingeTablesModel" "HingeTablesModel" "failed" "I" ∈ gw_l := gw_t 558 (by decide +kernel) rfl
theorem wd_560 : Cond.lays "HingeTablesModel" "HingeTablesModel" "rows" "I" ∈ gw_l := gw_t 560 (by decide +kernel) rfl
theorem wd_562 : Cond.laysFinal "HingeTablesModel" "HingeTablesModel" "told" "[I" ∈ gw_l := gw_t 562 (by decide +kernel) rfl
theorem wd_564 : Cond.laysFinal "HingeTablesModel" "HingeTablesModel" "draft" "[I" ∈ gw_l := gw_t 564 (by decide +kernel) rfl
theorem wd_566 : Cond.laysFinal "HingeTablesModel" "HingeTablesModel" "stocks" "[I" ∈ gw_l := gw_t 566 (by decide +kernel) rfl
theorem wd_568 : Cond.lays "HingeTablesModel" "HingeTablesModel" "width" "J" ∈ gw_l := gw_t 568 (by decide +kernel) rfl
theorem wd_570 : Cond.lays "HingeTablesModel" "HingeTablesModel" "height" "J" ∈ gw_l := gw_t 570 (by decide +kernel) rfl
theorem wd_572 : Cond.lays "HingeTablesModel" "HingeTablesModel" "thick" "J" ∈ gw_l := gw_t 572 (by decide +kernel) rfl
theorem wd_574 : Cond.lays "HingeTablesModel" "HingeTablesModel" "density" "J" ∈ gw_l := gw_t 574 (by decide +kernel) rfl
theorem wd_576 : Cond.laysFinal "HingeTablesModel" "HingeTablesModel" "xs" "[J" ∈ gw_l := gw_t 576 (by decide +kernel) rfl
theorem wd_578 : Cond.laysFinal "HingeTablesModel" "HingeTablesModel" "ys" "[J" ∈ gw_l := gw_t 578 (by decide +kernel) rfl
theorem wd_580 : Cond.laysFinal "HingeTablesModel" "HingeTablesModel" "radii" "[J" ∈ gw_l := gw_t 580 (by decide +kernel) rfl
theorem wd_582 : Cond.laysFinal "HingeTablesModel" "HingeTablesModel" "cosines" "[I" ∈ gw_l := gw_t 582 (by decide +kernel) rfl
theorem wd_584 : Cond.laysFinal "HingeTablesModel" "HingeTablesModel" "sines" "[I" ∈ gw_l := gw_t 584 (by decide +kernel) rfl
theorem wd_587 : Cond.arrayClass .long ∈ gw_l := gw_t 587 (by decide +kernel) rfl
theorem wd_588 : Cond.methodLink "HingeTablesLaw" 80 my_M_unit ∈ gw_l := gw_t 588 (by decide +kernel) rfl
theorem wd_589 : Cond.instanceMethod my_M_unit ∈ gw_l := gw_t 589 (by decide +kernel) rfl
theorem wd_590 : Cond.selects "HingeTablesModel" my_M_unit my_M_unit ∈ gw_l := gw_t 590 (by decide +kernel) rfl
theorem wd_591 : Cond.code my_M_unit mb_M_unit 3 (some .boolean) ∈ gw_l := gw_t 591 (by decide +kernel) rfl
theorem wd_592 : Cond.methodLink "HingeTablesLaw" 84 my_M_read ∈ gw_l := gw_t 592 (by decide +kernel) rfl
theorem wd_593 : Cond.instanceMethod my_M_read ∈ gw_l := gw_t 593 (by decide +kernel) rfl
theorem wd_594 : Cond.selects "HingeTablesModel" my_M_read my_M_read ∈ gw_l := gw_t 594 (by decide +kernel) rfl
theorem wd_595 : Cond.code my_M_read mb_M_read 3 (some .int) ∈ gw_l := gw_t 595 (by decide +kernel) rfl
theorem wd_596 : Cond.methodLink "HingeTablesModel" 95 my_M_readRow ∈ gw_l := gw_t 596 (by decide +kernel) rfl
theorem wd_598 : Cond.instanceMethod my_M_readRow ∈ gw_l := gw_t 598 (by decide +kernel) rfl
theorem wd_599 : Cond.code my_M_readRow mb_M_readRow 8 none ∈ gw_l := gw_t 599 (by decide +kernel) rfl
theorem wd_600 : Cond.methodLink "HingeTablesModel" 74 my_M_here ∈ gw_l := gw_t 600 (by decide +kernel) rfl
theorem wd_602 : Cond.instanceMethod my_M_here ∈ gw_l := gw_t 602 (by decide +kernel) rfl
theorem wd_603 : Cond.code my_M_here mb_M_here 1 (some .int) ∈ gw_l := gw_t 603 (by decide +kernel) rfl
theorem wd_604 : Cond.methodLink "HingeTablesModel" 82 my_M_sizeOf ∈ gw_l := gw_t 604 (by decide +kernel) rfl
theorem wd_605 : Cond.static my_M_sizeOf ∈ gw_l := gw_t 605 (by decide +kernel) rfl
theorem wd_606 : Cond.code my_M_sizeOf mb_M_sizeOf 1 (some .int) ∈ gw_l := gw_t 606 (by decide +kernel) rfl
theorem wd_607 : Cond.methodLink "HingeTablesModel" 78 my_M_failAt ∈ gw_l := gw_t 607 (by decide +kernel) rfl
theorem wd_609 : Cond.instanceMethod my_M_failAt ∈ gw_l := gw_t 609 (by decide +kernel) rfl
theorem wd_610 : Cond.code my_M_failAt mb_M_failAt 2 none ∈ gw_l := gw_t 610 (by decide +kernel) rfl
theorem wd_611 : Cond.methodLink "HingeTablesModel" 86 my_M_readNumber ∈ gw_l := gw_t 611 (by decide +kernel) rfl
theorem wd_613 : Cond.instanceMethod my_M_readNumber ∈ gw_l := gw_t 613 (by decide +kernel) rfl
theorem wd_614 : Cond.code my_M_readNumber mb_M_readNumber 3 (some .int) ∈ gw_l := gw_t 614 (by decide +kernel) rfl
theorem wd_615 : Cond.constantLong "HingeTablesModel" 89 9 ∈ gw_l := gw_t 615 (by decide +kernel) rfl
theorem wd_616 : Cond.methodLink "HingeTablesModel" 91 my_M_isIn ∈ gw_l := gw_t 616 (by decide +kernel) rfl
theorem wd_617 : Cond.static my_M_isIn ∈ gw_l := gw_t 617 (by decide +kernel) rfl
theorem wd_618 : Cond.code my_M_isIn mb_M_isIn 6 (some .boolean) ∈ gw_l := gw_t 618 (by decide +kernel) rfl
theorem wd_619 : Cond.methodLink "HingeTablesLaw" 90 my_M_row ∈ gw_l := gw_t 619 (by decide +kernel) rfl
theorem wd_620 : Cond.instanceMethod my_M_row ∈ gw_l := gw_t 620 (by decide +kernel) rfl
theorem wd_621 : Cond.selects "HingeTablesModel" my_M_row my_M_row ∈ gw_l := gw_t 621 (by decide +kernel) rfl
theorem wd_622 : Cond.code my_M_row mb_M_row 3 (some .int) ∈ gw_l := gw_t 622 (by decide +kernel) rfl
theorem wd_623 : Cond.methodLink "HingeTablesModel" 101 my_M_rowCode ∈ gw_l := gw_t 623 (by decide +kernel) rfl
theorem wd_625 : Cond.instanceMethod my_M_rowCode ∈ gw_l := gw_t 625 (by decide +kernel) rfl
theorem wd_626 : Cond.code my_M_rowCode mb_M_rowCode 2 (some .int) ∈ gw_l := gw_t 626 (by decide +kernel) rfl
theorem wd_627 : Cond.methodLink "HingeTablesLaw" 93 my_M_stock ∈ gw_l := gw_t 627 (by decide +kernel) rfl
theorem wd_628 : Cond.instanceMethod my_M_stock ∈ gw_l := gw_t 628 (by decide +kernel) rfl
theorem wd_629 : Cond.selects "HingeTablesModel" my_M_stock my_M_stock ∈ gw_l := gw_t 629 (by decide +kernel) rfl
theorem wd_630 : Cond.code my_M_stock mb_M_stock 3 (some .boolean) ∈ gw_l := gw_t 630 (by decide +kernel) rfl
theorem wd_631 : Cond.constantLong "HingeTablesModel" 104 1000 ∈ gw_l := gw_t 631 (by decide +kernel) rfl
theorem wd_632 : Cond.methodLink "HingeTablesLaw" 99 my_M_hinge ∈ gw_l := gw_t 632 (by decide +kernel) rfl
theorem wd_633 : Cond.instanceMethod my_M_hinge ∈ gw_l := gw_t 633 (by decide +kernel) rfl
theorem wd_634 : Cond.selects "HingeTablesModel" my_M_hinge my_M_hinge ∈ gw_l := gw_t 634 (by decide +kernel) rfl
theorem wd_635 : Cond.code my_M_hinge mb_M_hinge 9 (some .int) ∈ gw_l := gw_t 635 (by decide +kernel) rfl
theorem wd_636 : Cond.methodLink "HingeTablesModel" 106 my_M_number ∈ gw_l := gw_t 636 (by decide +kernel) rfl
theorem wd_638 : Cond.instanceMethod my_M_number ∈ gw_l := gw_t 638 (by decide +kernel) rfl
theorem wd_639 : Cond.code my_M_number mb_M_number 3 (some .long) ∈ gw_l := gw_t 639 (by decide +kernel) rfl
theorem wd_640 : Cond.methodLink "HingeTablesModel" 110 my_M_isThere ∈ gw_l := gw_t 640 (by decide +kernel) rfl
theorem wd_642 : Cond.instanceMethod my_M_isThere ∈ gw_l := gw_t 642 (by decide +kernel) rfl
theorem wd_643 : Cond.code my_M_isThere mb_M_isThere 3 (some .boolean) ∈ gw_l := gw_t 643 (by decide +kernel) rfl
theorem wd_644 : Cond.methodLink "HingeTablesLaw" 102 my_M_other ∈ gw_l := gw_t 644 (by decide +kernel) rfl
theorem wd_645 : Cond.instanceMethod my_M_other ∈ gw_l := gw_t 645 (by decide +kernel) rfl
theorem wd_646 : Cond.selects "HingeTablesModel" my_M_other my_M_other ∈ gw_l := gw_t 646 (by decide +kernel) rfl
theorem wd_647 : Cond.code my_M_other mb_M_other 5 (some .int) ∈ gw_l := gw_t 647 (by decide +kernel) rfl
theorem wd_648 : Cond.methodLink "HingeTablesModel" 114 my_M_replaces ∈ gw_l := gw_t 648 (by decide +kernel) rfl
theorem wd_650 : Cond.instanceMethod my_M_replaces ∈ gw_l := gw_t 650 (by decide +kernel) rfl
theorem wd_651 : Cond.code my_M_replaces mb_M_replaces 4 (some .boolean) ∈ gw_l := gw_t 651 (by decide +kernel) rfl
theorem wd_652 : Cond.methodLink "HingeTablesLaw" 106 my_M_slide ∈ gw_l := gw_t 652 (by decide +kernel) rfl
theorem wd_653 : Cond.instanceMethod my_M_slide ∈ gw_l := gw_t 653 (by decide +kernel) rfl
theorem wd_654 : Cond.selects "HingeTablesModel" my_M_slide my_M_slide ∈ gw_l := gw_t 654 (by decide +kernel) rfl
theorem wd_655 : Cond.code my_M_slide mb_M_slide 6 (some .int) ∈ gw_l := gw_t 655 (by decide +kernel) rfl
theorem wd_656 : Cond.methodLink "HingeTablesLaw" 110 my_M_door ∈ gw_l := gw_t 656 (by decide +kernel) rfl
theorem wd_657 : Cond.instanceMethod my_M_door ∈ gw_l := gw_t 657 (by decide +kernel) rfl
theorem wd_658 : Cond.selects "HingeTablesModel" my_M_door my_M_door ∈ gw_l := gw_t 658 (by decide +kernel) rfl
theorem wd_659 : Cond.code my_M_door mb_M_door 9 (some .boolean) ∈ gw_l := gw_t 659 (by decide +kernel) rfl
theorem wd_660 : Cond.methodLink "HingeTablesModel" 119 my_M_isSize ∈ gw_l := gw_t 660 (by decide +kernel) rfl
theorem wd_661 : Cond.static my_M_isSize ∈ gw_l := gw_t 661 (by decide +kernel) rfl
theorem wd_662 : Cond.code my_M_isSize mb_M_isSize 2 (some .boolean) ∈ gw_l := gw_t 662 (by decide +kernel) rfl
theorem wd_663 : Cond.constantLong "HingeTablesModel" 117 10000 ∈ gw_l := gw_t 663 (by decide +kernel) rfl
theorem wd_664 : Cond.methodLink "HingeTablesLaw" 114 my_M_weight ∈ gw_l := gw_t 664 (by decide +kernel) rfl
theorem wd_665 : Cond.instanceMethod my_M_weight ∈ gw_l := gw_t 665 (by decide +kernel) rfl
theorem wd_666 : Cond.selects "HingeTablesModel" my_M_weight my_M_weight ∈ gw_l := gw_t 666 (by decide +kernel) rfl
theorem wd_667 : Cond.code my_M_weight mb_M_weight 2 (some .long) ∈ gw_l := gw_t 667 (by decide +kernel) rfl
theorem wd_668 : Cond.methodLink "HingeTablesModel" 123 my_M_grams ∈ gw_l := gw_t 668 (by decide +kernel) rfl
theorem wd_670 : Cond.instanceMethod my_M_grams ∈ gw_l := gw_t 670 (by decide +kernel) rfl
theorem wd_671 : Cond.code my_M_grams mb_M_grams 1 (some .long) ∈ gw_l := gw_t 671 (by decide +kernel) rfl
theorem wd_672 : Cond.constantLong "HingeTablesModel" 127 1000000 ∈ gw_l := gw_t 672 (by decide +kernel) rfl
theorem wd_673 : Cond.methodLink "HingeTablesModel" 129 my_M_common ∈ gw_l := gw_t 673 (by decide +kernel) rfl
theorem wd_674 : Cond.static my_M_common ∈ gw_l := gw_t 674 (by decide +kernel) rfl
theorem wd_675 : Cond.code my_M_common mb_M_common 10 (some .long) ∈ gw_l := gw_t 675 (by decide +kernel) rfl
theorem wd_676 : Cond.methodLink "HingeTablesLaw" 118 my_M_count ∈ gw_l := gw_t 676 (by decide +kernel) rfl
theorem wd_677 : Cond.instanceMethod my_M_count ∈ gw_l := gw_t 677 (by decide +kernel) rfl
theorem wd_678 : Cond.selects "HingeTablesModel" my_M_count my_M_count ∈ gw_l := gw_t 678 (by decide +kernel) rfl
theorem wd_679 : Cond.code my_M_count mb_M_count 1 (some .int) ∈ gw_l := gw_t 679 (by decide +kernel) rfl
theorem wd_680 : Cond.methodLink "HingeTablesModel" 133 my_M_hinges ∈ gw_l := gw_t 680 (by decide +kernel) rfl
theorem wd_682 : Cond.instanceMethod my_M_hinges ∈ gw_l := gw_t 682 (by decide +kernel) rfl
theorem wd_683 : Cond.code my_M_hinges mb_M_hinges 4 (some .int) ∈ gw_l := gw_t 683 (by decide +kernel) rfl
theorem wd_684 : Cond.methodLink "HingeTablesLaw" 121 my_M_place ∈ gw_l := gw_t 684 (by decide +kernel) rfl
theorem wd_685 : Cond.instanceMethod my_M_place ∈ gw_l := gw_t 685 (by decide +kernel) rfl
theorem wd_686 : Cond.selects "HingeTablesModel" my_M_place my_M_place ∈ gw_l := gw_t 686 (by decide +kernel) rfl
theorem wd_687 : Cond.code my_M_place mb_M_place 12 (some .long) ∈ gw_l := gw_t 687 (by decide +kernel) rfl
theorem wd_688 : Cond.constantLong "HingeTablesModel" 136 320 ∈ gw_l := gw_t 688 (by decide +kernel) rfl
theorem wd_689 : Cond.constantLong "HingeTablesModel" 138 2 ∈ gw_l := gw_t 689 (by decide +kernel) rfl
theorem wd_690 : Cond.constantLong "HingeTablesModel" 140 4 ∈ gw_l := gw_t 690 (by decide +kernel) rfl
theorem wd_691 : Cond.methodLink "HingeTablesLaw" 125 my_M_hole ∈ gw_l := gw_t 691 (by decide +kernel) rfl
theorem wd_692 : Cond.instanceMethod my_M_hole ∈ gw_l := gw_t 692 (by decide +kernel) rfl
theorem wd_693 : Cond.selects "HingeTablesModel" my_M_hole my_M_hole ∈ gw_l := gw_t 693 (by decide +kernel) rfl
theorem wd_694 : Cond.code my_M_hole mb_M_hole 9 (some .boolean) ∈ gw_l := gw_t 694 (by decide +kernel) rfl
theorem wd_695 : Cond.constantLong "HingeTablesModel" 142 (-100000) ∈ gw_l := gw_t 695 (by decide +kernel) rfl
theorem wd_696 : Cond.constantLong "HingeTablesModel" 144 100000 ∈ gw_l := gw_t 696 (by decide +kernel) rfl
theorem wd_697 : Cond.methodLink "HingeTablesLaw" 128 my_M_meet ∈ gw_l := gw_t 697 (by decide +kernel) rfl
theorem wd_698 : Cond.instanceMethod my_M_meet ∈ gw_l := gw_t 698 (by decide +kernel) rfl
theorem wd_699 : Cond.selects "HingeTablesModel" my_M_meet my_M_meet ∈ gw_l := gw_t 699 (by decide +kernel) rfl
theorem wd_700 : Cond.code my_M_meet mb_M_meet 3 (some .boolean) ∈ gw_l := gw_t 700 (by decide +kernel) rfl
theorem wd_701 : Cond.methodLink "HingeTablesModel" 146 my_M_meets ∈ gw_l := gw_t 701 (by decide +kernel) rfl
theorem wd_703 : Cond.instanceMethod my_M_meets ∈ gw_l := gw_t 703 (by decide +kernel) rfl
theorem wd_704 : Cond.code my_M_meets mb_M_meets 9 (some .boolean) ∈ gw_l := gw_t 704 (by decide +kernel) rfl
theorem wd_705 : Cond.methodLink "HingeTablesLaw" 131 my_M_pair ∈ gw_l := gw_t 705 (by decide +kernel) rfl
theorem wd_706 : Cond.instanceMethod my_M_pair ∈ gw_l := gw_t 706 (by decide +kernel) rfl
theorem wd_707 : Cond.selects "HingeTablesModel" my_M_pair my_M_pair ∈ gw_l := gw_t 707 (by decide +kernel) rfl
theorem wd_708 : Cond.code my_M_pair mb_M_pair 5 (some .int) ∈ gw_l := gw_t 708 (by decide +kernel) rfl
theorem wd_709 : Cond.methodLink "HingeTablesLaw" 138 my_M_corner ∈ gw_l := gw_t 709 (by decide +kernel) rfl
theorem wd_710 : Cond.instanceMethod my_M_corner ∈ gw_l := gw_t 710 (by decide +kernel) rfl
theorem wd_711 : Cond.selects "HingeTablesModel" my_M_corner my_M_corner ∈ gw_l := gw_t 711 (by decide +kernel) rfl
theorem wd_712 : Cond.code my_M_corner mb_M_corner 4 (some .long) ∈ gw_l := gw_t 712 (by decide +kernel) rfl
theorem wd_713 : Cond.methodLink "HingeTablesModel" 149 my_M_placeOf ∈ gw_l := gw_t 713 (by decide +kernel) rfl
theorem wd_715 : Cond.instanceMethod my_M_placeOf ∈ gw_l := gw_t 715 (by decide +kernel) rfl
theorem wd_716 : Cond.code my_M_placeOf mb_M_placeOf 8 (some .long) ∈ gw_l := gw_t 716 (by decide +kernel) rfl
theorem wd_717 : Cond.methodLink "HingeTablesLaw" 134 my_M_wall ∈ gw_l := gw_t 717 (by decide +kernel) rfl
theorem wd_718 : Cond.instanceMethod my_M_wall ∈ gw_l := gw_t 718 (by decide +kernel) rfl
theorem wd_719 : Cond.selects "HingeTablesModel" my_M_wall my_M_wall ∈ gw_l := gw_t 719 (by decide +kernel) rfl
theorem wd_720 : Cond.code my_M_wall mb_M_wall 5 (some .int) ∈ gw_l := gw_t 720 (by decide +kernel) rfl
theorem wd_721 : Cond.constantLong "HingeTablesModel" 153 (-10000) ∈ gw_l := gw_t 721 (by decide +kernel) rfl
theorem wd_722 : Cond.constantLong "HingeTablesModel" 155 (-65) ∈ gw_l := gw_t 722 (by decide +kernel) rfl
theorem wd_723 : Cond.methodLink "HingeTablesLaw" 142 my_M_rows32 ∈ gw_l := gw_t 723 (by decide +kernel) rfl
theorem wd_724 : Cond.instanceMethod my_M_rows32 ∈ gw_l := gw_t 724 (by decide +kernel) rfl
theorem wd_725 : Cond.selects "HingeTablesModel" my_M_rows32 my_M_rows32 ∈ gw_l := gw_t 725 (by decide +kernel) rfl
theorem wd_726 : Cond.code my_M_rows32 mb_M_rows32 5 (some .int) ∈ gw_l := gw_t 726 (by decide +kernel) rfl
theorem wd_727 : Cond.constantLong "HingeTablesModel" 157 37 ∈ gw_l := gw_t 727 (by decide +kernel) rfl
theorem wd_728 : Cond.constantLong "HingeTablesModel" 159 32 ∈ gw_l := gw_t 728 (by decide +kernel) rfl
theorem wd_729 : Cond.constantLong "HingeTablesLaw" 94 4294967295 ∈ gw_l := gw_t 729 (by decide +kernel) rfl
end
section
/-! PURE METHODS: they answer, and change nothing. A start by arguments, cells, classes and one more predicate of the state (statics and the like). -/
def pu_bl (Ex : State → Prop) : Prop := ∀ U V : State, V.heap = U.heap → U.WarmedH V.vm → Ex U → Ex V
theorem pu_blT : pu_bl (fun _ => True) := fun _ _ _ _ _ => trivial
def pu_Pc (D : va_G) (cl : List vw_C) (tys : List (ClassId × FieldType)) (ws : va_W) (Ex : State → Prop) (av : List Value) : Array Value → State → Prop := fun v U => v = av.toArray ∧ va_P D cl ws U.heap ∧ va_K D cl tys U ∧ Ex U
theorem pu_blind {D : va_G} {cl : List vw_C} {tys : List (ClassId × FieldType)} {ws : va_W} {Ex : State → Prop} {av : List Value} (hbl : pu_bl Ex) : FrameBlind (pu_Pc D cl tys ws Ex av) := by
  intro a U g mk q
  obtain ⟨q0, qP, qK, qE⟩ := q
  exact ⟨q0, qP, va_K.moved (u := U) (U := U.calling g mk a) (Vm.Alike.refl U.vm) qK, hbl U (U.calling g mk a) rfl (State.WarmedH.refl U) qE⟩
section PUA
variable {p : Program} {l : Launch} {e : Env} {R : Room} {s : State} {m : MethodId} {args : Array Value} {below : List Frame} {meth : Method} {c : Code} {H : Heap} {locs : List Loc} {cells slots : Nat} {Q : State → Prop}
  {Ts ws : List Cond} {cc bytes : ByteArray} {nL maxL index n pc : Nat} {own C : String} {y : MethodName} {ret : Option FieldType} {rm : Room} {b : Addr} {As rest st : List Value} {ls : Array Slot}
  {D : va_G} {cl : List vw_C} {tys : List (ClassId × FieldType)} {wc : va_W} {Ex : State → Prop}
theorem pu_preV {ci q0 : Nat} {fs : List Value} {T : u_T} {N : Nat} (hbl : pu_bl Ex) (hK : va_K D cl tys s) (hP : va_P D cl wc H) (hE : ∀ U : State, U.heap = H → s.WarmedH U.vm → Ex U) (hc : cl[ci]? = some (C, T, N)) (he : wc[q0]? = some (b, .inr (ci, fs))) : PreV s H C b (pu_Pc D cl tys wc Ex (.ref b :: As)) As :=
  ⟨pu_blind hbl, va_recv hK hP hc he, fun U hU hW => ⟨rfl, by rw [hU]; exact hP, va_K.moved hW.alike hK, hE U hU hW⟩⟩
theorem pu_preS (hbl : pu_bl Ex) (hK : va_K D cl tys s) (hP : va_P D cl wc H) (hE : ∀ U : State, U.heap = H → s.WarmedH U.vm → Ex U) : PreS s H (pu_Pc D cl tys wc Ex As) As :=
  ⟨pu_blind hbl, fun U hU hW => ⟨rfl, by rw [hU]; exact hP, va_K.moved hW.alike hK, hE U hU hW⟩⟩
theorem pu_e0 (hbl : pu_bl Ex) (h : Ex s) : ∀ U : State, U.heap = s.heap → s.WarmedH U.vm → Ex U := fun U hU hW => hbl s U hU hW h
theorem pu_e1 : ∀ U : State, U.heap = H → s.WarmedH U.vm → (fun _ : State => True) U := fun _ _ _ => trivial
/-- an int that is known comes back -/
theorem pu_i {v : Int32} {a : Array Value} (hr : CallRun p l e R s m args below meth c H locs cells slots 0 0 (F0 m pc ls st) rest (vp_Si (fun r => r = v) a) (fun _ => False))
    (kk : W p l e R s m args below meth c H locs cells slots Q (F0 m (pc + 3) ls (.int v :: rest))) : W p l e R s m args below meth c H locs cells slots Q (F0 m pc ls st) :=
  vp_callSi hr (fun r h => by have h' : r = v := h; subst h'; exact kk)
theorem pu_l {v : Int64} {a : Array Value} (hr : CallRun p l e R s m args below meth c H locs cells slots 0 0 (F0 m pc ls st) rest (vp_Sl (fun r => r = v) a) (fun _ => False))
    (kk : W p l e R s m args below meth c H locs cells slots Q (F0 m (pc + 3) ls (.long v :: rest))) : W p l e R s m args below meth c H locs cells slots Q (F0 m pc ls st) :=
  vp_callSl hr (fun r h => by have h' : r = v := h; subst h'; exact kk)
theorem pu_v {a : Array Value} (hr : CallRun p l e R s m args below meth c H locs cells slots 0 0 (F0 m pc ls st) rest (va_Sv (fun _ => True) a) (fun _ => False))
    (kk : W p l e R s m args below meth c H locs cells slots Q (F0 m (pc + 3) ls rest)) : W p l e R s m args below meth c H locs cells slots Q (F0 m pc ls st) :=
  va_csv hr (fun _ => kk)
theorem pu_i9 {v : Int32} {a : Array Value} (hr : va_Run p l e R s m args below meth c H locs cells slots 0 0 (F0 m pc ls st) rest (vp_Si (fun r => r = v) a) (fun _ => False))
    (kk : W p l e R s m args below meth c H locs cells slots Q (F0 m (pc + 3) ls (.int v :: rest))) : W p l e R s m args below meth c H locs cells slots Q (F0 m pc ls st) :=
  pu_i (fun T hT X => by obtain ⟨v, st₀, t, T', L, h0, X', hL, e1, -, hq, g⟩ := hr T hT X; exact ⟨v, st₀, t, T', L, h0, X', hL, e1, hq, g⟩) kk
/-- ends of pure methods -/
theorem pu_iret {v w : Int32} (hx : p.tables.exec = Jvm.exec) (hb : c.code = cc) (hr : meth.sig.returnType = some .int) (hlocks : meth.locks = false) (hd : decode cc pc = .ok (.ireturn, 1)) (hv : w = v) :
    W p l e R s m args below meth c s.heap [] 0 0 (MQ below (vp_Si (fun r => r = v)) args s 0 0 (fun _ => False)) (F0 m pc ls [.int w]) :=
  W.iret hx hb hr (fun t ht _ => ⟨w, rfl, hv, ht⟩) (fun q hq => by cases hq) hd hlocks
theorem pu_zret {v w : Int32} {ty : FieldType} (hx : p.tables.exec = Jvm.exec) (hb : c.code = cc) (hr : meth.sig.returnType = some ty) (hlocks : meth.locks = false) (hn : narrow ty (.int w) = .int w) (hd : decode cc pc = .ok (.ireturn, 1)) (hv : w = v) :
    W p l e R s m args below meth c s.heap [] 0 0 (MQ below (vp_Si (fun r => r = v)) args s 0 0 (fun _ => False)) (F0 m pc ls [.int w]) :=
  W.zret hx hb hr hn (fun t ht _ => ⟨w, rfl, hv, ht⟩) (fun q hq => by cases hq) hd hlocks
theorem pu_lret {v w : Int64} (hx : p.tables.exec = Jvm.exec) (hb : c.code = cc) (hr : meth.sig.returnType = some .long) (hlocks : meth.locks = false) (hd : decode cc pc = .ok (.lreturn, 1)) (hv : w = v) :
    W p l e R s m args below meth c s.heap [] 0 0 (MQ below (vp_Sl (fun r => r = v)) args s 0 0 (fun _ => False)) (F0 m pc ls [.long w]) :=
  W.lret hx hb hr (fun t ht _ => ⟨w, rfl, hv, ht⟩) (fun q hq => by cases hq) hd hlocks
theorem pu_vret (hx : p.tables.exec = Jvm.exec) (hb : c.code = cc) (hr : meth.sig.returnType = none) (hlocks : meth.locks = false) (hd : decode cc pc = .ok (.return_, 1)) :
    W p l e R s m args below meth c s.heap [] 0 0 (MQ below (va_Sv (fun _ => True)) args s 0 0 (fun _ => False)) (F0 m pc ls []) :=
  W.vret hx hb hr (fun t ht _ => ⟨rfl, trivial, ht⟩) (fun q hq => by cases hq) hd hlocks
/-- long compare and branch in one -/
theorem lx_ge {x y : Int64} {off : Int} {tgt : Nat} (hx : p.tables.exec = Jvm.exec) (hb : c.code = cc) (hd : decode cc pc = .ok (.lcmp, 1)) (hd2 : decode cc (pc + 1) = .ok (.ifCond .ge off, 3)) (ht : ((pc + 1 : Nat) : Int) + off = (tgt : Int))
    (kt : y ≤ x → W p l e R s m args below meth c H locs cells slots Q (F0 m tgt ls rest)) (kf : ¬ y ≤ x → W p l e R s m args below meth c H locs cells slots Q (F0 m (pc + 4) ls rest)) : W p l e R s m args below meth c H locs cells slots Q (F0 m pc ls (.long y :: .long x :: rest)) :=
  W.lcmp hx hb hd (lv_if_ge hx hb hd2 ht (fun h => kt ((lg_cmp_ge x y).mp h)) (fun h => kf (fun h2 => h ((lg_cmp_ge x y).mpr h2))))
theorem lx_lt {x y : Int64} {off : Int} {tgt : Nat} (hx : p.tables.exec = Jvm.exec) (hb : c.code = cc) (hd : decode cc pc = .ok (.lcmp, 1)) (hd2 : decode cc (pc + 1) = .ok (.ifCond .lt off, 3)) (ht : ((pc + 1 : Nat) : Int) + off = (tgt : Int))
    (kt : x < y → W p l e R s m args below meth c H locs cells slots Q (F0 m tgt ls rest)) (kf : ¬ x < y → W p l e R s m args below meth c H locs cells slots Q (F0 m (pc + 4) ls rest)) : W p l e R s m args below meth c H locs cells slots Q (F0 m pc ls (.long y :: .long x :: rest)) :=
  W.lcmp hx hb hd (lv_if_lt hx hb hd2 ht (fun h => kt ((lg_cmp_lt x y).mp h)) (fun h => kf (fun h2 => h ((lg_cmp_lt x y).mpr h2))))
theorem lx_le {x y : Int64} {off : Int} {tgt : Nat} (hx : p.tables.exec = Jvm.exec) (hb : c.code = cc) (hd : decode cc pc = .ok (.lcmp, 1)) (hd2 : decode cc (pc + 1) = .ok (.ifCond .le off, 3)) (ht : ((pc + 1 : Nat) : Int) + off = (tgt : Int))
    (kt : x ≤ y → W p l e R s m args below meth c H locs cells slots Q (F0 m tgt ls rest)) (kf : ¬ x ≤ y → W p l e R s m args below meth c H locs cells slots Q (F0 m (pc + 4) ls rest)) : W p l e R s m args below meth c H locs cells slots Q (F0 m pc ls (.long y :: .long x :: rest)) :=
  W.lcmp hx hb hd (lv_if_le hx hb hd2 ht (fun h => kt ((lg_cmp_le x y).mp h)) (fun h => kf (fun h2 => h ((lg_cmp_le x y).mpr h2))))
theorem lx_gt {x y : Int64} {off : Int} {tgt : Nat} (hx : p.tables.exec = Jvm.exec) (hb : c.code = cc) (hd : decode cc pc = .ok (.lcmp, 1)) (hd2 : decode cc (pc + 1) = .ok (.ifCond .gt off, 3)) (ht : ((pc + 1 : Nat) : Int) + off = (tgt : Int))
    (kt : y < x → W p l e R s m args below meth c H locs cells slots Q (F0 m tgt ls rest)) (kf : ¬ y < x → W p l e R s m args below meth c H locs cells slots Q (F0 m (pc + 4) ls rest)) : W p l e R s m args below meth c H locs cells slots Q (F0 m pc ls (.long y :: .long x :: rest)) :=
  W.lcmp hx hb hd (lv_if_gt hx hb hd2 ht (fun h => kt ((lg_cmp_gt x y).mp h)) (fun h => kf (fun h2 => h ((lg_cmp_gt x y).mpr h2))))
theorem lx_eq {x y : Int64} {off : Int} {tgt : Nat} (hx : p.tables.exec = Jvm.exec) (hb : c.code = cc) (hd : decode cc pc = .ok (.lcmp, 1)) (hd2 : decode cc (pc + 1) = .ok (.ifCond .eq off, 3)) (ht : ((pc + 1 : Nat) : Int) + off = (tgt : Int))
    (kt : x = y → W p l e R s m args below meth c H locs cells slots Q (F0 m tgt ls rest)) (kf : ¬ x = y → W p l e R s m args below meth c H locs cells slots Q (F0 m (pc + 4) ls rest)) : W p l e R s m args below meth c H locs cells slots Q (F0 m pc ls (.long y :: .long x :: rest)) :=
  W.lcmp hx hb hd (lv_if_eq hx hb hd2 ht (fun h => kt ((lg_cmp_eq x y).mp h)) (fun h => kf (fun h2 => h ((lg_cmp_eq x y).mpr h2))))
theorem lx_ne {x y : Int64} {off : Int} {tgt : Nat} (hx : p.tables.exec = Jvm.exec) (hb : c.code = cc) (hd : decode cc pc = .ok (.lcmp, 1)) (hd2 : decode cc (pc + 1) = .ok (.ifCond .ne off, 3)) (ht : ((pc + 1 : Nat) : Int) + off = (tgt : Int))
    (kt : ¬ x = y → W p l e R s m args below meth c H locs cells slots Q (F0 m tgt ls rest)) (kf : x = y → W p l e R s m args below meth c H locs cells slots Q (F0 m (pc + 4) ls rest)) : W p l e R s m args below meth c H locs cells slots Q (F0 m pc ls (.long y :: .long x :: rest)) :=
  W.lcmp hx hb hd (lv_if_ne hx hb hd2 ht (fun h => kt (fun h2 => h ((lg_cmp_eq x y).mpr h2))) (fun h => kf ((lg_cmp_eq x y).mp h)))
end PUA
end
section
theorem md_S_init_0 : decode mb_S_init 0 = .ok (.aload_n 0, 1) := by decide +kernel
theorem md_S_init_1 : decode mb_S_init 1 = .ok (.invokespecial 3, 3) := by decide +kernel
theorem md_S_init_4 : decode mb_S_init 4 = .ok (.aload_n 0, 1) := by decide +kernel
theorem md_S_init_5 : decode mb_S_init 5 = .ok (.sipush 300, 3) := by decide +kernel
theorem md_S_init_8 : decode mb_S_init 8 = .ok (.newarray .char, 2) := by decide +kernel
theorem md_S_init_10 : decode mb_S_init 10 = .ok (.putfield 9, 3) := by decide +kernel
theorem md_S_init_13 : decode mb_S_init 13 = .ok (.return_, 1) := by decide +kernel
theorem md_D_init_0 : decode mb_D_init 0 = .ok (.aload_n 0, 1) := by decide +kernel
theorem md_D_init_1 : decode mb_D_init 1 = .ok (.invokespecial 3, 3) := by decide +kernel
theorem md_D_init_4 : decode mb_D_init 4 = .ok (.aload_n 0, 1) := by decide +kernel
theorem md_D_init_5 : decode mb_D_init 5 = .ok (.ldc2_w 9, 3) := by decide +kernel
theorem md_D_init_8 : decode mb_D_init 8 = .ok (.putfield 11, 3) := by decide +kernel
theorem md_D_init_11 : decode mb_D_init 11 = .ok (.aload_n 0, 1) := by decide +kernel
theorem md_D_init_12 : decode mb_D_init 12 = .ok (.ldc2_w 17, 3) := by decide +kernel
theorem md_D_init_15 : decode mb_D_init 15 = .ok (.putfield 19, 3) := by decide +kernel
theorem md_D_init_18 : decode mb_D_init 18 = .ok (.aload_n 0, 1) := by decide +kernel
theorem md_D_init_19 : decode mb_D_init 19 = .ok (.ldc2_w 22, 3) := by decide +kernel
theorem md_D_init_22 : decode mb_D_init 22 = .ok (.putfield 24, 3) := by decide +kernel
theorem md_D_init_25 : decode mb_D_init 25 = .ok (.aload_n 0, 1) := by decide +kernel
theorem md_D_init_26 : decode mb_D_init 26 = .ok (.ldc2_w 17, 3) := by decide +kernel
theorem md_D_init_29 : decode mb_D_init 29 = .ok (.putfield 27, 3) := by decide +kernel
theorem md_D_init_32 : decode mb_D_init 32 = .ok (.return_, 1) := by decide +kernel
theorem md_H_init_0 : decode mb_H_init 0 = .ok (.aload_n 0, 1) := by decide +kernel
theorem md_H_init_1 : decode mb_H_init 1 = .ok (.invokespecial 3, 3) := by decide +kernel
theorem md_H_init_4 : decode mb_H_init 4 = .ok (.aload_n 0, 1) := by decide +kernel
theorem md_H_init_5 : decode mb_H_init 5 = .ok (.bipush 16, 2) := by decide +kernel
theorem md_H_init_7 : decode mb_H_init 7 = .ok (.newarray .int, 2) := by decide +kernel
theorem md_H_init_9 : decode mb_H_init 9 = .ok (.putfield 9, 3) := by decide +kernel
theorem md_H_init_12 : decode mb_H_init 12 = .ok (.aload_n 0, 1) := by decide +kernel
theorem md_H_init_13 : decode mb_H_init 13 = .ok (.bipush 16, 2) := by decide +kernel
theorem md_H_init_15 : decode mb_H_init 15 = .ok (.newarray .int, 2) := by decide +kernel
theorem md_H_init_17 : decode mb_H_init 17 = .ok (.putfield 15, 3) := by decide +kernel
theorem md_H_init_20 : decode mb_H_init 20 = .ok (.aload_n 0, 1) := by decide +kernel
theorem md_H_init_21 : decode mb_H_init 21 = .ok (.bipush 16, 2) := by decide +kernel
theorem md_H_init_23 : decode mb_H_init 23 = .ok (.newarray .int, 2) := by decide +kernel
theorem md_H_init_25 : decode mb_H_init 25 = .ok (.putfield 18, 3) := by decide +kernel
theorem md_H_init_28 : decode mb_H_init 28 = .ok (.return_, 1) := by decide +kernel
theorem md_S_add_0 : decode mb_S_add 0 = .ok (.iload_n 1, 1) := by decide +kernel
theorem md_S_add_1 : decode mb_S_add 1 = .ok (.bipush 33, 2) := by decide +kernel
theorem md_S_add_3 : decode mb_S_add 3 = .ok (.if_icmp .lt 19, 3) := by decide +kernel
theorem md_S_add_6 : decode mb_S_add 6 = .ok (.iload_n 1, 1) := by decide +kernel
theorem md_S_add_7 : decode mb_S_add 7 = .ok (.bipush 126, 2) := by decide +kernel
theorem md_S_add_9 : decode mb_S_add 9 = .ok (.if_icmp .gt 13, 3) := by decide +kernel
theorem md_S_add_12 : decode mb_S_add 12 = .ok (.aload_n 0, 1) := by decide +kernel
theorem md_S_add_13 : decode mb_S_add 13 = .ok (.getfield 15, 3) := by decide +kernel
theorem md_S_add_16 : decode mb_S_add 16 = .ok (.sipush 300, 3) := by decide +kernel
theorem md_S_add_19 : decode mb_S_add 19 = .ok (.if_icmp .lt 5, 3) := by decide +kernel
theorem md_S_add_22 : decode mb_S_add 22 = .ok (.iconst 0, 1) := by decide +kernel
theorem md_S_add_23 : decode mb_S_add 23 = .ok (.ireturn, 1) := by decide +kernel
theorem md_S_add_24 : decode mb_S_add 24 = .ok (.aload_n 0, 1) := by decide +kernel
theorem md_S_add_25 : decode mb_S_add 25 = .ok (.getfield 9, 3) := by decide +kernel
theorem md_S_add_28 : decode mb_S_add 28 = .ok (.aload_n 0, 1) := by decide +kernel
theorem md_S_add_29 : decode mb_S_add 29 = .ok (.getfield 15, 3) := by decide +kernel
theorem md_S_add_32 : decode mb_S_add 32 = .ok (.iload_n 1, 1) := by decide +kernel
theorem md_S_add_33 : decode mb_S_add 33 = .ok (.i2c, 1) := by decide +kernel
theorem md_S_add_34 : decode mb_S_add 34 = .ok (.castore, 1) := by decide +kernel
theorem md_S_add_35 : decode mb_S_add 35 = .ok (.aload_n 0, 1) := by decide +kernel
theorem md_S_add_36 : decode mb_S_add 36 = .ok (.dup, 1) := by decide +kernel
theorem md_S_add_37 : decode mb_S_add 37 = .ok (.getfield 15, 3) := by decide +kernel
theorem md_S_add_40 : decode mb_S_add 40 = .ok (.iconst 1, 1) := by decide +kernel
theorem md_S_add_41 : decode mb_S_add 41 = .ok (.iadd, 1) := by decide +kernel
theorem md_S_add_42 : decode mb_S_add 42 = .ok (.putfield 15, 3) := by decide +kernel
theorem md_S_add_45 : decode mb_S_add 45 = .ok (.iconst 1, 1) := by decide +kernel
theorem md_S_add_46 : decode mb_S_add 46 = .ok (.ireturn, 1) := by decide +kernel
theorem md_S_endsAt_0 : decode mb_S_endsAt 0 = .ok (.iload_n 1, 1) := by decide +kernel
theorem md_S_endsAt_1 : decode mb_S_endsAt 1 = .ok (.aload_n 0, 1) := by decide +kernel
theorem md_S_endsAt_2 : decode mb_S_endsAt 2 = .ok (.getfield 15, 3) := by decide +kernel
theorem md_S_endsAt_5 : decode mb_S_endsAt 5 = .ok (.if_icmp .ne 7, 3) := by decide +kernel
theorem md_S_endsAt_8 : decode mb_S_endsAt 8 = .ok (.iconst 1, 1) := by decide +kernel
theorem md_S_endsAt_9 : decode mb_S_endsAt 9 = .ok (.goto 4, 3) := by decide +kernel
theorem md_S_endsAt_12 : decode mb_S_endsAt 12 = .ok (.iconst 0, 1) := by decide +kernel
theorem md_S_endsAt_13 : decode mb_S_endsAt 13 = .ok (.ireturn, 1) := by decide +kernel
theorem md_S_at_0 : decode mb_S_at 0 = .ok (.iload_n 1, 1) := by decide +kernel
theorem md_S_at_1 : decode mb_S_at 1 = .ok (.ifCond .lt 20, 3) := by decide +kernel
theorem md_S_at_4 : decode mb_S_at 4 = .ok (.iload_n 1, 1) := by decide +kernel
theorem md_S_at_5 : decode mb_S_at 5 = .ok (.aload_n 0, 1) := by decide +kernel
theorem md_S_at_6 : decode mb_S_at 6 = .ok (.getfield 15, 3) := by decide +kernel
theorem md_S_at_9 : decode mb_S_at 9 = .ok (.if_icmp .ge 12, 3) := by decide +kernel
theorem md_S_at_12 : decode mb_S_at 12 = .ok (.aload_n 0, 1) := by decide +kernel
theorem md_S_at_13 : decode mb_S_at 13 = .ok (.getfield 9, 3) := by decide +kernel
theorem md_S_at_16 : decode mb_S_at 16 = .ok (.iload_n 1, 1) := by decide +kernel
theorem md_S_at_17 : decode mb_S_at 17 = .ok (.caload, 1) := by decide +kernel
theorem md_S_at_18 : decode mb_S_at 18 = .ok (.goto 4, 3) := by decide +kernel
theorem md_S_at_21 : decode mb_S_at 21 = .ok (.iconst 0, 1) := by decide +kernel
theorem md_S_at_22 : decode mb_S_at 22 = .ok (.ireturn, 1) := by decide +kernel
theorem md_S_clear_0 : decode mb_S_clear 0 = .ok (.aload_n 0, 1) := by decide +kernel
theorem md_S_clear_1 : decode mb_S_clear 1 = .ok (.iconst 0, 1) := by decide +kernel
theorem md_S_clear_2 : decode mb_S_clear 2 = .ok (.putfield 15, 3) := by decide +kernel
theorem md_S_clear_5 : decode mb_S_clear 5 = .ok (.return_, 1) := by decide +kernel
theorem md_D_change_0 : decode mb_D_change 0 = .ok (.aload_n 0, 1) := by decide +kernel
theorem md_D_change_1 : decode mb_D_change 1 = .ok (.getfield 11, 3) := by decide +kernel
theorem md_D_change_4 : decode mb_D_change 4 = .ok (.lload_n 1, 1) := by decide +kernel
theorem md_D_change_5 : decode mb_D_change 5 = .ok (.lcmp, 1) := by decide +kernel
theorem md_D_change_6 : decode mb_D_change 6 = .ok (.ifCond .ne 32, 3) := by decide +kernel
theorem md_D_change_9 : decode mb_D_change 9 = .ok (.aload_n 0, 1) := by decide +kernel
theorem md_D_change_10 : decode mb_D_change 10 = .ok (.getfield 19, 3) := by decide +kernel
theorem md_D_change_13 : decode mb_D_change 13 = .ok (.lload_n 3, 1) := by decide +kernel
theorem md_D_change_14 : decode mb_D_change 14 = .ok (.lcmp, 1) := by decide +kernel
theorem md_D_change_15 : decode mb_D_change 15 = .ok (.ifCond .ne 23, 3) := by decide +kernel
theorem md_D_change_18 : decode mb_D_change 18 = .ok (.aload_n 0, 1) := by decide +kernel
theorem md_D_change_19 : decode mb_D_change 19 = .ok (.getfield 24, 3) := by decide +kernel
theorem md_D_change_22 : decode mb_D_change 22 = .ok (.lload 5, 2) := by decide +kernel
theorem md_D_change_24 : decode mb_D_change 24 = .ok (.lcmp, 1) := by decide +kernel
theorem md_D_change_25 : decode mb_D_change 25 = .ok (.ifCond .ne 13, 3) := by decide +kernel
theorem md_D_change_28 : decode mb_D_change 28 = .ok (.aload_n 0, 1) := by decide +kernel
theorem md_D_change_29 : decode mb_D_change 29 = .ok (.getfield 27, 3) := by decide +kernel
theorem md_D_change_32 : decode mb_D_change 32 = .ok (.lload 7, 2) := by decide +kernel
theorem md_D_change_34 : decode mb_D_change 34 = .ok (.lcmp, 1) := by decide +kernel
theorem md_D_change_35 : decode mb_D_change 35 = .ok (.ifCond .eq 7, 3) := by decide +kernel
theorem md_D_change_38 : decode mb_D_change 38 = .ok (.iconst 1, 1) := by decide +kernel
theorem md_D_change_39 : decode mb_D_change 39 = .ok (.goto 4, 3) := by decide +kernel
theorem md_D_change_42 : decode mb_D_change 42 = .ok (.iconst 0, 1) := by decide +kernel
theorem md_D_change_43 : decode mb_D_change 43 = .ok (.istore 9, 2) := by decide +kernel
theorem md_D_change_45 : decode mb_D_change 45 = .ok (.aload_n 0, 1) := by decide +kernel
theorem md_D_change_46 : decode mb_D_change 46 = .ok (.lload_n 1, 1) := by decide +kernel
theorem md_D_change_47 : decode mb_D_change 47 = .ok (.putfield 11, 3) := by decide +kernel
theorem md_D_change_50 : decode mb_D_change 50 = .ok (.aload_n 0, 1) := by decide +kernel
theorem md_D_change_51 : decode mb_D_change 51 = .ok (.lload_n 3, 1) := by decide +kernel
theorem md_D_change_52 : decode mb_D_change 52 = .ok (.putfield 19, 3) := by decide +kernel
theorem md_D_change_55 : decode mb_D_change 55 = .ok (.aload_n 0, 1) := by decide +kernel
theorem md_D_change_56 : decode mb_D_change 56 = .ok (.lload 5, 2) := by decide +kernel
theorem md_D_change_58 : decode mb_D_change 58 = .ok (.putfield 24, 3) := by decide +kernel
theorem md_D_change_61 : decode mb_D_change 61 = .ok (.aload_n 0, 1) := by decide +kernel
theorem md_D_change_62 : decode mb_D_change 62 = .ok (.lload 7, 2) := by decide +kernel
theorem md_D_change_64 : decode mb_D_change 64 = .ok (.putfield 27, 3) := by decide +kernel
theorem md_D_change_67 : decode mb_D_change 67 = .ok (.iload 9, 2) := by decide +kernel
theorem md_D_change_69 : decode mb_D_change 69 = .ok (.ireturn, 1) := by decide +kernel
theorem md_D_millionWeights_0 : decode mb_D_millionWeights 0 = .ok (.aload_n 0, 1) := by decide +kernel
theorem md_D_millionWeights_1 : decode mb_D_millionWeights 1 = .ok (.getfield 11, 3) := by decide +kernel
theorem md_D_millionWeights_4 : decode mb_D_millionWeights 4 = .ok (.aload_n 0, 1) := by decide +kernel
theorem md_D_millionWeights_5 : decode mb_D_millionWeights 5 = .ok (.getfield 19, 3) := by decide +kernel
theorem md_D_millionWeights_8 : decode mb_D_millionWeights 8 = .ok (.lmul, 1) := by decide +kernel
theorem md_D_millionWeights_9 : decode mb_D_millionWeights 9 = .ok (.aload_n 0, 1) := by decide +kernel
theorem md_D_millionWeights_10 : decode mb_D_millionWeights 10 = .ok (.getfield 24, 3) := by decide +kernel
theorem md_D_millionWeights_13 : decode mb_D_millionWeights 13 = .ok (.lmul, 1) := by decide +kernel
theorem md_D_millionWeights_14 : decode mb_D_millionWeights 14 = .ok (.aload_n 0, 1) := by decide +kernel
theorem md_D_millionWeights_15 : decode mb_D_millionWeights 15 = .ok (.getfield 27, 3) := by decide +kernel
theorem md_D_millionWeights_18 : decode mb_D_millionWeights 18 = .ok (.lmul, 1) := by decide +kernel
theorem md_D_millionWeights_19 : decode mb_D_millionWeights 19 = .ok (.lreturn, 1) := by decide +kernel
theorem md_D_placeNumerator_0 : decode mb_D_placeNumerator 0 = .ok (.aload_n 0, 1) := by decide +kernel
theorem md_D_placeNumerator_1 : decode mb_D_placeNumerator 1 = .ok (.getfield 19, 3) := by decide +kernel
theorem md_D_placeNumerator_4 : decode mb_D_placeNumerator 4 = .ok (.ldc2_w 30, 3) := by decide +kernel
theorem md_D_placeNumerator_7 : decode mb_D_placeNumerator 7 = .ok (.invokestatic 32, 3) := by decide +kernel
theorem md_D_placeNumerator_10 : decode mb_D_placeNumerator 10 = .ok (.lstore_n 3, 1) := by decide +kernel
theorem md_D_placeNumerator_11 : decode mb_D_placeNumerator 11 = .ok (.lload_n 3, 1) := by decide +kernel
theorem md_D_placeNumerator_12 : decode mb_D_placeNumerator 12 = .ok (.iload_n 2, 1) := by decide +kernel
theorem md_D_placeNumerator_13 : decode mb_D_placeNumerator 13 = .ok (.iconst 1, 1) := by decide +kernel
theorem md_D_placeNumerator_14 : decode mb_D_placeNumerator 14 = .ok (.isub, 1) := by decide +kernel
theorem md_D_placeNumerator_15 : decode mb_D_placeNumerator 15 = .ok (.i2l, 1) := by decide +kernel
theorem md_D_placeNumerator_16 : decode mb_D_placeNumerator 16 = .ok (.lmul, 1) := by decide +kernel
theorem md_D_placeNumerator_17 : decode mb_D_placeNumerator 17 = .ok (.iload_n 1, 1) := by decide +kernel
theorem md_D_placeNumerator_18 : decode mb_D_placeNumerator 18 = .ok (.i2l, 1) := by decide +kernel
theorem md_D_placeNumerator_19 : decode mb_D_placeNumerator 19 = .ok (.ldc2_w 38, 3) := by decide +kernel
theorem md_D_placeNumerator_22 : decode mb_D_placeNumerator 22 = .ok (.aload_n 0, 1) := by decide +kernel
theorem md_D_placeNumerator_23 : decode mb_D_placeNumerator 23 = .ok (.getfield 19, 3) := by decide +kernel
theorem md_D_placeNumerator_26 : decode mb_D_placeNumerator 26 = .ok (.lmul, 1) := by decide +kernel
theorem md_D_placeNumerator_27 : decode mb_D_placeNumerator 27 = .ok (.ldc2_w 40, 3) := by decide +kernel
theorem md_D_placeNumerator_30 : decode mb_D_placeNumerator 30 = .ok (.lload_n 3, 1) := by decide +kernel
theorem md_D_placeNumerator_31 : decode mb_D_placeNumerator 31 = .ok (.lmul, 1) := by decide +kernel
theorem md_D_placeNumerator_32 : decode mb_D_placeNumerator 32 = .ok (.lsub, 1) := by decide +kernel
theorem md_D_placeNumerator_33 : decode mb_D_placeNumerator 33 = .ok (.lmul, 1) := by decide +kernel
theorem md_D_placeNumerator_34 : decode mb_D_placeNumerator 34 = .ok (.ladd, 1) := by decide +kernel
theorem md_D_placeNumerator_35 : decode mb_D_placeNumerator 35 = .ok (.lreturn, 1) := by decide +kernel
theorem md_H_change_0 : decode mb_H_change 0 = .ok (.lload 6, 2) := by decide +kernel
theorem md_H_change_2 : decode mb_H_change 2 = .ok (.lconst 0, 1) := by decide +kernel
theorem md_H_change_3 : decode mb_H_change 3 = .ok (.lcmp, 1) := by decide +kernel
theorem md_H_change_4 : decode mb_H_change 4 = .ok (.ifCond .ne 7, 3) := by decide +kernel
theorem md_H_change_7 : decode mb_H_change 7 = .ok (.iconst 0, 1) := by decide +kernel
theorem md_H_change_8 : decode mb_H_change 8 = .ok (.goto 5, 3) := by decide +kernel
theorem md_H_change_11 : decode mb_H_change 11 = .ok (.lload_n 2, 1) := by decide +kernel
theorem md_H_change_12 : decode mb_H_change 12 = .ok (.l2i, 1) := by decide +kernel
theorem md_H_change_13 : decode mb_H_change 13 = .ok (.istore 8, 2) := by decide +kernel
theorem md_H_change_15 : decode mb_H_change 15 = .ok (.lload 6, 2) := by decide +kernel
theorem md_H_change_17 : decode mb_H_change 17 = .ok (.lconst 0, 1) := by decide +kernel
theorem md_H_change_18 : decode mb_H_change 18 = .ok (.lcmp, 1) := by decide +kernel
theorem md_H_change_19 : decode mb_H_change 19 = .ok (.ifCond .ne 7, 3) := by decide +kernel
theorem md_H_change_22 : decode mb_H_change 22 = .ok (.iconst 0, 1) := by decide +kernel
theorem md_H_change_23 : decode mb_H_change 23 = .ok (.goto 6, 3) := by decide +kernel
theorem md_H_change_26 : decode mb_H_change 26 = .ok (.lload 4, 2) := by decide +kernel
theorem md_H_change_28 : decode mb_H_change 28 = .ok (.l2i, 1) := by decide +kernel
theorem md_H_change_29 : decode mb_H_change 29 = .ok (.istore 9, 2) := by decide +kernel
theorem md_H_change_31 : decode mb_H_change 31 = .ok (.aload_n 0, 1) := by decide +kernel
theorem md_H_change_32 : decode mb_H_change 32 = .ok (.getfield 9, 3) := by decide +kernel
theorem md_H_change_35 : decode mb_H_change 35 = .ok (.iload_n 1, 1) := by decide +kernel
theorem md_H_change_36 : decode mb_H_change 36 = .ok (.iaload, 1) := by decide +kernel
theorem md_H_change_37 : decode mb_H_change 37 = .ok (.iload 8, 2) := by decide +kernel
theorem md_H_change_39 : decode mb_H_change 39 = .ok (.if_icmp .ne 27, 3) := by decide +kernel
theorem md_H_change_42 : decode mb_H_change 42 = .ok (.aload_n 0, 1) := by decide +kernel
theorem md_H_change_43 : decode mb_H_change 43 = .ok (.getfield 15, 3) := by decide +kernel
theorem md_H_change_46 : decode mb_H_change 46 = .ok (.iload_n 1, 1) := by decide +kernel
theorem md_H_change_47 : decode mb_H_change 47 = .ok (.iaload, 1) := by decide +kernel
theorem md_H_change_48 : decode mb_H_change 48 = .ok (.iload 9, 2) := by decide +kernel
theorem md_H_change_50 : decode mb_H_change 50 = .ok (.if_icmp .ne 16, 3) := by decide +kernel
theorem md_H_change_53 : decode mb_H_change 53 = .ok (.aload_n 0, 1) := by decide +kernel
theorem md_H_change_54 : decode mb_H_change 54 = .ok (.getfield 18, 3) := by decide +kernel
theorem md_H_change_57 : decode mb_H_change 57 = .ok (.iload_n 1, 1) := by decide +kernel
theorem md_H_change_58 : decode mb_H_change 58 = .ok (.iaload, 1) := by decide +kernel
theorem md_H_change_59 : decode mb_H_change 59 = .ok (.i2l, 1) := by decide +kernel
theorem md_H_change_60 : decode mb_H_change 60 = .ok (.lload 6, 2) := by decide +kernel
theorem md_H_change_62 : decode mb_H_change 62 = .ok (.lcmp, 1) := by decide +kernel
theorem md_H_change_63 : decode mb_H_change 63 = .ok (.ifCond .eq 7, 3) := by decide +kernel
theorem md_H_change_66 : decode mb_H_change 66 = .ok (.iconst 1, 1) := by decide +kernel
theorem md_H_change_67 : decode mb_H_change 67 = .ok (.goto 4, 3) := by decide +kernel
theorem md_H_change_70 : decode mb_H_change 70 = .ok (.iconst 0, 1) := by decide +kernel
theorem md_H_change_71 : decode mb_H_change 71 = .ok (.istore 10, 2) := by decide +kernel
theorem md_H_change_73 : decode mb_H_change 73 = .ok (.aload_n 0, 1) := by decide +kernel
theorem md_H_change_74 : decode mb_H_change 74 = .ok (.getfield 9, 3) := by decide +kernel
theorem md_H_change_77 : decode mb_H_change 77 = .ok (.iload_n 1, 1) := by decide +kernel
theorem md_H_change_78 : decode mb_H_change 78 = .ok (.iload 8, 2) := by decide +kernel
theorem md_H_change_80 : decode mb_H_change 80 = .ok (.iastore, 1) := by decide +kernel
theorem md_H_change_81 : decode mb_H_change 81 = .ok (.aload_n 0, 1) := by decide +kernel
theorem md_H_change_82 : decode mb_H_change 82 = .ok (.getfield 15, 3) := by decide +kernel
theorem md_H_change_85 : decode mb_H_change 85 = .ok (.iload_n 1, 1) := by decide +kernel
theorem md_H_change_86 : decode mb_H_change 86 = .ok (.iload 9, 2) := by decide +kernel
theorem md_H_change_88 : decode mb_H_change 88 = .ok (.iastore, 1) := by decide +kernel
theorem md_H_change_89 : decode mb_H_change 89 = .ok (.aload_n 0, 1) := by decide +kernel
theorem md_H_change_90 : decode mb_H_change 90 = .ok (.getfield 18, 3) := by decide +kernel
theorem md_H_change_93 : decode mb_H_change 93 = .ok (.iload_n 1, 1) := by decide +kernel
theorem md_H_change_94 : decode mb_H_change 94 = .ok (.lload 6, 2) := by decide +kernel
theorem md_H_change_96 : decode mb_H_change 96 = .ok (.l2i, 1) := by decide +kernel
theorem md_H_change_97 : decode mb_H_change 97 = .ok (.iastore, 1) := by decide +kernel
theorem md_H_change_98 : decode mb_H_change 98 = .ok (.iload 10, 2) := by decide +kernel
theorem md_H_change_100 : decode mb_H_change 100 = .ok (.ireturn, 1) := by decide +kernel
theorem md_H_overlap_0 : decode mb_H_overlap 0 = .ok (.iload_n 1, 1) := by decide +kernel
theorem md_H_overlap_1 : decode mb_H_overlap 1 = .ok (.iload_n 2, 1) := by decide +kernel
theorem md_H_overlap_2 : decode mb_H_overlap 2 = .ok (.if_icmp .eq 21, 3) := by decide +kernel
theorem md_H_overlap_5 : decode mb_H_overlap 5 = .ok (.aload_n 0, 1) := by decide +kernel
theorem md_H_overlap_6 : decode mb_H_overlap 6 = .ok (.getfield 18, 3) := by decide +kernel
theorem md_H_overlap_9 : decode mb_H_overlap 9 = .ok (.iload_n 1, 1) := by decide +kernel
theorem md_H_overlap_10 : decode mb_H_overlap 10 = .ok (.iaload, 1) := by decide +kernel
theorem md_H_overlap_11 : decode mb_H_overlap 11 = .ok (.ifCond .eq 12, 3) := by decide +kernel
theorem md_H_overlap_14 : decode mb_H_overlap 14 = .ok (.aload_n 0, 1) := by decide +kernel
theorem md_H_overlap_15 : decode mb_H_overlap 15 = .ok (.getfield 18, 3) := by decide +kernel
theorem md_H_overlap_18 : decode mb_H_overlap 18 = .ok (.iload_n 2, 1) := by decide +kernel
theorem md_H_overlap_19 : decode mb_H_overlap 19 = .ok (.iaload, 1) := by decide +kernel
theorem md_H_overlap_20 : decode mb_H_overlap 20 = .ok (.ifCond .ne 5, 3) := by decide +kernel
theorem md_H_overlap_23 : decode mb_H_overlap 23 = .ok (.iconst 0, 1) := by decide +kernel
theorem md_H_overlap_24 : decode mb_H_overlap 24 = .ok (.ireturn, 1) := by decide +kernel
theorem md_H_overlap_25 : decode mb_H_overlap 25 = .ok (.aload_n 0, 1) := by decide +kernel
theorem md_H_overlap_26 : decode mb_H_overlap 26 = .ok (.getfield 9, 3) := by decide +kernel
theorem md_H_overlap_29 : decode mb_H_overlap 29 = .ok (.iload_n 1, 1) := by decide +kernel
theorem md_H_overlap_30 : decode mb_H_overlap 30 = .ok (.iaload, 1) := by decide +kernel
theorem md_H_overlap_31 : decode mb_H_overlap 31 = .ok (.i2l, 1) := by decide +kernel
theorem md_H_overlap_32 : decode mb_H_overlap 32 = .ok (.aload_n 0, 1) := by decide +kernel
theorem md_H_overlap_33 : decode mb_H_overlap 33 = .ok (.getfield 9, 3) := by decide +kernel
theorem md_H_overlap_36 : decode mb_H_overlap 36 = .ok (.iload_n 2, 1) := by decide +kernel
theorem md_H_overlap_37 : decode mb_H_overlap 37 = .ok (.iaload, 1) := by decide +kernel
theorem md_H_overlap_38 : decode mb_H_overlap 38 = .ok (.i2l, 1) := by decide +kernel
theorem md_H_overlap_39 : decode mb_H_overlap 39 = .ok (.lsub, 1) := by decide +kernel
theorem md_H_overlap_40 : decode mb_H_overlap 40 = .ok (.lstore_n 3, 1) := by decide +kernel
theorem md_H_overlap_41 : decode mb_H_overlap 41 = .ok (.aload_n 0, 1) := by decide +kernel
theorem md_H_overlap_42 : decode mb_H_overlap 42 = .ok (.getfield 15, 3) := by decide +kernel
theorem md_H_overlap_45 : decode mb_H_overlap 45 = .ok (.iload_n 1, 1) := by decide +kernel
theorem md_H_overlap_46 : decode mb_H_overlap 46 = .ok (.iaload, 1) := by decide +kernel
theorem md_H_overlap_47 : decode mb_H_overlap 47 = .ok (.i2l, 1) := by decide +kernel
theorem md_H_overlap_48 : decode mb_H_overlap 48 = .ok (.aload_n 0, 1) := by decide +kernel
theorem md_H_overlap_49 : decode mb_H_overlap 49 = .ok (.getfield 15, 3) := by decide +kernel
theorem md_H_overlap_52 : decode mb_H_overlap 52 = .ok (.iload_n 2, 1) := by decide +kernel
theorem md_H_overlap_53 : decode mb_H_overlap 53 = .ok (.iaload, 1) := by decide +kernel
theorem md_H_overlap_54 : decode mb_H_overlap 54 = .ok (.i2l, 1) := by decide +kernel
theorem md_H_overlap_55 : decode mb_H_overlap 55 = .ok (.lsub, 1) := by decide +kernel
theorem md_H_overlap_56 : decode mb_H_overlap 56 = .ok (.lstore 5, 2) := by decide +kernel
theorem md_H_overlap_58 : decode mb_H_overlap 58 = .ok (.aload_n 0, 1) := by decide +kernel
theorem md_H_overlap_59 : decode mb_H_overlap 59 = .ok (.getfield 18, 3) := by decide +kernel
theorem md_H_overlap_62 : decode mb_H_overlap 62 = .ok (.iload_n 1, 1) := by decide +kernel
theorem md_H_overlap_63 : decode mb_H_overlap 63 = .ok (.iaload, 1) := by decide +kernel
theorem md_H_overlap_64 : decode mb_H_overlap 64 = .ok (.i2l, 1) := by decide +kernel
theorem md_H_overlap_65 : decode mb_H_overlap 65 = .ok (.aload_n 0, 1) := by decide +kernel
theorem md_H_overlap_66 : decode mb_H_overlap 66 = .ok (.getfield 18, 3) := by decide +kernel
theorem md_H_overlap_69 : decode mb_H_overlap 69 = .ok (.iload_n 2, 1) := by decide +kernel
theorem md_H_overlap_70 : decode mb_H_overlap 70 = .ok (.iaload, 1) := by decide +kernel
theorem md_H_overlap_71 : decode mb_H_overlap 71 = .ok (.i2l, 1) := by decide +kernel
theorem md_H_overlap_72 : decode mb_H_overlap 72 = .ok (.ladd, 1) := by decide +kernel
theorem md_H_overlap_73 : decode mb_H_overlap 73 = .ok (.lstore 7, 2) := by decide +kernel
theorem md_H_overlap_75 : decode mb_H_overlap 75 = .ok (.lload_n 3, 1) := by decide +kernel
theorem md_H_overlap_76 : decode mb_H_overlap 76 = .ok (.lload_n 3, 1) := by decide +kernel
theorem md_H_overlap_77 : decode mb_H_overlap 77 = .ok (.lmul, 1) := by decide +kernel
theorem md_H_overlap_78 : decode mb_H_overlap 78 = .ok (.lload 5, 2) := by decide +kernel
theorem md_H_overlap_80 : decode mb_H_overlap 80 = .ok (.lload 5, 2) := by decide +kernel
theorem md_H_overlap_82 : decode mb_H_overlap 82 = .ok (.lmul, 1) := by decide +kernel
theorem md_H_overlap_83 : decode mb_H_overlap 83 = .ok (.ladd, 1) := by decide +kernel
theorem md_H_overlap_84 : decode mb_H_overlap 84 = .ok (.lload 7, 2) := by decide +kernel
theorem md_H_overlap_86 : decode mb_H_overlap 86 = .ok (.lload 7, 2) := by decide +kernel
theorem md_H_overlap_88 : decode mb_H_overlap 88 = .ok (.lmul, 1) := by decide +kernel
theorem md_H_overlap_89 : decode mb_H_overlap 89 = .ok (.lcmp, 1) := by decide +kernel
theorem md_H_overlap_90 : decode mb_H_overlap 90 = .ok (.ifCond .ge 7, 3) := by decide +kernel
theorem md_H_overlap_93 : decode mb_H_overlap 93 = .ok (.iconst 1, 1) := by decide +kernel
theorem md_H_overlap_94 : decode mb_H_overlap 94 = .ok (.goto 4, 3) := by decide +kernel
theorem md_H_overlap_97 : decode mb_H_overlap 97 = .ok (.iconst 0, 1) := by decide +kernel
theorem md_H_overlap_98 : decode mb_H_overlap 98 = .ok (.ireturn, 1) := by decide +kernel
theorem md_H_overlappingPair_0 : decode mb_H_overlappingPair 0 = .ok (.iload_n 1, 1) := by decide +kernel
theorem md_H_overlappingPair_1 : decode mb_H_overlappingPair 1 = .ok (.istore_n 2, 1) := by decide +kernel
theorem md_H_overlappingPair_2 : decode mb_H_overlappingPair 2 = .ok (.iconst 0, 1) := by decide +kernel
theorem md_H_overlappingPair_3 : decode mb_H_overlappingPair 3 = .ok (.istore_n 3, 1) := by decide +kernel
theorem md_H_overlappingPair_4 : decode mb_H_overlappingPair 4 = .ok (.iload_n 3, 1) := by decide +kernel
theorem md_H_overlappingPair_5 : decode mb_H_overlappingPair 5 = .ok (.bipush 16, 2) := by decide +kernel
theorem md_H_overlappingPair_7 : decode mb_H_overlappingPair 7 = .ok (.if_icmp .ge 52, 3) := by decide +kernel
theorem md_H_overlappingPair_10 : decode mb_H_overlappingPair 10 = .ok (.iload_n 3, 1) := by decide +kernel
theorem md_H_overlappingPair_11 : decode mb_H_overlappingPair 11 = .ok (.iconst 1, 1) := by decide +kernel
theorem md_H_overlappingPair_12 : decode mb_H_overlappingPair 12 = .ok (.iadd, 1) := by decide +kernel
theorem md_H_overlappingPair_13 : decode mb_H_overlappingPair 13 = .ok (.istore 4, 2) := by decide +kernel
theorem md_H_overlappingPair_15 : decode mb_H_overlappingPair 15 = .ok (.iload 4, 2) := by decide +kernel
theorem md_H_overlappingPair_17 : decode mb_H_overlappingPair 17 = .ok (.bipush 16, 2) := by decide +kernel
theorem md_H_overlappingPair_19 : decode mb_H_overlappingPair 19 = .ok (.if_icmp .ge 34, 3) := by decide +kernel
theorem md_H_overlappingPair_22 : decode mb_H_overlappingPair 22 = .ok (.aload_n 0, 1) := by decide +kernel
theorem md_H_overlappingPair_23 : decode mb_H_overlappingPair 23 = .ok (.iload_n 3, 1) := by decide +kernel
theorem md_H_overlappingPair_24 : decode mb_H_overlappingPair 24 = .ok (.iload 4, 2) := by decide +kernel
theorem md_H_overlappingPair_26 : decode mb_H_overlappingPair 26 = .ok (.invokevirtual 21, 3) := by decide +kernel
theorem md_H_overlappingPair_29 : decode mb_H_overlappingPair 29 = .ok (.ifCond .eq 18, 3) := by decide +kernel
theorem md_H_overlappingPair_32 : decode mb_H_overlappingPair 32 = .ok (.iload_n 2, 1) := by decide +kernel
theorem md_H_overlappingPair_33 : decode mb_H_overlappingPair 33 = .ok (.ifCond .ne 11, 3) := by decide +kernel
theorem md_H_overlappingPair_36 : decode mb_H_overlappingPair 36 = .ok (.bipush 16, 2) := by decide +kernel
theorem md_H_overlappingPair_38 : decode mb_H_overlappingPair 38 = .ok (.iload_n 3, 1) := by decide +kernel
theorem md_H_overlappingPair_39 : decode mb_H_overlappingPair 39 = .ok (.imul, 1) := by decide +kernel
theorem md_H_overlappingPair_40 : decode mb_H_overlappingPair 40 = .ok (.iload 4, 2) := by decide +kernel
theorem md_H_overlappingPair_42 : decode mb_H_overlappingPair 42 = .ok (.iadd, 1) := by decide +kernel
theorem md_H_overlappingPair_43 : decode mb_H_overlappingPair 43 = .ok (.ireturn, 1) := by decide +kernel
theorem md_H_overlappingPair_44 : decode mb_H_overlappingPair 44 = .ok (.iinc 2 (-1), 3) := by decide +kernel
theorem md_H_overlappingPair_47 : decode mb_H_overlappingPair 47 = .ok (.iinc 4 1, 3) := by decide +kernel
theorem md_H_overlappingPair_50 : decode mb_H_overlappingPair 50 = .ok (.goto (-35), 3) := by decide +kernel
theorem md_H_overlappingPair_53 : decode mb_H_overlappingPair 53 = .ok (.iinc 3 1, 3) := by decide +kernel
theorem md_H_overlappingPair_56 : decode mb_H_overlappingPair 56 = .ok (.goto (-52), 3) := by decide +kernel
theorem md_H_overlappingPair_59 : decode mb_H_overlappingPair 59 = .ok (.iconst (-1), 1) := by decide +kernel
theorem md_H_overlappingPair_60 : decode mb_H_overlappingPair 60 = .ok (.ireturn, 1) := by decide +kernel
theorem md_D_leastX_0 : decode mb_D_leastX 0 = .ok (.aload_n 0, 1) := by decide +kernel
theorem md_D_leastX_1 : decode mb_D_leastX 1 = .ok (.iconst 0, 1) := by decide +kernel
theorem md_D_leastX_2 : decode mb_D_leastX 2 = .ok (.iload_n 1, 1) := by decide +kernel
theorem md_D_leastX_3 : decode mb_D_leastX 3 = .ok (.invokevirtual 56, 3) := by decide +kernel
theorem md_D_leastX_6 : decode mb_D_leastX 6 = .ok (.lstore_n 2, 1) := by decide +kernel
theorem md_D_leastX_7 : decode mb_D_leastX 7 = .ok (.iconst 1, 1) := by decide +kernel
theorem md_D_leastX_8 : decode mb_D_leastX 8 = .ok (.istore 4, 2) := by decide +kernel
theorem md_D_leastX_10 : decode mb_D_leastX 10 = .ok (.iload 4, 2) := by decide +kernel
theorem md_D_leastX_12 : decode mb_D_leastX 12 = .ok (.iconst 4, 1) := by decide +kernel
theorem md_D_leastX_13 : decode mb_D_leastX 13 = .ok (.if_icmp .ge 21, 3) := by decide +kernel
theorem md_D_leastX_16 : decode mb_D_leastX 16 = .ok (.lload_n 2, 1) := by decide +kernel
theorem md_D_leastX_17 : decode mb_D_leastX 17 = .ok (.aload_n 0, 1) := by decide +kernel
theorem md_D_leastX_18 : decode mb_D_leastX 18 = .ok (.iload 4, 2) := by decide +kernel
theorem md_D_leastX_20 : decode mb_D_leastX 20 = .ok (.iload_n 1, 1) := by decide +kernel
theorem md_D_leastX_21 : decode mb_D_leastX 21 = .ok (.invokevirtual 56, 3) := by decide +kernel
theorem md_D_leastX_24 : decode mb_D_leastX 24 = .ok (.invokestatic 32, 3) := by decide +kernel
theorem md_D_leastX_27 : decode mb_D_leastX 27 = .ok (.lstore_n 2, 1) := by decide +kernel
theorem md_D_leastX_28 : decode mb_D_leastX 28 = .ok (.iinc 4 1, 3) := by decide +kernel
theorem md_D_leastX_31 : decode mb_D_leastX 31 = .ok (.goto (-21), 3) := by decide +kernel
theorem md_D_leastX_34 : decode mb_D_leastX 34 = .ok (.lload_n 2, 1) := by decide +kernel
theorem md_D_leastX_35 : decode mb_D_leastX 35 = .ok (.lreturn, 1) := by decide +kernel
theorem md_D_turnedX_0 : decode mb_D_turnedX 0 = .ok (.aload_n 0, 1) := by decide +kernel
theorem md_D_turnedX_1 : decode mb_D_turnedX 1 = .ok (.iload_n 1, 1) := by decide +kernel
theorem md_D_turnedX_2 : decode mb_D_turnedX 2 = .ok (.invokevirtual 42, 3) := by decide +kernel
theorem md_D_turnedX_5 : decode mb_D_turnedX 5 = .ok (.getstatic 46, 3) := by decide +kernel
theorem md_D_turnedX_8 : decode mb_D_turnedX 8 = .ok (.iload_n 2, 1) := by decide +kernel
theorem md_D_turnedX_9 : decode mb_D_turnedX 9 = .ok (.iaload, 1) := by decide +kernel
theorem md_D_turnedX_10 : decode mb_D_turnedX 10 = .ok (.i2l, 1) := by decide +kernel
theorem md_D_turnedX_11 : decode mb_D_turnedX 11 = .ok (.lmul, 1) := by decide +kernel
theorem md_D_turnedX_12 : decode mb_D_turnedX 12 = .ok (.aload_n 0, 1) := by decide +kernel
theorem md_D_turnedX_13 : decode mb_D_turnedX 13 = .ok (.iload_n 1, 1) := by decide +kernel
theorem md_D_turnedX_14 : decode mb_D_turnedX 14 = .ok (.invokevirtual 50, 3) := by decide +kernel
theorem md_D_turnedX_17 : decode mb_D_turnedX 17 = .ok (.getstatic 53, 3) := by decide +kernel
theorem md_D_turnedX_20 : decode mb_D_turnedX 20 = .ok (.iload_n 2, 1) := by decide +kernel
theorem md_D_turnedX_21 : decode mb_D_turnedX 21 = .ok (.iaload, 1) := by decide +kernel
theorem md_D_turnedX_22 : decode mb_D_turnedX 22 = .ok (.i2l, 1) := by decide +kernel
theorem md_D_turnedX_23 : decode mb_D_turnedX 23 = .ok (.lmul, 1) := by decide +kernel
theorem md_D_turnedX_24 : decode mb_D_turnedX 24 = .ok (.lsub, 1) := by decide +kernel
theorem md_D_turnedX_25 : decode mb_D_turnedX 25 = .ok (.lreturn, 1) := by decide +kernel
theorem md_D_shutX_0 : decode mb_D_shutX 0 = .ok (.iload_n 1, 1) := by decide +kernel
theorem md_D_shutX_1 : decode mb_D_shutX 1 = .ok (.iconst 1, 1) := by decide +kernel
theorem md_D_shutX_2 : decode mb_D_shutX 2 = .ok (.if_icmp .eq 8, 3) := by decide +kernel
theorem md_D_shutX_5 : decode mb_D_shutX 5 = .ok (.iload_n 1, 1) := by decide +kernel
theorem md_D_shutX_6 : decode mb_D_shutX 6 = .ok (.iconst 2, 1) := by decide +kernel
theorem md_D_shutX_7 : decode mb_D_shutX 7 = .ok (.if_icmp .ne 10, 3) := by decide +kernel
theorem md_D_shutX_10 : decode mb_D_shutX 10 = .ok (.aload_n 0, 1) := by decide +kernel
theorem md_D_shutX_11 : decode mb_D_shutX 11 = .ok (.getfield 11, 3) := by decide +kernel
theorem md_D_shutX_14 : decode mb_D_shutX 14 = .ok (.goto 4, 3) := by decide +kernel
theorem md_D_shutX_17 : decode mb_D_shutX 17 = .ok (.lconst 0, 1) := by decide +kernel
theorem md_D_shutX_18 : decode mb_D_shutX 18 = .ok (.lreturn, 1) := by decide +kernel
theorem md_D_shutY_0 : decode mb_D_shutY 0 = .ok (.iload_n 1, 1) := by decide +kernel
theorem md_D_shutY_1 : decode mb_D_shutY 1 = .ok (.iconst 2, 1) := by decide +kernel
theorem md_D_shutY_2 : decode mb_D_shutY 2 = .ok (.if_icmp .lt 10, 3) := by decide +kernel
theorem md_D_shutY_5 : decode mb_D_shutY 5 = .ok (.aload_n 0, 1) := by decide +kernel
theorem md_D_shutY_6 : decode mb_D_shutY 6 = .ok (.getfield 24, 3) := by decide +kernel
theorem md_D_shutY_9 : decode mb_D_shutY 9 = .ok (.goto 4, 3) := by decide +kernel
theorem md_D_shutY_12 : decode mb_D_shutY 12 = .ok (.lconst 0, 1) := by decide +kernel
theorem md_D_shutY_13 : decode mb_D_shutY 13 = .ok (.lreturn, 1) := by decide +kernel
theorem md_D_turnedY_0 : decode mb_D_turnedY 0 = .ok (.aload_n 0, 1) := by decide +kernel
theorem md_D_turnedY_1 : decode mb_D_turnedY 1 = .ok (.iload_n 1, 1) := by decide +kernel
theorem md_D_turnedY_2 : decode mb_D_turnedY 2 = .ok (.invokevirtual 42, 3) := by decide +kernel
theorem md_D_turnedY_5 : decode mb_D_turnedY 5 = .ok (.getstatic 53, 3) := by decide +kernel
theorem md_D_turnedY_8 : decode mb_D_turnedY 8 = .ok (.iload_n 2, 1) := by decide +kernel
theorem md_D_turnedY_9 : decode mb_D_turnedY 9 = .ok (.iaload, 1) := by decide +kernel
theorem md_D_turnedY_10 : decode mb_D_turnedY 10 = .ok (.i2l, 1) := by decide +kernel
theorem md_D_turnedY_11 : decode mb_D_turnedY 11 = .ok (.lmul, 1) := by decide +kernel
theorem md_D_turnedY_12 : decode mb_D_turnedY 12 = .ok (.aload_n 0, 1) := by decide +kernel
theorem md_D_turnedY_13 : decode mb_D_turnedY 13 = .ok (.iload_n 1, 1) := by decide +kernel
theorem md_D_turnedY_14 : decode mb_D_turnedY 14 = .ok (.invokevirtual 50, 3) := by decide +kernel
theorem md_D_turnedY_17 : decode mb_D_turnedY 17 = .ok (.getstatic 46, 3) := by decide +kernel
theorem md_D_turnedY_20 : decode mb_D_turnedY 20 = .ok (.iload_n 2, 1) := by decide +kernel
theorem md_D_turnedY_21 : decode mb_D_turnedY 21 = .ok (.iaload, 1) := by decide +kernel
theorem md_D_turnedY_22 : decode mb_D_turnedY 22 = .ok (.i2l, 1) := by decide +kernel
theorem md_D_turnedY_23 : decode mb_D_turnedY 23 = .ok (.lmul, 1) := by decide +kernel
theorem md_D_turnedY_24 : decode mb_D_turnedY 24 = .ok (.ladd, 1) := by decide +kernel
theorem md_D_turnedY_25 : decode mb_D_turnedY 25 = .ok (.lreturn, 1) := by decide +kernel
end
section
theorem md_T_init_0 : decode mb_T_init 0 = .ok (.aload_n 0, 1) := by decide +kernel
theorem md_T_init_1 : decode mb_T_init 1 = .ok (.invokespecial 3, 3) := by decide +kernel
theorem md_T_init_4 : decode mb_T_init 4 = .ok (.aload_n 0, 1) := by decide +kernel
theorem md_T_init_5 : decode mb_T_init 5 = .ok (.bipush 16, 2) := by decide +kernel
theorem md_T_init_7 : decode mb_T_init 7 = .ok (.newarray .char, 2) := by decide +kernel
theorem md_T_init_9 : decode mb_T_init 9 = .ok (.putfield 9, 3) := by decide +kernel
theorem md_T_init_12 : decode mb_T_init 12 = .ok (.aload_n 0, 1) := by decide +kernel
theorem md_T_init_13 : decode mb_T_init 13 = .ok (.bipush 96, 2) := by decide +kernel
theorem md_T_init_15 : decode mb_T_init 15 = .ok (.newarray .int, 2) := by decide +kernel
theorem md_T_init_17 : decode mb_T_init 17 = .ok (.putfield 15, 3) := by decide +kernel
theorem md_T_init_20 : decode mb_T_init 20 = .ok (.aload_n 0, 1) := by decide +kernel
theorem md_T_init_21 : decode mb_T_init 21 = .ok (.bipush 16, 2) := by decide +kernel
theorem md_T_init_23 : decode mb_T_init 23 = .ok (.newarray .int, 2) := by decide +kernel
theorem md_T_init_25 : decode mb_T_init 25 = .ok (.putfield 19, 3) := by decide +kernel
theorem md_T_init_28 : decode mb_T_init 28 = .ok (.return_, 1) := by decide +kernel
theorem md_T_fill_0 : decode mb_T_fill 0 = .ok (.aload_n 0, 1) := by decide +kernel
theorem md_T_fill_1 : decode mb_T_fill 1 = .ok (.iconst 0, 1) := by decide +kernel
theorem md_T_fill_2 : decode mb_T_fill 2 = .ok (.putfield 22, 3) := by decide +kernel
theorem md_T_fill_5 : decode mb_T_fill 5 = .ok (.iconst 0, 1) := by decide +kernel
theorem md_T_fill_6 : decode mb_T_fill 6 = .ok (.istore_n 2, 1) := by decide +kernel
theorem md_T_fill_7 : decode mb_T_fill 7 = .ok (.iconst 0, 1) := by decide +kernel
theorem md_T_fill_8 : decode mb_T_fill 8 = .ok (.istore_n 3, 1) := by decide +kernel
theorem md_T_fill_9 : decode mb_T_fill 9 = .ok (.iload_n 3, 1) := by decide +kernel
theorem md_T_fill_10 : decode mb_T_fill 10 = .ok (.bipush 16, 2) := by decide +kernel
theorem md_T_fill_12 : decode mb_T_fill 12 = .ok (.if_icmp .ge 59, 3) := by decide +kernel
theorem md_T_fill_15 : decode mb_T_fill 15 = .ok (.iload_n 3, 1) := by decide +kernel
theorem md_T_fill_16 : decode mb_T_fill 16 = .ok (.ifCond .le 35, 3) := by decide +kernel
theorem md_T_fill_19 : decode mb_T_fill 19 = .ok (.aload_n 1, 1) := by decide +kernel
theorem md_T_fill_20 : decode mb_T_fill 20 = .ok (.iload_n 2, 1) := by decide +kernel
theorem md_T_fill_21 : decode mb_T_fill 21 = .ok (.invokevirtual 26, 3) := by decide +kernel
theorem md_T_fill_24 : decode mb_T_fill 24 = .ok (.ifCond .eq 9, 3) := by decide +kernel
theorem md_T_fill_27 : decode mb_T_fill 27 = .ok (.aload_n 0, 1) := by decide +kernel
theorem md_T_fill_28 : decode mb_T_fill 28 = .ok (.iload_n 3, 1) := by decide +kernel
theorem md_T_fill_29 : decode mb_T_fill 29 = .ok (.invokevirtual 32, 3) := by decide +kernel
theorem md_T_fill_32 : decode mb_T_fill 32 = .ok (.ireturn, 1) := by decide +kernel
theorem md_T_fill_33 : decode mb_T_fill 33 = .ok (.aload_n 1, 1) := by decide +kernel
theorem md_T_fill_34 : decode mb_T_fill 34 = .ok (.iload_n 2, 1) := by decide +kernel
theorem md_T_fill_35 : decode mb_T_fill 35 = .ok (.invokevirtual 36, 3) := by decide +kernel
theorem md_T_fill_38 : decode mb_T_fill 38 = .ok (.bipush 59, 2) := by decide +kernel
theorem md_T_fill_40 : decode mb_T_fill 40 = .ok (.if_icmp .eq 8, 3) := by decide +kernel
theorem md_T_fill_43 : decode mb_T_fill 43 = .ok (.iload_n 2, 1) := by decide +kernel
theorem md_T_fill_44 : decode mb_T_fill 44 = .ok (.invokestatic 40, 3) := by decide +kernel
theorem md_T_fill_47 : decode mb_T_fill 47 = .ok (.ireturn, 1) := by decide +kernel
theorem md_T_fill_48 : decode mb_T_fill 48 = .ok (.iinc 2 1, 3) := by decide +kernel
theorem md_T_fill_51 : decode mb_T_fill 51 = .ok (.aload_n 0, 1) := by decide +kernel
theorem md_T_fill_52 : decode mb_T_fill 52 = .ok (.aload_n 1, 1) := by decide +kernel
theorem md_T_fill_53 : decode mb_T_fill 53 = .ok (.iload_n 3, 1) := by decide +kernel
theorem md_T_fill_54 : decode mb_T_fill 54 = .ok (.iload_n 2, 1) := by decide +kernel
theorem md_T_fill_55 : decode mb_T_fill 55 = .ok (.invokevirtual 43, 3) := by decide +kernel
theorem md_T_fill_58 : decode mb_T_fill 58 = .ok (.istore_n 2, 1) := by decide +kernel
theorem md_T_fill_59 : decode mb_T_fill 59 = .ok (.iload_n 2, 1) := by decide +kernel
theorem md_T_fill_60 : decode mb_T_fill 60 = .ok (.ifCond .ge 5, 3) := by decide +kernel
theorem md_T_fill_63 : decode mb_T_fill 63 = .ok (.iload_n 2, 1) := by decide +kernel
theorem md_T_fill_64 : decode mb_T_fill 64 = .ok (.ireturn, 1) := by decide +kernel
theorem md_T_fill_65 : decode mb_T_fill 65 = .ok (.iinc 3 1, 3) := by decide +kernel
theorem md_T_fill_68 : decode mb_T_fill 68 = .ok (.goto (-59), 3) := by decide +kernel
theorem md_T_fill_71 : decode mb_T_fill 71 = .ok (.aload_n 1, 1) := by decide +kernel
theorem md_T_fill_72 : decode mb_T_fill 72 = .ok (.iload_n 2, 1) := by decide +kernel
theorem md_T_fill_73 : decode mb_T_fill 73 = .ok (.invokevirtual 26, 3) := by decide +kernel
theorem md_T_fill_76 : decode mb_T_fill 76 = .ok (.ifCond .eq 12, 3) := by decide +kernel
theorem md_T_fill_79 : decode mb_T_fill 79 = .ok (.aload_n 0, 1) := by decide +kernel
theorem md_T_fill_80 : decode mb_T_fill 80 = .ok (.bipush 16, 2) := by decide +kernel
theorem md_T_fill_82 : decode mb_T_fill 82 = .ok (.invokevirtual 32, 3) := by decide +kernel
theorem md_T_fill_85 : decode mb_T_fill 85 = .ok (.goto 7, 3) := by decide +kernel
theorem md_T_fill_88 : decode mb_T_fill 88 = .ok (.iload_n 2, 1) := by decide +kernel
theorem md_T_fill_89 : decode mb_T_fill 89 = .ok (.invokestatic 40, 3) := by decide +kernel
theorem md_T_fill_92 : decode mb_T_fill 92 = .ok (.ireturn, 1) := by decide +kernel
theorem md_T_finish_0 : decode mb_T_finish 0 = .ok (.aload_n 0, 1) := by decide +kernel
theorem md_T_finish_1 : decode mb_T_finish 1 = .ok (.iload_n 1, 1) := by decide +kernel
theorem md_T_finish_2 : decode mb_T_finish 2 = .ok (.putfield 22, 3) := by decide +kernel
theorem md_T_finish_5 : decode mb_T_finish 5 = .ok (.iconst 0, 1) := by decide +kernel
theorem md_T_finish_6 : decode mb_T_finish 6 = .ok (.istore_n 2, 1) := by decide +kernel
theorem md_T_finish_7 : decode mb_T_finish 7 = .ok (.iload_n 2, 1) := by decide +kernel
theorem md_T_finish_8 : decode mb_T_finish 8 = .ok (.bipush 16, 2) := by decide +kernel
theorem md_T_finish_10 : decode mb_T_finish 10 = .ok (.if_icmp .ge 17, 3) := by decide +kernel
theorem md_T_finish_13 : decode mb_T_finish 13 = .ok (.aload_n 0, 1) := by decide +kernel
theorem md_T_finish_14 : decode mb_T_finish 14 = .ok (.getfield 19, 3) := by decide +kernel
theorem md_T_finish_17 : decode mb_T_finish 17 = .ok (.iload_n 2, 1) := by decide +kernel
theorem md_T_finish_18 : decode mb_T_finish 18 = .ok (.bipush 9, 2) := by decide +kernel
theorem md_T_finish_20 : decode mb_T_finish 20 = .ok (.iastore, 1) := by decide +kernel
theorem md_T_finish_21 : decode mb_T_finish 21 = .ok (.iinc 2 1, 3) := by decide +kernel
theorem md_T_finish_24 : decode mb_T_finish 24 = .ok (.goto (-17), 3) := by decide +kernel
theorem md_T_finish_27 : decode mb_T_finish 27 = .ok (.iload_n 1, 1) := by decide +kernel
theorem md_T_finish_28 : decode mb_T_finish 28 = .ok (.ireturn, 1) := by decide +kernel
theorem md_T_fault_0 : decode mb_T_fault 0 = .ok (.iconst (-1), 1) := by decide +kernel
theorem md_T_fault_1 : decode mb_T_fault 1 = .ok (.iload_n 0, 1) := by decide +kernel
theorem md_T_fault_2 : decode mb_T_fault 2 = .ok (.isub, 1) := by decide +kernel
theorem md_T_fault_3 : decode mb_T_fault 3 = .ok (.ireturn, 1) := by decide +kernel
theorem md_T_fillRow_0 : decode mb_T_fillRow 0 = .ok (.aload_n 1, 1) := by decide +kernel
theorem md_T_fillRow_1 : decode mb_T_fillRow 1 = .ok (.iload_n 3, 1) := by decide +kernel
theorem md_T_fillRow_2 : decode mb_T_fillRow 2 = .ok (.invokevirtual 36, 3) := by decide +kernel
theorem md_T_fillRow_5 : decode mb_T_fillRow 5 = .ok (.istore 4, 2) := by decide +kernel
theorem md_T_fillRow_7 : decode mb_T_fillRow 7 = .ok (.iload 4, 2) := by decide +kernel
theorem md_T_fillRow_9 : decode mb_T_fillRow 9 = .ok (.invokestatic 47, 3) := by decide +kernel
theorem md_T_fillRow_12 : decode mb_T_fillRow 12 = .ok (.istore 5, 2) := by decide +kernel
theorem md_T_fillRow_14 : decode mb_T_fillRow 14 = .ok (.iload 5, 2) := by decide +kernel
theorem md_T_fillRow_16 : decode mb_T_fillRow 16 = .ok (.ifCond .ne 8, 3) := by decide +kernel
theorem md_T_fillRow_19 : decode mb_T_fillRow 19 = .ok (.iload_n 3, 1) := by decide +kernel
theorem md_T_fillRow_20 : decode mb_T_fillRow 20 = .ok (.invokestatic 40, 3) := by decide +kernel
theorem md_T_fillRow_23 : decode mb_T_fillRow 23 = .ok (.ireturn, 1) := by decide +kernel
theorem md_T_fillRow_24 : decode mb_T_fillRow 24 = .ok (.aload_n 0, 1) := by decide +kernel
theorem md_T_fillRow_25 : decode mb_T_fillRow 25 = .ok (.getfield 9, 3) := by decide +kernel
theorem md_T_fillRow_28 : decode mb_T_fillRow 28 = .ok (.iload_n 2, 1) := by decide +kernel
theorem md_T_fillRow_29 : decode mb_T_fillRow 29 = .ok (.iload 4, 2) := by decide +kernel
theorem md_T_fillRow_31 : decode mb_T_fillRow 31 = .ok (.castore, 1) := by decide +kernel
theorem md_T_fillRow_32 : decode mb_T_fillRow 32 = .ok (.iload_n 3, 1) := by decide +kernel
theorem md_T_fillRow_33 : decode mb_T_fillRow 33 = .ok (.iconst 1, 1) := by decide +kernel
theorem md_T_fillRow_34 : decode mb_T_fillRow 34 = .ok (.iadd, 1) := by decide +kernel
theorem md_T_fillRow_35 : decode mb_T_fillRow 35 = .ok (.istore 6, 2) := by decide +kernel
theorem md_T_fillRow_37 : decode mb_T_fillRow 37 = .ok (.iconst 0, 1) := by decide +kernel
theorem md_T_fillRow_38 : decode mb_T_fillRow 38 = .ok (.istore 7, 2) := by decide +kernel
theorem md_T_fillRow_40 : decode mb_T_fillRow 40 = .ok (.iload 7, 2) := by decide +kernel
theorem md_T_fillRow_42 : decode mb_T_fillRow 42 = .ok (.iload 5, 2) := by decide +kernel
theorem md_T_fillRow_44 : decode mb_T_fillRow 44 = .ok (.if_icmp .ge 54, 3) := by decide +kernel
theorem md_T_fillRow_47 : decode mb_T_fillRow 47 = .ok (.iload 7, 2) := by decide +kernel
theorem md_T_fillRow_49 : decode mb_T_fillRow 49 = .ok (.ifCond .le 23, 3) := by decide +kernel
theorem md_T_fillRow_52 : decode mb_T_fillRow 52 = .ok (.aload_n 1, 1) := by decide +kernel
theorem md_T_fillRow_53 : decode mb_T_fillRow 53 = .ok (.iload 6, 2) := by decide +kernel
theorem md_T_fillRow_55 : decode mb_T_fillRow 55 = .ok (.invokevirtual 36, 3) := by decide +kernel
theorem md_T_fillRow_58 : decode mb_T_fillRow 58 = .ok (.bipush 44, 2) := by decide +kernel
theorem md_T_fillRow_60 : decode mb_T_fillRow 60 = .ok (.if_icmp .eq 9, 3) := by decide +kernel
theorem md_T_fillRow_63 : decode mb_T_fillRow 63 = .ok (.iload 6, 2) := by decide +kernel
theorem md_T_fillRow_65 : decode mb_T_fillRow 65 = .ok (.invokestatic 40, 3) := by decide +kernel
theorem md_T_fillRow_68 : decode mb_T_fillRow 68 = .ok (.ireturn, 1) := by decide +kernel
theorem md_T_fillRow_69 : decode mb_T_fillRow 69 = .ok (.iinc 6 1, 3) := by decide +kernel
theorem md_T_fillRow_72 : decode mb_T_fillRow 72 = .ok (.aload_n 0, 1) := by decide +kernel
theorem md_T_fillRow_73 : decode mb_T_fillRow 73 = .ok (.aload_n 1, 1) := by decide +kernel
theorem md_T_fillRow_74 : decode mb_T_fillRow 74 = .ok (.iload_n 2, 1) := by decide +kernel
theorem md_T_fillRow_75 : decode mb_T_fillRow 75 = .ok (.iload 7, 2) := by decide +kernel
theorem md_T_fillRow_77 : decode mb_T_fillRow 77 = .ok (.iload 6, 2) := by decide +kernel
theorem md_T_fillRow_79 : decode mb_T_fillRow 79 = .ok (.invokevirtual 51, 3) := by decide +kernel
theorem md_T_fillRow_82 : decode mb_T_fillRow 82 = .ok (.istore 6, 2) := by decide +kernel
theorem md_T_fillRow_84 : decode mb_T_fillRow 84 = .ok (.iload 6, 2) := by decide +kernel
theorem md_T_fillRow_86 : decode mb_T_fillRow 86 = .ok (.ifCond .ge 6, 3) := by decide +kernel
theorem md_T_fillRow_89 : decode mb_T_fillRow 89 = .ok (.iload 6, 2) := by decide +kernel
theorem md_T_fillRow_91 : decode mb_T_fillRow 91 = .ok (.ireturn, 1) := by decide +kernel
theorem md_T_fillRow_92 : decode mb_T_fillRow 92 = .ok (.iinc 7 1, 3) := by decide +kernel
theorem md_T_fillRow_95 : decode mb_T_fillRow 95 = .ok (.goto (-55), 3) := by decide +kernel
theorem md_T_fillRow_98 : decode mb_T_fillRow 98 = .ok (.iload 6, 2) := by decide +kernel
theorem md_T_fillRow_100 : decode mb_T_fillRow 100 = .ok (.ireturn, 1) := by decide +kernel
theorem md_T_fillNumber_0 : decode mb_T_fillNumber 0 = .ok (.iconst 0, 1) := by decide +kernel
theorem md_T_fillNumber_1 : decode mb_T_fillNumber 1 = .ok (.istore 5, 2) := by decide +kernel
theorem md_T_fillNumber_3 : decode mb_T_fillNumber 3 = .ok (.iload 4, 2) := by decide +kernel
theorem md_T_fillNumber_5 : decode mb_T_fillNumber 5 = .ok (.istore 6, 2) := by decide +kernel
theorem md_T_fillNumber_7 : decode mb_T_fillNumber 7 = .ok (.iconst 0, 1) := by decide +kernel
theorem md_T_fillNumber_8 : decode mb_T_fillNumber 8 = .ok (.istore 7, 2) := by decide +kernel
theorem md_T_fillNumber_10 : decode mb_T_fillNumber 10 = .ok (.iload 7, 2) := by decide +kernel
theorem md_T_fillNumber_12 : decode mb_T_fillNumber 12 = .ok (.iconst 5, 1) := by decide +kernel
theorem md_T_fillNumber_13 : decode mb_T_fillNumber 13 = .ok (.if_icmp .ge 41, 3) := by decide +kernel
theorem md_T_fillNumber_16 : decode mb_T_fillNumber 16 = .ok (.aload_n 1, 1) := by decide +kernel
theorem md_T_fillNumber_17 : decode mb_T_fillNumber 17 = .ok (.iload 6, 2) := by decide +kernel
theorem md_T_fillNumber_19 : decode mb_T_fillNumber 19 = .ok (.invokevirtual 36, 3) := by decide +kernel
theorem md_T_fillNumber_22 : decode mb_T_fillNumber 22 = .ok (.invokestatic 55, 3) := by decide +kernel
theorem md_T_fillNumber_25 : decode mb_T_fillNumber 25 = .ok (.ifCond .eq 29, 3) := by decide +kernel
theorem md_T_fillNumber_28 : decode mb_T_fillNumber 28 = .ok (.bipush 10, 2) := by decide +kernel
theorem md_T_fillNumber_30 : decode mb_T_fillNumber 30 = .ok (.iload 5, 2) := by decide +kernel
theorem md_T_fillNumber_32 : decode mb_T_fillNumber 32 = .ok (.imul, 1) := by decide +kernel
theorem md_T_fillNumber_33 : decode mb_T_fillNumber 33 = .ok (.aload_n 1, 1) := by decide +kernel
theorem md_T_fillNumber_34 : decode mb_T_fillNumber 34 = .ok (.iload 6, 2) := by decide +kernel
theorem md_T_fillNumber_36 : decode mb_T_fillNumber 36 = .ok (.invokevirtual 36, 3) := by decide +kernel
theorem md_T_fillNumber_39 : decode mb_T_fillNumber 39 = .ok (.bipush 48, 2) := by decide +kernel
theorem md_T_fillNumber_41 : decode mb_T_fillNumber 41 = .ok (.isub, 1) := by decide +kernel
theorem md_T_fillNumber_42 : decode mb_T_fillNumber 42 = .ok (.iadd, 1) := by decide +kernel
theorem md_T_fillNumber_43 : decode mb_T_fillNumber 43 = .ok (.istore 5, 2) := by decide +kernel
theorem md_T_fillNumber_45 : decode mb_T_fillNumber 45 = .ok (.iinc 6 1, 3) := by decide +kernel
theorem md_T_fillNumber_48 : decode mb_T_fillNumber 48 = .ok (.iinc 7 1, 3) := by decide +kernel
theorem md_T_fillNumber_51 : decode mb_T_fillNumber 51 = .ok (.goto (-41), 3) := by decide +kernel
theorem md_T_fillNumber_54 : decode mb_T_fillNumber 54 = .ok (.iload 6, 2) := by decide +kernel
theorem md_T_fillNumber_56 : decode mb_T_fillNumber 56 = .ok (.iload 4, 2) := by decide +kernel
theorem md_T_fillNumber_58 : decode mb_T_fillNumber 58 = .ok (.if_icmp .eq 14, 3) := by decide +kernel
theorem md_T_fillNumber_61 : decode mb_T_fillNumber 61 = .ok (.aload_n 0, 1) := by decide +kernel
theorem md_T_fillNumber_62 : decode mb_T_fillNumber 62 = .ok (.iload_n 2, 1) := by decide +kernel
theorem md_T_fillNumber_63 : decode mb_T_fillNumber 63 = .ok (.iload_n 3, 1) := by decide +kernel
theorem md_T_fillNumber_64 : decode mb_T_fillNumber 64 = .ok (.iload 5, 2) := by decide +kernel
theorem md_T_fillNumber_66 : decode mb_T_fillNumber 66 = .ok (.invokevirtual 59, 3) := by decide +kernel
theorem md_T_fillNumber_69 : decode mb_T_fillNumber 69 = .ok (.ifCond .ne 9, 3) := by decide +kernel
theorem md_T_fillNumber_72 : decode mb_T_fillNumber 72 = .ok (.iload 4, 2) := by decide +kernel
theorem md_T_fillNumber_74 : decode mb_T_fillNumber 74 = .ok (.invokestatic 40, 3) := by decide +kernel
theorem md_T_fillNumber_77 : decode mb_T_fillNumber 77 = .ok (.ireturn, 1) := by decide +kernel
theorem md_T_fillNumber_78 : decode mb_T_fillNumber 78 = .ok (.aload_n 0, 1) := by decide +kernel
theorem md_T_fillNumber_79 : decode mb_T_fillNumber 79 = .ok (.getfield 15, 3) := by decide +kernel
theorem md_T_fillNumber_82 : decode mb_T_fillNumber 82 = .ok (.iload_n 2, 1) := by decide +kernel
theorem md_T_fillNumber_83 : decode mb_T_fillNumber 83 = .ok (.bipush 6, 2) := by decide +kernel
theorem md_T_fillNumber_85 : decode mb_T_fillNumber 85 = .ok (.imul, 1) := by decide +kernel
theorem md_T_fillNumber_86 : decode mb_T_fillNumber 86 = .ok (.iload_n 3, 1) := by decide +kernel
theorem md_T_fillNumber_87 : decode mb_T_fillNumber 87 = .ok (.iadd, 1) := by decide +kernel
theorem md_T_fillNumber_88 : decode mb_T_fillNumber 88 = .ok (.iload 5, 2) := by decide +kernel
theorem md_T_fillNumber_90 : decode mb_T_fillNumber 90 = .ok (.iastore, 1) := by decide +kernel
theorem md_T_fillNumber_91 : decode mb_T_fillNumber 91 = .ok (.iload 6, 2) := by decide +kernel
theorem md_T_fillNumber_93 : decode mb_T_fillNumber 93 = .ok (.ireturn, 1) := by decide +kernel
theorem md_T_isDigit_0 : decode mb_T_isDigit 0 = .ok (.iload_n 0, 1) := by decide +kernel
theorem md_T_isDigit_1 : decode mb_T_isDigit 1 = .ok (.bipush 48, 2) := by decide +kernel
theorem md_T_isDigit_3 : decode mb_T_isDigit 3 = .ok (.if_icmp .lt 13, 3) := by decide +kernel
theorem md_T_isDigit_6 : decode mb_T_isDigit 6 = .ok (.iload_n 0, 1) := by decide +kernel
theorem md_T_isDigit_7 : decode mb_T_isDigit 7 = .ok (.bipush 57, 2) := by decide +kernel
theorem md_T_isDigit_9 : decode mb_T_isDigit 9 = .ok (.if_icmp .gt 7, 3) := by decide +kernel
theorem md_T_isDigit_12 : decode mb_T_isDigit 12 = .ok (.iconst 1, 1) := by decide +kernel
theorem md_T_isDigit_13 : decode mb_T_isDigit 13 = .ok (.goto 4, 3) := by decide +kernel
theorem md_T_isDigit_16 : decode mb_T_isDigit 16 = .ok (.iconst 0, 1) := by decide +kernel
theorem md_T_isDigit_17 : decode mb_T_isDigit 17 = .ok (.ireturn, 1) := by decide +kernel
theorem md_T_mayStand_0 : decode mb_T_mayStand 0 = .ok (.aload_n 0, 1) := by decide +kernel
theorem md_T_mayStand_1 : decode mb_T_mayStand 1 = .ok (.getfield 9, 3) := by decide +kernel
theorem md_T_mayStand_4 : decode mb_T_mayStand 4 = .ok (.iload_n 1, 1) := by decide +kernel
theorem md_T_mayStand_5 : decode mb_T_mayStand 5 = .ok (.caload, 1) := by decide +kernel
theorem md_T_mayStand_6 : decode mb_T_mayStand 6 = .ok (.bipush 104, 2) := by decide +kernel
theorem md_T_mayStand_8 : decode mb_T_mayStand 8 = .ok (.if_icmp .ne 31, 3) := by decide +kernel
theorem md_T_mayStand_11 : decode mb_T_mayStand 11 = .ok (.iload_n 2, 1) := by decide +kernel
theorem md_T_mayStand_12 : decode mb_T_mayStand 12 = .ok (.iconst 1, 1) := by decide +kernel
theorem md_T_mayStand_13 : decode mb_T_mayStand 13 = .ok (.if_icmp .eq 8, 3) := by decide +kernel
theorem md_T_mayStand_16 : decode mb_T_mayStand 16 = .ok (.iload_n 2, 1) := by decide +kernel
theorem md_T_mayStand_17 : decode mb_T_mayStand 17 = .ok (.iconst 3, 1) := by decide +kernel
theorem md_T_mayStand_18 : decode mb_T_mayStand 18 = .ok (.if_icmp .ne 21, 3) := by decide +kernel
theorem md_T_mayStand_21 : decode mb_T_mayStand 21 = .ok (.iload_n 3, 1) := by decide +kernel
theorem md_T_mayStand_22 : decode mb_T_mayStand 22 = .ok (.aload_n 0, 1) := by decide +kernel
theorem md_T_mayStand_23 : decode mb_T_mayStand 23 = .ok (.iload_n 1, 1) := by decide +kernel
theorem md_T_mayStand_24 : decode mb_T_mayStand 24 = .ok (.iload_n 2, 1) := by decide +kernel
theorem md_T_mayStand_25 : decode mb_T_mayStand 25 = .ok (.iconst 1, 1) := by decide +kernel
theorem md_T_mayStand_26 : decode mb_T_mayStand 26 = .ok (.isub, 1) := by decide +kernel
theorem md_T_mayStand_27 : decode mb_T_mayStand 27 = .ok (.invokevirtual 63, 3) := by decide +kernel
theorem md_T_mayStand_30 : decode mb_T_mayStand 30 = .ok (.if_icmp .lt 7, 3) := by decide +kernel
theorem md_T_mayStand_33 : decode mb_T_mayStand 33 = .ok (.iconst 1, 1) := by decide +kernel
theorem md_T_mayStand_34 : decode mb_T_mayStand 34 = .ok (.goto 4, 3) := by decide +kernel
theorem md_T_mayStand_37 : decode mb_T_mayStand 37 = .ok (.iconst 0, 1) := by decide +kernel
theorem md_T_mayStand_38 : decode mb_T_mayStand 38 = .ok (.ireturn, 1) := by decide +kernel
theorem md_T_mayStand_39 : decode mb_T_mayStand 39 = .ok (.aload_n 0, 1) := by decide +kernel
theorem md_T_mayStand_40 : decode mb_T_mayStand 40 = .ok (.getfield 9, 3) := by decide +kernel
theorem md_T_mayStand_43 : decode mb_T_mayStand 43 = .ok (.iload_n 1, 1) := by decide +kernel
theorem md_T_mayStand_44 : decode mb_T_mayStand 44 = .ok (.caload, 1) := by decide +kernel
theorem md_T_mayStand_45 : decode mb_T_mayStand 45 = .ok (.bipush 99, 2) := by decide +kernel
theorem md_T_mayStand_47 : decode mb_T_mayStand 47 = .ok (.if_icmp .ne 25, 3) := by decide +kernel
theorem md_T_mayStand_50 : decode mb_T_mayStand 50 = .ok (.iload_n 2, 1) := by decide +kernel
theorem md_T_mayStand_51 : decode mb_T_mayStand 51 = .ok (.iconst 2, 1) := by decide +kernel
theorem md_T_mayStand_52 : decode mb_T_mayStand 52 = .ok (.if_icmp .ne 20, 3) := by decide +kernel
theorem md_T_mayStand_55 : decode mb_T_mayStand 55 = .ok (.iload_n 3, 1) := by decide +kernel
theorem md_T_mayStand_56 : decode mb_T_mayStand 56 = .ok (.iconst 1, 1) := by decide +kernel
theorem md_T_mayStand_57 : decode mb_T_mayStand 57 = .ok (.if_icmp .lt 13, 3) := by decide +kernel
theorem md_T_mayStand_60 : decode mb_T_mayStand 60 = .ok (.iload_n 3, 1) := by decide +kernel
theorem md_T_mayStand_61 : decode mb_T_mayStand 61 = .ok (.bipush 9, 2) := by decide +kernel
theorem md_T_mayStand_63 : decode mb_T_mayStand 63 = .ok (.if_icmp .gt 7, 3) := by decide +kernel
theorem md_T_mayStand_66 : decode mb_T_mayStand 66 = .ok (.iconst 1, 1) := by decide +kernel
theorem md_T_mayStand_67 : decode mb_T_mayStand 67 = .ok (.goto 4, 3) := by decide +kernel
theorem md_T_mayStand_70 : decode mb_T_mayStand 70 = .ok (.iconst 0, 1) := by decide +kernel
theorem md_T_mayStand_71 : decode mb_T_mayStand 71 = .ok (.ireturn, 1) := by decide +kernel
theorem md_T_mayStand_72 : decode mb_T_mayStand 72 = .ok (.iconst 1, 1) := by decide +kernel
theorem md_T_mayStand_73 : decode mb_T_mayStand 73 = .ok (.ireturn, 1) := by decide +kernel
theorem md_T_number_0 : decode mb_T_number 0 = .ok (.aload_n 0, 1) := by decide +kernel
theorem md_T_number_1 : decode mb_T_number 1 = .ok (.getfield 15, 3) := by decide +kernel
theorem md_T_number_4 : decode mb_T_number 4 = .ok (.iload_n 1, 1) := by decide +kernel
theorem md_T_number_5 : decode mb_T_number 5 = .ok (.bipush 6, 2) := by decide +kernel
theorem md_T_number_7 : decode mb_T_number 7 = .ok (.imul, 1) := by decide +kernel
theorem md_T_number_8 : decode mb_T_number 8 = .ok (.iload_n 2, 1) := by decide +kernel
theorem md_T_number_9 : decode mb_T_number 9 = .ok (.iadd, 1) := by decide +kernel
theorem md_T_number_10 : decode mb_T_number 10 = .ok (.iaload, 1) := by decide +kernel
theorem md_T_number_11 : decode mb_T_number 11 = .ok (.ireturn, 1) := by decide +kernel
theorem md_T_letter_0 : decode mb_T_letter 0 = .ok (.aload_n 0, 1) := by decide +kernel
theorem md_T_letter_1 : decode mb_T_letter 1 = .ok (.getfield 9, 3) := by decide +kernel
theorem md_T_letter_4 : decode mb_T_letter 4 = .ok (.iload_n 1, 1) := by decide +kernel
theorem md_T_letter_5 : decode mb_T_letter 5 = .ok (.caload, 1) := by decide +kernel
theorem md_T_letter_6 : decode mb_T_letter 6 = .ok (.ireturn, 1) := by decide +kernel
theorem md_T_changeStock_0 : decode mb_T_changeStock 0 = .ok (.aload_n 0, 1) := by decide +kernel
theorem md_T_changeStock_1 : decode mb_T_changeStock 1 = .ok (.getfield 19, 3) := by decide +kernel
theorem md_T_changeStock_4 : decode mb_T_changeStock 4 = .ok (.iload_n 1, 1) := by decide +kernel
theorem md_T_changeStock_5 : decode mb_T_changeStock 5 = .ok (.iaload, 1) := by decide +kernel
theorem md_T_changeStock_6 : decode mb_T_changeStock 6 = .ok (.iload_n 2, 1) := by decide +kernel
theorem md_T_changeStock_7 : decode mb_T_changeStock 7 = .ok (.if_icmp .eq 7, 3) := by decide +kernel
theorem md_T_changeStock_10 : decode mb_T_changeStock 10 = .ok (.iconst 1, 1) := by decide +kernel
theorem md_T_changeStock_11 : decode mb_T_changeStock 11 = .ok (.goto 4, 3) := by decide +kernel
theorem md_T_changeStock_14 : decode mb_T_changeStock 14 = .ok (.iconst 0, 1) := by decide +kernel
theorem md_T_changeStock_15 : decode mb_T_changeStock 15 = .ok (.istore_n 3, 1) := by decide +kernel
theorem md_T_changeStock_16 : decode mb_T_changeStock 16 = .ok (.aload_n 0, 1) := by decide +kernel
theorem md_T_changeStock_17 : decode mb_T_changeStock 17 = .ok (.getfield 19, 3) := by decide +kernel
theorem md_T_changeStock_20 : decode mb_T_changeStock 20 = .ok (.iload_n 1, 1) := by decide +kernel
theorem md_T_changeStock_21 : decode mb_T_changeStock 21 = .ok (.iload_n 2, 1) := by decide +kernel
theorem md_T_changeStock_22 : decode mb_T_changeStock 22 = .ok (.iastore, 1) := by decide +kernel
theorem md_T_changeStock_23 : decode mb_T_changeStock 23 = .ok (.iload_n 3, 1) := by decide +kernel
theorem md_T_changeStock_24 : decode mb_T_changeStock 24 = .ok (.ireturn, 1) := by decide +kernel
theorem md_T_firstHinge_0 : decode mb_T_firstHinge 0 = .ok (.iconst 0, 1) := by decide +kernel
theorem md_T_firstHinge_1 : decode mb_T_firstHinge 1 = .ok (.istore 6, 2) := by decide +kernel
theorem md_T_firstHinge_3 : decode mb_T_firstHinge 3 = .ok (.iload 6, 2) := by decide +kernel
theorem md_T_firstHinge_5 : decode mb_T_firstHinge 5 = .ok (.aload_n 0, 1) := by decide +kernel
theorem md_T_firstHinge_6 : decode mb_T_firstHinge 6 = .ok (.getfield 22, 3) := by decide +kernel
theorem md_T_firstHinge_9 : decode mb_T_firstHinge 9 = .ok (.if_icmp .ge 59, 3) := by decide +kernel
theorem md_T_firstHinge_12 : decode mb_T_firstHinge 12 = .ok (.aload_n 0, 1) := by decide +kernel
theorem md_T_firstHinge_13 : decode mb_T_firstHinge 13 = .ok (.iload 6, 2) := by decide +kernel
theorem md_T_firstHinge_15 : decode mb_T_firstHinge 15 = .ok (.bipush 104, 2) := by decide +kernel
theorem md_T_firstHinge_17 : decode mb_T_firstHinge 17 = .ok (.invokevirtual 67, 3) := by decide +kernel
theorem md_T_firstHinge_20 : decode mb_T_firstHinge 20 = .ok (.ifCond .eq 42, 3) := by decide +kernel
theorem md_T_firstHinge_23 : decode mb_T_firstHinge 23 = .ok (.aload_n 0, 1) := by decide +kernel
theorem md_T_firstHinge_24 : decode mb_T_firstHinge 24 = .ok (.iload 6, 2) := by decide +kernel
theorem md_T_firstHinge_26 : decode mb_T_firstHinge 26 = .ok (.iconst 0, 1) := by decide +kernel
theorem md_T_firstHinge_27 : decode mb_T_firstHinge 27 = .ok (.lload_n 1, 1) := by decide +kernel
theorem md_T_firstHinge_28 : decode mb_T_firstHinge 28 = .ok (.lload_n 1, 1) := by decide +kernel
theorem md_T_firstHinge_29 : decode mb_T_firstHinge 29 = .ok (.invokevirtual 71, 3) := by decide +kernel
theorem md_T_firstHinge_32 : decode mb_T_firstHinge 32 = .ok (.ifCond .eq 30, 3) := by decide +kernel
theorem md_T_firstHinge_35 : decode mb_T_firstHinge 35 = .ok (.aload_n 0, 1) := by decide +kernel
theorem md_T_firstHinge_36 : decode mb_T_firstHinge 36 = .ok (.iload 6, 2) := by decide +kernel
theorem md_T_firstHinge_38 : decode mb_T_firstHinge 38 = .ok (.iconst 2, 1) := by decide +kernel
theorem md_T_firstHinge_39 : decode mb_T_firstHinge 39 = .ok (.lload_n 3, 1) := by decide +kernel
theorem md_T_firstHinge_40 : decode mb_T_firstHinge 40 = .ok (.lload_n 3, 1) := by decide +kernel
theorem md_T_firstHinge_41 : decode mb_T_firstHinge 41 = .ok (.invokevirtual 71, 3) := by decide +kernel
theorem md_T_firstHinge_44 : decode mb_T_firstHinge 44 = .ok (.ifCond .eq 18, 3) := by decide +kernel
theorem md_T_firstHinge_47 : decode mb_T_firstHinge 47 = .ok (.aload_n 0, 1) := by decide +kernel
theorem md_T_firstHinge_48 : decode mb_T_firstHinge 48 = .ok (.iload 6, 2) := by decide +kernel
theorem md_T_firstHinge_50 : decode mb_T_firstHinge 50 = .ok (.iconst 4, 1) := by decide +kernel
theorem md_T_firstHinge_51 : decode mb_T_firstHinge 51 = .ok (.invokevirtual 63, 3) := by decide +kernel
theorem md_T_firstHinge_54 : decode mb_T_firstHinge 54 = .ok (.iload 5, 2) := by decide +kernel
theorem md_T_firstHinge_56 : decode mb_T_firstHinge 56 = .ok (.if_icmp .lt 6, 3) := by decide +kernel
theorem md_T_firstHinge_59 : decode mb_T_firstHinge 59 = .ok (.iload 6, 2) := by decide +kernel
theorem md_T_firstHinge_61 : decode mb_T_firstHinge 61 = .ok (.ireturn, 1) := by decide +kernel
theorem md_T_firstHinge_62 : decode mb_T_firstHinge 62 = .ok (.iinc 6 1, 3) := by decide +kernel
theorem md_T_firstHinge_65 : decode mb_T_firstHinge 65 = .ok (.goto (-62), 3) := by decide +kernel
theorem md_T_firstHinge_68 : decode mb_T_firstHinge 68 = .ok (.iconst (-1), 1) := by decide +kernel
theorem md_T_firstHinge_69 : decode mb_T_firstHinge 69 = .ok (.ireturn, 1) := by decide +kernel
theorem md_T_isStocked_0 : decode mb_T_isStocked 0 = .ok (.aload_n 0, 1) := by decide +kernel
theorem md_T_isStocked_1 : decode mb_T_isStocked 1 = .ok (.getfield 9, 3) := by decide +kernel
theorem md_T_isStocked_4 : decode mb_T_isStocked 4 = .ok (.iload_n 1, 1) := by decide +kernel
theorem md_T_isStocked_5 : decode mb_T_isStocked 5 = .ok (.caload, 1) := by decide +kernel
theorem md_T_isStocked_6 : decode mb_T_isStocked 6 = .ok (.iload_n 2, 1) := by decide +kernel
theorem md_T_isStocked_7 : decode mb_T_isStocked 7 = .ok (.if_icmp .ne 16, 3) := by decide +kernel
theorem md_T_isStocked_10 : decode mb_T_isStocked 10 = .ok (.aload_n 0, 1) := by decide +kernel
theorem md_T_isStocked_11 : decode mb_T_isStocked 11 = .ok (.getfield 19, 3) := by decide +kernel
theorem md_T_isStocked_14 : decode mb_T_isStocked 14 = .ok (.iload_n 1, 1) := by decide +kernel
theorem md_T_isStocked_15 : decode mb_T_isStocked 15 = .ok (.iaload, 1) := by decide +kernel
theorem md_T_isStocked_16 : decode mb_T_isStocked 16 = .ok (.ifCond .le 7, 3) := by decide +kernel
theorem md_T_isStocked_19 : decode mb_T_isStocked 19 = .ok (.iconst 1, 1) := by decide +kernel
theorem md_T_isStocked_20 : decode mb_T_isStocked 20 = .ok (.goto 4, 3) := by decide +kernel
theorem md_T_isStocked_23 : decode mb_T_isStocked 23 = .ok (.iconst 0, 1) := by decide +kernel
theorem md_T_isStocked_24 : decode mb_T_isStocked 24 = .ok (.ireturn, 1) := by decide +kernel
theorem md_T_holds_0 : decode mb_T_holds 0 = .ok (.aload_n 0, 1) := by decide +kernel
theorem md_T_holds_1 : decode mb_T_holds 1 = .ok (.iload_n 1, 1) := by decide +kernel
theorem md_T_holds_2 : decode mb_T_holds 2 = .ok (.iload_n 2, 1) := by decide +kernel
theorem md_T_holds_3 : decode mb_T_holds 3 = .ok (.invokevirtual 63, 3) := by decide +kernel
theorem md_T_holds_6 : decode mb_T_holds 6 = .ok (.i2l, 1) := by decide +kernel
theorem md_T_holds_7 : decode mb_T_holds 7 = .ok (.lload_n 3, 1) := by decide +kernel
theorem md_T_holds_8 : decode mb_T_holds 8 = .ok (.lcmp, 1) := by decide +kernel
theorem md_T_holds_9 : decode mb_T_holds 9 = .ok (.ifCond .gt 22, 3) := by decide +kernel
theorem md_T_holds_12 : decode mb_T_holds 12 = .ok (.lload 5, 2) := by decide +kernel
theorem md_T_holds_14 : decode mb_T_holds 14 = .ok (.aload_n 0, 1) := by decide +kernel
theorem md_T_holds_15 : decode mb_T_holds 15 = .ok (.iload_n 1, 1) := by decide +kernel
theorem md_T_holds_16 : decode mb_T_holds 16 = .ok (.iload_n 2, 1) := by decide +kernel
theorem md_T_holds_17 : decode mb_T_holds 17 = .ok (.iconst 1, 1) := by decide +kernel
theorem md_T_holds_18 : decode mb_T_holds 18 = .ok (.iadd, 1) := by decide +kernel
theorem md_T_holds_19 : decode mb_T_holds 19 = .ok (.invokevirtual 63, 3) := by decide +kernel
theorem md_T_holds_22 : decode mb_T_holds 22 = .ok (.i2l, 1) := by decide +kernel
theorem md_T_holds_23 : decode mb_T_holds 23 = .ok (.lcmp, 1) := by decide +kernel
theorem md_T_holds_24 : decode mb_T_holds 24 = .ok (.ifCond .gt 7, 3) := by decide +kernel
theorem md_T_holds_27 : decode mb_T_holds 27 = .ok (.iconst 1, 1) := by decide +kernel
theorem md_T_holds_28 : decode mb_T_holds 28 = .ok (.goto 4, 3) := by decide +kernel
theorem md_T_holds_31 : decode mb_T_holds 31 = .ok (.iconst 0, 1) := by decide +kernel
theorem md_T_holds_32 : decode mb_T_holds 32 = .ok (.ireturn, 1) := by decide +kernel
theorem md_T_otherHinge_0 : decode mb_T_otherHinge 0 = .ok (.iload_n 2, 1) := by decide +kernel
theorem md_T_otherHinge_1 : decode mb_T_otherHinge 1 = .ok (.istore_n 3, 1) := by decide +kernel
theorem md_T_otherHinge_2 : decode mb_T_otherHinge 2 = .ok (.iconst 0, 1) := by decide +kernel
theorem md_T_otherHinge_3 : decode mb_T_otherHinge 3 = .ok (.istore 4, 2) := by decide +kernel
theorem md_T_otherHinge_5 : decode mb_T_otherHinge 5 = .ok (.iload 4, 2) := by decide +kernel
theorem md_T_otherHinge_7 : decode mb_T_otherHinge 7 = .ok (.aload_n 0, 1) := by decide +kernel
theorem md_T_otherHinge_8 : decode mb_T_otherHinge 8 = .ok (.getfield 22, 3) := by decide +kernel
theorem md_T_otherHinge_11 : decode mb_T_otherHinge 11 = .ok (.if_icmp .ge 35, 3) := by decide +kernel
theorem md_T_otherHinge_14 : decode mb_T_otherHinge 14 = .ok (.iload 4, 2) := by decide +kernel
theorem md_T_otherHinge_16 : decode mb_T_otherHinge 16 = .ok (.iload_n 1, 1) := by decide +kernel
theorem md_T_otherHinge_17 : decode mb_T_otherHinge 17 = .ok (.if_icmp .eq 23, 3) := by decide +kernel
theorem md_T_otherHinge_20 : decode mb_T_otherHinge 20 = .ok (.aload_n 0, 1) := by decide +kernel
theorem md_T_otherHinge_21 : decode mb_T_otherHinge 21 = .ok (.iload 4, 2) := by decide +kernel
theorem md_T_otherHinge_23 : decode mb_T_otherHinge 23 = .ok (.iload_n 1, 1) := by decide +kernel
theorem md_T_otherHinge_24 : decode mb_T_otherHinge 24 = .ok (.invokevirtual 75, 3) := by decide +kernel
theorem md_T_otherHinge_27 : decode mb_T_otherHinge 27 = .ok (.ifCond .eq 13, 3) := by decide +kernel
theorem md_T_otherHinge_30 : decode mb_T_otherHinge 30 = .ok (.iload_n 3, 1) := by decide +kernel
theorem md_T_otherHinge_31 : decode mb_T_otherHinge 31 = .ok (.ifCond .ne 6, 3) := by decide +kernel
theorem md_T_otherHinge_34 : decode mb_T_otherHinge 34 = .ok (.iload 4, 2) := by decide +kernel
theorem md_T_otherHinge_36 : decode mb_T_otherHinge 36 = .ok (.ireturn, 1) := by decide +kernel
theorem md_T_otherHinge_37 : decode mb_T_otherHinge 37 = .ok (.iinc 3 (-1), 3) := by decide +kernel
theorem md_T_otherHinge_40 : decode mb_T_otherHinge 40 = .ok (.iinc 4 1, 3) := by decide +kernel
theorem md_T_otherHinge_43 : decode mb_T_otherHinge 43 = .ok (.goto (-38), 3) := by decide +kernel
theorem md_T_otherHinge_46 : decode mb_T_otherHinge 46 = .ok (.iconst (-1), 1) := by decide +kernel
theorem md_T_otherHinge_47 : decode mb_T_otherHinge 47 = .ok (.ireturn, 1) := by decide +kernel
theorem md_T_canReplace_0 : decode mb_T_canReplace 0 = .ok (.aload_n 0, 1) := by decide +kernel
theorem md_T_canReplace_1 : decode mb_T_canReplace 1 = .ok (.iload_n 1, 1) := by decide +kernel
theorem md_T_canReplace_2 : decode mb_T_canReplace 2 = .ok (.bipush 104, 2) := by decide +kernel
theorem md_T_canReplace_4 : decode mb_T_canReplace 4 = .ok (.invokevirtual 67, 3) := by decide +kernel
theorem md_T_canReplace_7 : decode mb_T_canReplace 7 = .ok (.ifCond .eq 68, 3) := by decide +kernel
theorem md_T_canReplace_10 : decode mb_T_canReplace 10 = .ok (.aload_n 0, 1) := by decide +kernel
theorem md_T_canReplace_11 : decode mb_T_canReplace 11 = .ok (.iload_n 1, 1) := by decide +kernel
theorem md_T_canReplace_12 : decode mb_T_canReplace 12 = .ok (.iconst 0, 1) := by decide +kernel
theorem md_T_canReplace_13 : decode mb_T_canReplace 13 = .ok (.aload_n 0, 1) := by decide +kernel
theorem md_T_canReplace_14 : decode mb_T_canReplace 14 = .ok (.iload_n 2, 1) := by decide +kernel
theorem md_T_canReplace_15 : decode mb_T_canReplace 15 = .ok (.iconst 0, 1) := by decide +kernel
theorem md_T_canReplace_16 : decode mb_T_canReplace 16 = .ok (.invokevirtual 63, 3) := by decide +kernel
theorem md_T_canReplace_19 : decode mb_T_canReplace 19 = .ok (.i2l, 1) := by decide +kernel
theorem md_T_canReplace_20 : decode mb_T_canReplace 20 = .ok (.aload_n 0, 1) := by decide +kernel
theorem md_T_canReplace_21 : decode mb_T_canReplace 21 = .ok (.iload_n 2, 1) := by decide +kernel
theorem md_T_canReplace_22 : decode mb_T_canReplace 22 = .ok (.iconst 1, 1) := by decide +kernel
theorem md_T_canReplace_23 : decode mb_T_canReplace 23 = .ok (.invokevirtual 63, 3) := by decide +kernel
theorem md_T_canReplace_26 : decode mb_T_canReplace 26 = .ok (.i2l, 1) := by decide +kernel
theorem md_T_canReplace_27 : decode mb_T_canReplace 27 = .ok (.invokevirtual 71, 3) := by decide +kernel
theorem md_T_canReplace_30 : decode mb_T_canReplace 30 = .ok (.ifCond .eq 45, 3) := by decide +kernel
theorem md_T_canReplace_33 : decode mb_T_canReplace 33 = .ok (.aload_n 0, 1) := by decide +kernel
theorem md_T_canReplace_34 : decode mb_T_canReplace 34 = .ok (.iload_n 1, 1) := by decide +kernel
theorem md_T_canReplace_35 : decode mb_T_canReplace 35 = .ok (.iconst 2, 1) := by decide +kernel
theorem md_T_canReplace_36 : decode mb_T_canReplace 36 = .ok (.aload_n 0, 1) := by decide +kernel
theorem md_T_canReplace_37 : decode mb_T_canReplace 37 = .ok (.iload_n 2, 1) := by decide +kernel
theorem md_T_canReplace_38 : decode mb_T_canReplace 38 = .ok (.iconst 2, 1) := by decide +kernel
theorem md_T_canReplace_39 : decode mb_T_canReplace 39 = .ok (.invokevirtual 63, 3) := by decide +kernel
theorem md_T_canReplace_42 : decode mb_T_canReplace 42 = .ok (.i2l, 1) := by decide +kernel
theorem md_T_canReplace_43 : decode mb_T_canReplace 43 = .ok (.aload_n 0, 1) := by decide +kernel
theorem md_T_canReplace_44 : decode mb_T_canReplace 44 = .ok (.iload_n 2, 1) := by decide +kernel
theorem md_T_canReplace_45 : decode mb_T_canReplace 45 = .ok (.iconst 3, 1) := by decide +kernel
theorem md_T_canReplace_46 : decode mb_T_canReplace 46 = .ok (.invokevirtual 63, 3) := by decide +kernel
theorem md_T_canReplace_49 : decode mb_T_canReplace 49 = .ok (.i2l, 1) := by decide +kernel
theorem md_T_canReplace_50 : decode mb_T_canReplace 50 = .ok (.invokevirtual 71, 3) := by decide +kernel
theorem md_T_canReplace_53 : decode mb_T_canReplace 53 = .ok (.ifCond .eq 22, 3) := by decide +kernel
theorem md_T_canReplace_56 : decode mb_T_canReplace 56 = .ok (.aload_n 0, 1) := by decide +kernel
theorem md_T_canReplace_57 : decode mb_T_canReplace 57 = .ok (.iload_n 1, 1) := by decide +kernel
theorem md_T_canReplace_58 : decode mb_T_canReplace 58 = .ok (.iconst 4, 1) := by decide +kernel
theorem md_T_canReplace_59 : decode mb_T_canReplace 59 = .ok (.invokevirtual 63, 3) := by decide +kernel
theorem md_T_canReplace_62 : decode mb_T_canReplace 62 = .ok (.aload_n 0, 1) := by decide +kernel
theorem md_T_canReplace_63 : decode mb_T_canReplace 63 = .ok (.iload_n 2, 1) := by decide +kernel
theorem md_T_canReplace_64 : decode mb_T_canReplace 64 = .ok (.iconst 4, 1) := by decide +kernel
theorem md_T_canReplace_65 : decode mb_T_canReplace 65 = .ok (.invokevirtual 63, 3) := by decide +kernel
theorem md_T_canReplace_68 : decode mb_T_canReplace 68 = .ok (.if_icmp .lt 7, 3) := by decide +kernel
theorem md_T_canReplace_71 : decode mb_T_canReplace 71 = .ok (.iconst 1, 1) := by decide +kernel
theorem md_T_canReplace_72 : decode mb_T_canReplace 72 = .ok (.goto 4, 3) := by decide +kernel
theorem md_T_canReplace_75 : decode mb_T_canReplace 75 = .ok (.iconst 0, 1) := by decide +kernel
theorem md_T_canReplace_76 : decode mb_T_canReplace 76 = .ok (.ireturn, 1) := by decide +kernel
theorem md_T_longestSlide_0 : decode mb_T_longestSlide 0 = .ok (.iconst (-1), 1) := by decide +kernel
theorem md_T_longestSlide_1 : decode mb_T_longestSlide 1 = .ok (.istore_n 3, 1) := by decide +kernel
theorem md_T_longestSlide_2 : decode mb_T_longestSlide 2 = .ok (.iconst 0, 1) := by decide +kernel
theorem md_T_longestSlide_3 : decode mb_T_longestSlide 3 = .ok (.istore 4, 2) := by decide +kernel
theorem md_T_longestSlide_5 : decode mb_T_longestSlide 5 = .ok (.iload 4, 2) := by decide +kernel
theorem md_T_longestSlide_7 : decode mb_T_longestSlide 7 = .ok (.aload_n 0, 1) := by decide +kernel
theorem md_T_longestSlide_8 : decode mb_T_longestSlide 8 = .ok (.getfield 22, 3) := by decide +kernel
theorem md_T_longestSlide_11 : decode mb_T_longestSlide 11 = .ok (.if_icmp .ge 56, 3) := by decide +kernel
theorem md_T_longestSlide_14 : decode mb_T_longestSlide 14 = .ok (.aload_n 0, 1) := by decide +kernel
theorem md_T_longestSlide_15 : decode mb_T_longestSlide 15 = .ok (.iload 4, 2) := by decide +kernel
theorem md_T_longestSlide_17 : decode mb_T_longestSlide 17 = .ok (.bipush 115, 2) := by decide +kernel
theorem md_T_longestSlide_19 : decode mb_T_longestSlide 19 = .ok (.invokevirtual 67, 3) := by decide +kernel
theorem md_T_longestSlide_22 : decode mb_T_longestSlide 22 = .ok (.ifCond .eq 39, 3) := by decide +kernel
theorem md_T_longestSlide_25 : decode mb_T_longestSlide 25 = .ok (.aload_n 0, 1) := by decide +kernel
theorem md_T_longestSlide_26 : decode mb_T_longestSlide 26 = .ok (.iload 4, 2) := by decide +kernel
theorem md_T_longestSlide_28 : decode mb_T_longestSlide 28 = .ok (.iconst 0, 1) := by decide +kernel
theorem md_T_longestSlide_29 : decode mb_T_longestSlide 29 = .ok (.invokevirtual 63, 3) := by decide +kernel
theorem md_T_longestSlide_32 : decode mb_T_longestSlide 32 = .ok (.i2l, 1) := by decide +kernel
theorem md_T_longestSlide_33 : decode mb_T_longestSlide 33 = .ok (.lload_n 1, 1) := by decide +kernel
theorem md_T_longestSlide_34 : decode mb_T_longestSlide 34 = .ok (.lcmp, 1) := by decide +kernel
theorem md_T_longestSlide_35 : decode mb_T_longestSlide 35 = .ok (.ifCond .gt 26, 3) := by decide +kernel
theorem md_T_longestSlide_38 : decode mb_T_longestSlide 38 = .ok (.iload_n 3, 1) := by decide +kernel
theorem md_T_longestSlide_39 : decode mb_T_longestSlide 39 = .ok (.ifCond .lt 19, 3) := by decide +kernel
theorem md_T_longestSlide_42 : decode mb_T_longestSlide 42 = .ok (.aload_n 0, 1) := by decide +kernel
theorem md_T_longestSlide_43 : decode mb_T_longestSlide 43 = .ok (.iload 4, 2) := by decide +kernel
theorem md_T_longestSlide_45 : decode mb_T_longestSlide 45 = .ok (.iconst 0, 1) := by decide +kernel
theorem md_T_longestSlide_46 : decode mb_T_longestSlide 46 = .ok (.invokevirtual 63, 3) := by decide +kernel
theorem md_T_longestSlide_49 : decode mb_T_longestSlide 49 = .ok (.aload_n 0, 1) := by decide +kernel
theorem md_T_longestSlide_50 : decode mb_T_longestSlide 50 = .ok (.iload_n 3, 1) := by decide +kernel
theorem md_T_longestSlide_51 : decode mb_T_longestSlide 51 = .ok (.iconst 0, 1) := by decide +kernel
theorem md_T_longestSlide_52 : decode mb_T_longestSlide 52 = .ok (.invokevirtual 63, 3) := by decide +kernel
theorem md_T_longestSlide_55 : decode mb_T_longestSlide 55 = .ok (.if_icmp .le 6, 3) := by decide +kernel
theorem md_T_longestSlide_58 : decode mb_T_longestSlide 58 = .ok (.iload 4, 2) := by decide +kernel
theorem md_T_longestSlide_60 : decode mb_T_longestSlide 60 = .ok (.istore_n 3, 1) := by decide +kernel
theorem md_T_longestSlide_61 : decode mb_T_longestSlide 61 = .ok (.iinc 4 1, 3) := by decide +kernel
theorem md_T_longestSlide_64 : decode mb_T_longestSlide 64 = .ok (.goto (-59), 3) := by decide +kernel
theorem md_T_longestSlide_67 : decode mb_T_longestSlide 67 = .ok (.iload_n 3, 1) := by decide +kernel
theorem md_T_longestSlide_68 : decode mb_T_longestSlide 68 = .ok (.ireturn, 1) := by decide +kernel
theorem md_T_hingesOf_0 : decode mb_T_hingesOf 0 = .ok (.iconst 0, 1) := by decide +kernel
theorem md_T_hingesOf_1 : decode mb_T_hingesOf 1 = .ok (.istore_n 2, 1) := by decide +kernel
theorem md_T_hingesOf_2 : decode mb_T_hingesOf 2 = .ok (.iload_n 2, 1) := by decide +kernel
theorem md_T_hingesOf_3 : decode mb_T_hingesOf 3 = .ok (.aload_n 0, 1) := by decide +kernel
theorem md_T_hingesOf_4 : decode mb_T_hingesOf 4 = .ok (.getfield 22, 3) := by decide +kernel
theorem md_T_hingesOf_7 : decode mb_T_hingesOf 7 = .ok (.if_icmp .ge 65, 3) := by decide +kernel
theorem md_T_hingesOf_10 : decode mb_T_hingesOf 10 = .ok (.aload_n 0, 1) := by decide +kernel
theorem md_T_hingesOf_11 : decode mb_T_hingesOf 11 = .ok (.getfield 9, 3) := by decide +kernel
theorem md_T_hingesOf_14 : decode mb_T_hingesOf 14 = .ok (.iload_n 2, 1) := by decide +kernel
theorem md_T_hingesOf_15 : decode mb_T_hingesOf 15 = .ok (.caload, 1) := by decide +kernel
theorem md_T_hingesOf_16 : decode mb_T_hingesOf 16 = .ok (.bipush 99, 2) := by decide +kernel
theorem md_T_hingesOf_18 : decode mb_T_hingesOf 18 = .ok (.if_icmp .ne 48, 3) := by decide +kernel
theorem md_T_hingesOf_21 : decode mb_T_hingesOf 21 = .ok (.aload_n 0, 1) := by decide +kernel
theorem md_T_hingesOf_22 : decode mb_T_hingesOf 22 = .ok (.iload_n 2, 1) := by decide +kernel
theorem md_T_hingesOf_23 : decode mb_T_hingesOf 23 = .ok (.iconst 0, 1) := by decide +kernel
theorem md_T_hingesOf_24 : decode mb_T_hingesOf 24 = .ok (.invokevirtual 63, 3) := by decide +kernel
theorem md_T_hingesOf_27 : decode mb_T_hingesOf 27 = .ok (.i2l, 1) := by decide +kernel
theorem md_T_hingesOf_28 : decode mb_T_hingesOf 28 = .ok (.aload_n 1, 1) := by decide +kernel
theorem md_T_hingesOf_29 : decode mb_T_hingesOf 29 = .ok (.getfield 79, 3) := by decide +kernel
theorem md_T_hingesOf_32 : decode mb_T_hingesOf 32 = .ok (.lcmp, 1) := by decide +kernel
theorem md_T_hingesOf_33 : decode mb_T_hingesOf 33 = .ok (.ifCond .lt 33, 3) := by decide +kernel
theorem md_T_hingesOf_36 : decode mb_T_hingesOf 36 = .ok (.aload_n 0, 1) := by decide +kernel
theorem md_T_hingesOf_37 : decode mb_T_hingesOf 37 = .ok (.iload_n 2, 1) := by decide +kernel
theorem md_T_hingesOf_38 : decode mb_T_hingesOf 38 = .ok (.iconst 1, 1) := by decide +kernel
theorem md_T_hingesOf_39 : decode mb_T_hingesOf 39 = .ok (.invokevirtual 63, 3) := by decide +kernel
theorem md_T_hingesOf_42 : decode mb_T_hingesOf 42 = .ok (.i2l, 1) := by decide +kernel
theorem md_T_hingesOf_43 : decode mb_T_hingesOf 43 = .ok (.ldc2_w 85, 3) := by decide +kernel
theorem md_T_hingesOf_46 : decode mb_T_hingesOf 46 = .ok (.lmul, 1) := by decide +kernel
theorem md_T_hingesOf_47 : decode mb_T_hingesOf 47 = .ok (.ldc2_w 87, 3) := by decide +kernel
theorem md_T_hingesOf_50 : decode mb_T_hingesOf 50 = .ok (.lmul, 1) := by decide +kernel
theorem md_T_hingesOf_51 : decode mb_T_hingesOf 51 = .ok (.aload_n 1, 1) := by decide +kernel
theorem md_T_hingesOf_52 : decode mb_T_hingesOf 52 = .ok (.invokevirtual 89, 3) := by decide +kernel
theorem md_T_hingesOf_55 : decode mb_T_hingesOf 55 = .ok (.lcmp, 1) := by decide +kernel
theorem md_T_hingesOf_56 : decode mb_T_hingesOf 56 = .ok (.ifCond .lt 10, 3) := by decide +kernel
theorem md_T_hingesOf_59 : decode mb_T_hingesOf 59 = .ok (.aload_n 0, 1) := by decide +kernel
theorem md_T_hingesOf_60 : decode mb_T_hingesOf 60 = .ok (.iload_n 2, 1) := by decide +kernel
theorem md_T_hingesOf_61 : decode mb_T_hingesOf 61 = .ok (.iconst 2, 1) := by decide +kernel
theorem md_T_hingesOf_62 : decode mb_T_hingesOf 62 = .ok (.invokevirtual 63, 3) := by decide +kernel
theorem md_T_hingesOf_65 : decode mb_T_hingesOf 65 = .ok (.ireturn, 1) := by decide +kernel
theorem md_T_hingesOf_66 : decode mb_T_hingesOf 66 = .ok (.iinc 2 1, 3) := by decide +kernel
theorem md_T_hingesOf_69 : decode mb_T_hingesOf 69 = .ok (.goto (-67), 3) := by decide +kernel
theorem md_T_hingesOf_72 : decode mb_T_hingesOf 72 = .ok (.iconst (-1), 1) := by decide +kernel
theorem md_T_hingesOf_73 : decode mb_T_hingesOf 73 = .ok (.ireturn, 1) := by decide +kernel
end
section
theorem md_K_init_0 : decode mb_K_init 0 = .ok (.aload_n 0, 1) := by decide +kernel
theorem md_K_init_1 : decode mb_K_init 1 = .ok (.invokespecial 1, 3) := by decide +kernel
theorem md_K_init_4 : decode mb_K_init 4 = .ok (.aload_n 0, 1) := by decide +kernel
theorem md_K_init_5 : decode mb_K_init 5 = .ok (.new 7, 3) := by decide +kernel
theorem md_K_init_8 : decode mb_K_init 8 = .ok (.dup, 1) := by decide +kernel
theorem md_K_init_9 : decode mb_K_init 9 = .ok (.invokespecial 9, 3) := by decide +kernel
theorem md_K_init_12 : decode mb_K_init 12 = .ok (.putfield 10, 3) := by decide +kernel
theorem md_K_init_15 : decode mb_K_init 15 = .ok (.aload_n 0, 1) := by decide +kernel
theorem md_K_init_16 : decode mb_K_init 16 = .ok (.new 16, 3) := by decide +kernel
theorem md_K_init_19 : decode mb_K_init 19 = .ok (.dup, 1) := by decide +kernel
theorem md_K_init_20 : decode mb_K_init 20 = .ok (.invokespecial 18, 3) := by decide +kernel
theorem md_K_init_23 : decode mb_K_init 23 = .ok (.putfield 19, 3) := by decide +kernel
theorem md_K_init_26 : decode mb_K_init 26 = .ok (.aload_n 0, 1) := by decide +kernel
theorem md_K_init_27 : decode mb_K_init 27 = .ok (.new 23, 3) := by decide +kernel
theorem md_K_init_30 : decode mb_K_init 30 = .ok (.dup, 1) := by decide +kernel
theorem md_K_init_31 : decode mb_K_init 31 = .ok (.invokespecial 25, 3) := by decide +kernel
theorem md_K_init_34 : decode mb_K_init 34 = .ok (.putfield 26, 3) := by decide +kernel
theorem md_K_init_37 : decode mb_K_init 37 = .ok (.aload_n 0, 1) := by decide +kernel
theorem md_K_init_38 : decode mb_K_init 38 = .ok (.new 30, 3) := by decide +kernel
theorem md_K_init_41 : decode mb_K_init 41 = .ok (.dup, 1) := by decide +kernel
theorem md_K_init_42 : decode mb_K_init 42 = .ok (.invokespecial 32, 3) := by decide +kernel
theorem md_K_init_45 : decode mb_K_init 45 = .ok (.putfield 33, 3) := by decide +kernel
theorem md_K_init_48 : decode mb_K_init 48 = .ok (.aload_n 0, 1) := by decide +kernel
theorem md_K_init_49 : decode mb_K_init 49 = .ok (.new 30, 3) := by decide +kernel
theorem md_K_init_52 : decode mb_K_init 52 = .ok (.dup, 1) := by decide +kernel
theorem md_K_init_53 : decode mb_K_init 53 = .ok (.invokespecial 32, 3) := by decide +kernel
theorem md_K_init_56 : decode mb_K_init 56 = .ok (.putfield 37, 3) := by decide +kernel
theorem md_K_init_59 : decode mb_K_init 59 = .ok (.return_, 1) := by decide +kernel
theorem md_K_unit_0 : decode mb_K_unit 0 = .ok (.aload_n 0, 1) := by decide +kernel
theorem md_K_unit_1 : decode mb_K_unit 1 = .ok (.getfield 10, 3) := by decide +kernel
theorem md_K_unit_4 : decode mb_K_unit 4 = .ok (.iload_n 1, 1) := by decide +kernel
theorem md_K_unit_5 : decode mb_K_unit 5 = .ok (.invokevirtual 40, 3) := by decide +kernel
theorem md_K_unit_8 : decode mb_K_unit 8 = .ok (.ireturn, 1) := by decide +kernel
theorem md_K_read_0 : decode mb_K_read 0 = .ok (.aload_n 0, 1) := by decide +kernel
theorem md_K_read_1 : decode mb_K_read 1 = .ok (.getfield 37, 3) := by decide +kernel
theorem md_K_read_4 : decode mb_K_read 4 = .ok (.aload_n 0, 1) := by decide +kernel
theorem md_K_read_5 : decode mb_K_read 5 = .ok (.getfield 10, 3) := by decide +kernel
theorem md_K_read_8 : decode mb_K_read 8 = .ok (.invokevirtual 44, 3) := by decide +kernel
theorem md_K_read_11 : decode mb_K_read 11 = .ok (.istore_n 1, 1) := by decide +kernel
theorem md_K_read_12 : decode mb_K_read 12 = .ok (.aload_n 0, 1) := by decide +kernel
theorem md_K_read_13 : decode mb_K_read 13 = .ok (.getfield 10, 3) := by decide +kernel
theorem md_K_read_16 : decode mb_K_read 16 = .ok (.invokevirtual 48, 3) := by decide +kernel
theorem md_K_read_19 : decode mb_K_read 19 = .ok (.iload_n 1, 1) := by decide +kernel
theorem md_K_read_20 : decode mb_K_read 20 = .ok (.ifCond .le 21, 3) := by decide +kernel
theorem md_K_read_23 : decode mb_K_read 23 = .ok (.aload_n 0, 1) := by decide +kernel
theorem md_K_read_24 : decode mb_K_read 24 = .ok (.getfield 37, 3) := by decide +kernel
theorem md_K_read_27 : decode mb_K_read 27 = .ok (.astore_n 2, 1) := by decide +kernel
theorem md_K_read_28 : decode mb_K_read 28 = .ok (.aload_n 0, 1) := by decide +kernel
theorem md_K_read_29 : decode mb_K_read 29 = .ok (.aload_n 0, 1) := by decide +kernel
theorem md_K_read_30 : decode mb_K_read 30 = .ok (.getfield 33, 3) := by decide +kernel
theorem md_K_read_33 : decode mb_K_read 33 = .ok (.putfield 37, 3) := by decide +kernel
theorem md_K_read_36 : decode mb_K_read 36 = .ok (.aload_n 0, 1) := by decide +kernel
theorem md_K_read_37 : decode mb_K_read 37 = .ok (.aload_n 2, 1) := by decide +kernel
theorem md_K_read_38 : decode mb_K_read 38 = .ok (.putfield 33, 3) := by decide +kernel
theorem md_K_read_41 : decode mb_K_read 41 = .ok (.iload_n 1, 1) := by decide +kernel
theorem md_K_read_42 : decode mb_K_read 42 = .ok (.ireturn, 1) := by decide +kernel
theorem md_K_numbersBehind_0 : decode mb_K_numbersBehind 0 = .ok (.iload_n 0, 1) := by decide +kernel
theorem md_K_numbersBehind_1 : decode mb_K_numbersBehind 1 = .ok (.bipush 104, 2) := by decide +kernel
theorem md_K_numbersBehind_3 : decode mb_K_numbersBehind 3 = .ok (.if_icmp .ne 6, 3) := by decide +kernel
theorem md_K_numbersBehind_6 : decode mb_K_numbersBehind 6 = .ok (.bipush 6, 2) := by decide +kernel
theorem md_K_numbersBehind_8 : decode mb_K_numbersBehind 8 = .ok (.ireturn, 1) := by decide +kernel
theorem md_K_numbersBehind_9 : decode mb_K_numbersBehind 9 = .ok (.iload_n 0, 1) := by decide +kernel
theorem md_K_numbersBehind_10 : decode mb_K_numbersBehind 10 = .ok (.bipush 115, 2) := by decide +kernel
theorem md_K_numbersBehind_12 : decode mb_K_numbersBehind 12 = .ok (.if_icmp .ne 5, 3) := by decide +kernel
theorem md_K_numbersBehind_15 : decode mb_K_numbersBehind 15 = .ok (.iconst 2, 1) := by decide +kernel
theorem md_K_numbersBehind_16 : decode mb_K_numbersBehind 16 = .ok (.ireturn, 1) := by decide +kernel
theorem md_K_numbersBehind_17 : decode mb_K_numbersBehind 17 = .ok (.iload_n 0, 1) := by decide +kernel
theorem md_K_numbersBehind_18 : decode mb_K_numbersBehind 18 = .ok (.bipush 99, 2) := by decide +kernel
theorem md_K_numbersBehind_20 : decode mb_K_numbersBehind 20 = .ok (.if_icmp .ne 7, 3) := by decide +kernel
theorem md_K_numbersBehind_23 : decode mb_K_numbersBehind 23 = .ok (.iconst 3, 1) := by decide +kernel
theorem md_K_numbersBehind_24 : decode mb_K_numbersBehind 24 = .ok (.goto 4, 3) := by decide +kernel
theorem md_K_numbersBehind_27 : decode mb_K_numbersBehind 27 = .ok (.iconst 0, 1) := by decide +kernel
theorem md_K_numbersBehind_28 : decode mb_K_numbersBehind 28 = .ok (.ireturn, 1) := by decide +kernel
theorem md_K_row_0 : decode mb_K_row 0 = .ok (.aload_n 0, 1) := by decide +kernel
theorem md_K_row_1 : decode mb_K_row 1 = .ok (.invokevirtual 51, 3) := by decide +kernel
theorem md_K_row_4 : decode mb_K_row 4 = .ok (.aload_n 0, 1) := by decide +kernel
theorem md_K_row_5 : decode mb_K_row 5 = .ok (.iload_n 1, 1) := by decide +kernel
theorem md_K_row_6 : decode mb_K_row 6 = .ok (.invokevirtual 54, 3) := by decide +kernel
theorem md_K_row_9 : decode mb_K_row 9 = .ok (.iload_n 2, 1) := by decide +kernel
theorem md_K_row_10 : decode mb_K_row 10 = .ok (.iconst (-1), 1) := by decide +kernel
theorem md_K_row_11 : decode mb_K_row 11 = .ok (.if_icmp .ne 12, 3) := by decide +kernel
theorem md_K_row_14 : decode mb_K_row 14 = .ok (.aload_n 0, 1) := by decide +kernel
theorem md_K_row_15 : decode mb_K_row 15 = .ok (.getfield 33, 3) := by decide +kernel
theorem md_K_row_18 : decode mb_K_row 18 = .ok (.iload_n 1, 1) := by decide +kernel
theorem md_K_row_19 : decode mb_K_row 19 = .ok (.invokevirtual 58, 3) := by decide +kernel
theorem md_K_row_22 : decode mb_K_row 22 = .ok (.ireturn, 1) := by decide +kernel
theorem md_K_row_23 : decode mb_K_row 23 = .ok (.iload_n 2, 1) := by decide +kernel
theorem md_K_row_24 : decode mb_K_row 24 = .ok (.ifCond .lt 18, 3) := by decide +kernel
theorem md_K_row_27 : decode mb_K_row 27 = .ok (.iload_n 2, 1) := by decide +kernel
theorem md_K_row_28 : decode mb_K_row 28 = .ok (.aload_n 0, 1) := by decide +kernel
theorem md_K_row_29 : decode mb_K_row 29 = .ok (.getfield 33, 3) := by decide +kernel
theorem md_K_row_32 : decode mb_K_row 32 = .ok (.iload_n 1, 1) := by decide +kernel
theorem md_K_row_33 : decode mb_K_row 33 = .ok (.invokevirtual 58, 3) := by decide +kernel
theorem md_K_row_36 : decode mb_K_row 36 = .ok (.invokestatic 62, 3) := by decide +kernel
theorem md_K_row_39 : decode mb_K_row 39 = .ok (.if_icmp .lt 13, 3) := by decide +kernel
theorem md_K_row_42 : decode mb_K_row 42 = .ok (.new 66, 3) := by decide +kernel
theorem md_K_row_45 : decode mb_K_row 45 = .ok (.dup, 1) := by decide +kernel
theorem md_K_row_46 : decode mb_K_row 46 = .ok (.ldc 68, 2) := by decide +kernel
theorem md_K_row_48 : decode mb_K_row 48 = .ok (.invokespecial 70, 3) := by decide +kernel
theorem md_K_row_51 : decode mb_K_row 51 = .ok (.athrow, 1) := by decide +kernel
theorem md_K_row_52 : decode mb_K_row 52 = .ok (.aload_n 0, 1) := by decide +kernel
theorem md_K_row_53 : decode mb_K_row 53 = .ok (.getfield 33, 3) := by decide +kernel
theorem md_K_row_56 : decode mb_K_row 56 = .ok (.iload_n 1, 1) := by decide +kernel
theorem md_K_row_57 : decode mb_K_row 57 = .ok (.iload_n 2, 1) := by decide +kernel
theorem md_K_row_58 : decode mb_K_row 58 = .ok (.invokevirtual 73, 3) := by decide +kernel
theorem md_K_row_61 : decode mb_K_row 61 = .ok (.ireturn, 1) := by decide +kernel
theorem md_K_needTable_0 : decode mb_K_needTable 0 = .ok (.aload_n 0, 1) := by decide +kernel
theorem md_K_needTable_1 : decode mb_K_needTable 1 = .ok (.getfield 33, 3) := by decide +kernel
theorem md_K_needTable_4 : decode mb_K_needTable 4 = .ok (.getfield 186, 3) := by decide +kernel
theorem md_K_needTable_7 : decode mb_K_needTable 7 = .ok (.ifCond .ne 13, 3) := by decide +kernel
theorem md_K_needTable_10 : decode mb_K_needTable 10 = .ok (.new 128, 3) := by decide +kernel
theorem md_K_needTable_13 : decode mb_K_needTable 13 = .ok (.dup, 1) := by decide +kernel
theorem md_K_needTable_14 : decode mb_K_needTable 14 = .ok (.ldc 190, 2) := by decide +kernel
theorem md_K_needTable_16 : decode mb_K_needTable 16 = .ok (.invokespecial 132, 3) := by decide +kernel
theorem md_K_needTable_19 : decode mb_K_needTable 19 = .ok (.athrow, 1) := by decide +kernel
theorem md_K_needTable_20 : decode mb_K_needTable 20 = .ok (.return_, 1) := by decide +kernel
theorem md_K_needRow_0 : decode mb_K_needRow 0 = .ok (.iload_n 1, 1) := by decide +kernel
theorem md_K_needRow_1 : decode mb_K_needRow 1 = .ok (.ifCond .lt 14, 3) := by decide +kernel
theorem md_K_needRow_4 : decode mb_K_needRow 4 = .ok (.iload_n 1, 1) := by decide +kernel
theorem md_K_needRow_5 : decode mb_K_needRow 5 = .ok (.aload_n 0, 1) := by decide +kernel
theorem md_K_needRow_6 : decode mb_K_needRow 6 = .ok (.getfield 33, 3) := by decide +kernel
theorem md_K_needRow_9 : decode mb_K_needRow 9 = .ok (.getfield 186, 3) := by decide +kernel
theorem md_K_needRow_12 : decode mb_K_needRow 12 = .ok (.if_icmp .lt 13, 3) := by decide +kernel
theorem md_K_needRow_15 : decode mb_K_needRow 15 = .ok (.new 66, 3) := by decide +kernel
theorem md_K_needRow_18 : decode mb_K_needRow 18 = .ok (.dup, 1) := by decide +kernel
theorem md_K_needRow_19 : decode mb_K_needRow 19 = .ok (.ldc 192, 2) := by decide +kernel
theorem md_K_needRow_21 : decode mb_K_needRow 21 = .ok (.invokespecial 70, 3) := by decide +kernel
theorem md_K_needRow_24 : decode mb_K_needRow 24 = .ok (.athrow, 1) := by decide +kernel
theorem md_K_needRow_25 : decode mb_K_needRow 25 = .ok (.return_, 1) := by decide +kernel
theorem md_K_stock_0 : decode mb_K_stock 0 = .ok (.aload_n 0, 1) := by decide +kernel
theorem md_K_stock_1 : decode mb_K_stock 1 = .ok (.invokevirtual 51, 3) := by decide +kernel
theorem md_K_stock_4 : decode mb_K_stock 4 = .ok (.aload_n 0, 1) := by decide +kernel
theorem md_K_stock_5 : decode mb_K_stock 5 = .ok (.iload_n 1, 1) := by decide +kernel
theorem md_K_stock_6 : decode mb_K_stock 6 = .ok (.invokevirtual 54, 3) := by decide +kernel
theorem md_K_stock_9 : decode mb_K_stock 9 = .ok (.iload_n 2, 1) := by decide +kernel
theorem md_K_stock_10 : decode mb_K_stock 10 = .ok (.ifCond .lt 10, 3) := by decide +kernel
theorem md_K_stock_13 : decode mb_K_stock 13 = .ok (.iload_n 2, 1) := by decide +kernel
theorem md_K_stock_14 : decode mb_K_stock 14 = .ok (.sipush 1000, 3) := by decide +kernel
theorem md_K_stock_17 : decode mb_K_stock 17 = .ok (.if_icmp .le 13, 3) := by decide +kernel
theorem md_K_stock_20 : decode mb_K_stock 20 = .ok (.new 77, 3) := by decide +kernel
theorem md_K_stock_23 : decode mb_K_stock 23 = .ok (.dup, 1) := by decide +kernel
theorem md_K_stock_24 : decode mb_K_stock 24 = .ok (.ldc 79, 2) := by decide +kernel
theorem md_K_stock_26 : decode mb_K_stock 26 = .ok (.invokespecial 81, 3) := by decide +kernel
theorem md_K_stock_29 : decode mb_K_stock 29 = .ok (.athrow, 1) := by decide +kernel
theorem md_K_stock_30 : decode mb_K_stock 30 = .ok (.aload_n 0, 1) := by decide +kernel
theorem md_K_stock_31 : decode mb_K_stock 31 = .ok (.getfield 33, 3) := by decide +kernel
theorem md_K_stock_34 : decode mb_K_stock 34 = .ok (.iload_n 1, 1) := by decide +kernel
theorem md_K_stock_35 : decode mb_K_stock 35 = .ok (.iload_n 2, 1) := by decide +kernel
theorem md_K_stock_36 : decode mb_K_stock 36 = .ok (.invokevirtual 82, 3) := by decide +kernel
theorem md_K_stock_39 : decode mb_K_stock 39 = .ok (.ireturn, 1) := by decide +kernel
theorem md_K_hinge_0 : decode mb_K_hinge 0 = .ok (.aload_n 0, 1) := by decide +kernel
theorem md_K_hinge_1 : decode mb_K_hinge 1 = .ok (.invokevirtual 51, 3) := by decide +kernel
theorem md_K_hinge_4 : decode mb_K_hinge 4 = .ok (.aload_n 0, 1) := by decide +kernel
theorem md_K_hinge_5 : decode mb_K_hinge 5 = .ok (.getfield 33, 3) := by decide +kernel
theorem md_K_hinge_8 : decode mb_K_hinge 8 = .ok (.lload_n 1, 1) := by decide +kernel
theorem md_K_hinge_9 : decode mb_K_hinge 9 = .ok (.lload_n 3, 1) := by decide +kernel
theorem md_K_hinge_10 : decode mb_K_hinge 10 = .ok (.iload 5, 2) := by decide +kernel
theorem md_K_hinge_12 : decode mb_K_hinge 12 = .ok (.invokevirtual 86, 3) := by decide +kernel
theorem md_K_hinge_15 : decode mb_K_hinge 15 = .ok (.ireturn, 1) := by decide +kernel
theorem md_K_other_0 : decode mb_K_other 0 = .ok (.aload_n 0, 1) := by decide +kernel
theorem md_K_other_1 : decode mb_K_other 1 = .ok (.invokevirtual 51, 3) := by decide +kernel
theorem md_K_other_4 : decode mb_K_other 4 = .ok (.aload_n 0, 1) := by decide +kernel
theorem md_K_other_5 : decode mb_K_other 5 = .ok (.iload_n 1, 1) := by decide +kernel
theorem md_K_other_6 : decode mb_K_other 6 = .ok (.invokevirtual 54, 3) := by decide +kernel
theorem md_K_other_9 : decode mb_K_other 9 = .ok (.iload_n 2, 1) := by decide +kernel
theorem md_K_other_10 : decode mb_K_other 10 = .ok (.ifCond .ge 13, 3) := by decide +kernel
theorem md_K_other_13 : decode mb_K_other 13 = .ok (.new 66, 3) := by decide +kernel
theorem md_K_other_16 : decode mb_K_other 16 = .ok (.dup, 1) := by decide +kernel
theorem md_K_other_17 : decode mb_K_other 17 = .ok (.ldc 90, 2) := by decide +kernel
theorem md_K_other_19 : decode mb_K_other 19 = .ok (.invokespecial 70, 3) := by decide +kernel
theorem md_K_other_22 : decode mb_K_other 22 = .ok (.athrow, 1) := by decide +kernel
theorem md_K_other_23 : decode mb_K_other 23 = .ok (.aload_n 0, 1) := by decide +kernel
theorem md_K_other_24 : decode mb_K_other 24 = .ok (.getfield 33, 3) := by decide +kernel
theorem md_K_other_27 : decode mb_K_other 27 = .ok (.iload_n 1, 1) := by decide +kernel
theorem md_K_other_28 : decode mb_K_other 28 = .ok (.invokevirtual 58, 3) := by decide +kernel
theorem md_K_other_31 : decode mb_K_other 31 = .ok (.bipush 104, 2) := by decide +kernel
theorem md_K_other_33 : decode mb_K_other 33 = .ok (.if_icmp .eq 13, 3) := by decide +kernel
theorem md_K_other_36 : decode mb_K_other 36 = .ok (.new 77, 3) := by decide +kernel
theorem md_K_other_39 : decode mb_K_other 39 = .ok (.dup, 1) := by decide +kernel
theorem md_K_other_40 : decode mb_K_other 40 = .ok (.ldc 92, 2) := by decide +kernel
theorem md_K_other_42 : decode mb_K_other 42 = .ok (.invokespecial 81, 3) := by decide +kernel
theorem md_K_other_45 : decode mb_K_other 45 = .ok (.athrow, 1) := by decide +kernel
theorem md_K_other_46 : decode mb_K_other 46 = .ok (.aload_n 0, 1) := by decide +kernel
theorem md_K_other_47 : decode mb_K_other 47 = .ok (.getfield 33, 3) := by decide +kernel
theorem md_K_other_50 : decode mb_K_other 50 = .ok (.iload_n 1, 1) := by decide +kernel
theorem md_K_other_51 : decode mb_K_other 51 = .ok (.iload_n 2, 1) := by decide +kernel
theorem md_K_other_52 : decode mb_K_other 52 = .ok (.invokevirtual 94, 3) := by decide +kernel
theorem md_K_other_55 : decode mb_K_other 55 = .ok (.ireturn, 1) := by decide +kernel
theorem md_K_slide_0 : decode mb_K_slide 0 = .ok (.aload_n 0, 1) := by decide +kernel
theorem md_K_slide_1 : decode mb_K_slide 1 = .ok (.invokevirtual 51, 3) := by decide +kernel
theorem md_K_slide_4 : decode mb_K_slide 4 = .ok (.aload_n 0, 1) := by decide +kernel
theorem md_K_slide_5 : decode mb_K_slide 5 = .ok (.getfield 33, 3) := by decide +kernel
theorem md_K_slide_8 : decode mb_K_slide 8 = .ok (.lload_n 1, 1) := by decide +kernel
theorem md_K_slide_9 : decode mb_K_slide 9 = .ok (.invokevirtual 97, 3) := by decide +kernel
theorem md_K_slide_12 : decode mb_K_slide 12 = .ok (.ireturn, 1) := by decide +kernel
theorem md_K_door_0 : decode mb_K_door 0 = .ok (.lload_n 1, 1) := by decide +kernel
theorem md_K_door_1 : decode mb_K_door 1 = .ok (.invokestatic 101, 3) := by decide +kernel
theorem md_K_door_4 : decode mb_K_door 4 = .ok (.ifCond .eq 26, 3) := by decide +kernel
theorem md_K_door_7 : decode mb_K_door 7 = .ok (.lload_n 3, 1) := by decide +kernel
theorem md_K_door_8 : decode mb_K_door 8 = .ok (.invokestatic 101, 3) := by decide +kernel
theorem md_K_door_11 : decode mb_K_door 11 = .ok (.ifCond .eq 19, 3) := by decide +kernel
theorem md_K_door_14 : decode mb_K_door 14 = .ok (.lload 5, 2) := by decide +kernel
theorem md_K_door_16 : decode mb_K_door 16 = .ok (.invokestatic 101, 3) := by decide +kernel
theorem md_K_door_19 : decode mb_K_door 19 = .ok (.ifCond .eq 11, 3) := by decide +kernel
theorem md_K_door_22 : decode mb_K_door 22 = .ok (.lload 7, 2) := by decide +kernel
theorem md_K_door_24 : decode mb_K_door 24 = .ok (.invokestatic 101, 3) := by decide +kernel
theorem md_K_door_27 : decode mb_K_door 27 = .ok (.ifCond .ne 13, 3) := by decide +kernel
theorem md_K_door_30 : decode mb_K_door 30 = .ok (.new 77, 3) := by decide +kernel
theorem md_K_door_33 : decode mb_K_door 33 = .ok (.dup, 1) := by decide +kernel
theorem md_K_door_34 : decode mb_K_door 34 = .ok (.ldc 105, 2) := by decide +kernel
theorem md_K_door_36 : decode mb_K_door 36 = .ok (.invokespecial 81, 3) := by decide +kernel
theorem md_K_door_39 : decode mb_K_door 39 = .ok (.athrow, 1) := by decide +kernel
theorem md_K_door_40 : decode mb_K_door 40 = .ok (.aload_n 0, 1) := by decide +kernel
theorem md_K_door_41 : decode mb_K_door 41 = .ok (.getfield 19, 3) := by decide +kernel
theorem md_K_door_44 : decode mb_K_door 44 = .ok (.lload_n 1, 1) := by decide +kernel
theorem md_K_door_45 : decode mb_K_door 45 = .ok (.lload_n 3, 1) := by decide +kernel
theorem md_K_door_46 : decode mb_K_door 46 = .ok (.lload 5, 2) := by decide +kernel
theorem md_K_door_48 : decode mb_K_door 48 = .ok (.lload 7, 2) := by decide +kernel
theorem md_K_door_50 : decode mb_K_door 50 = .ok (.invokevirtual 107, 3) := by decide +kernel
theorem md_K_door_53 : decode mb_K_door 53 = .ok (.ireturn, 1) := by decide +kernel
theorem md_K_isOfDoor_0 : decode mb_K_isOfDoor 0 = .ok (.lload_n 0, 1) := by decide +kernel
theorem md_K_isOfDoor_1 : decode mb_K_isOfDoor 1 = .ok (.iconst 1, 1) := by decide +kernel
theorem md_K_isOfDoor_2 : decode mb_K_isOfDoor 2 = .ok (.sipush 10000, 3) := by decide +kernel
theorem md_K_isOfDoor_5 : decode mb_K_isOfDoor 5 = .ok (.invokestatic 152, 3) := by decide +kernel
theorem md_K_isOfDoor_8 : decode mb_K_isOfDoor 8 = .ok (.ireturn, 1) := by decide +kernel
theorem md_K_isWithin_0 : decode mb_K_isWithin 0 = .ok (.lload_n 0, 1) := by decide +kernel
theorem md_K_isWithin_1 : decode mb_K_isWithin 1 = .ok (.iload_n 2, 1) := by decide +kernel
theorem md_K_isWithin_2 : decode mb_K_isWithin 2 = .ok (.i2l, 1) := by decide +kernel
theorem md_K_isWithin_3 : decode mb_K_isWithin 3 = .ok (.lcmp, 1) := by decide +kernel
theorem md_K_isWithin_4 : decode mb_K_isWithin 4 = .ok (.ifCond .lt 14, 3) := by decide +kernel
theorem md_K_isWithin_7 : decode mb_K_isWithin 7 = .ok (.lload_n 0, 1) := by decide +kernel
theorem md_K_isWithin_8 : decode mb_K_isWithin 8 = .ok (.iload_n 3, 1) := by decide +kernel
theorem md_K_isWithin_9 : decode mb_K_isWithin 9 = .ok (.i2l, 1) := by decide +kernel
theorem md_K_isWithin_10 : decode mb_K_isWithin 10 = .ok (.lcmp, 1) := by decide +kernel
theorem md_K_isWithin_11 : decode mb_K_isWithin 11 = .ok (.ifCond .gt 7, 3) := by decide +kernel
theorem md_K_isWithin_14 : decode mb_K_isWithin 14 = .ok (.iconst 1, 1) := by decide +kernel
theorem md_K_isWithin_15 : decode mb_K_isWithin 15 = .ok (.goto 4, 3) := by decide +kernel
theorem md_K_isWithin_18 : decode mb_K_isWithin 18 = .ok (.iconst 0, 1) := by decide +kernel
theorem md_K_isWithin_19 : decode mb_K_isWithin 19 = .ok (.ireturn, 1) := by decide +kernel
theorem md_K_weight_0 : decode mb_K_weight 0 = .ok (.iload_n 1, 1) := by decide +kernel
theorem md_K_weight_1 : decode mb_K_weight 1 = .ok (.invokestatic 111, 3) := by decide +kernel
theorem md_K_weight_4 : decode mb_K_weight 4 = .ok (.aload_n 0, 1) := by decide +kernel
theorem md_K_weight_5 : decode mb_K_weight 5 = .ok (.getfield 19, 3) := by decide +kernel
theorem md_K_weight_8 : decode mb_K_weight 8 = .ok (.invokevirtual 114, 3) := by decide +kernel
theorem md_K_weight_11 : decode mb_K_weight 11 = .ok (.ldc2_w 118, 3) := by decide +kernel
theorem md_K_weight_14 : decode mb_K_weight 14 = .ok (.iload_n 1, 1) := by decide +kernel
theorem md_K_weight_15 : decode mb_K_weight 15 = .ok (.invokestatic 120, 3) := by decide +kernel
theorem md_K_weight_18 : decode mb_K_weight 18 = .ok (.lreturn, 1) := by decide +kernel
theorem md_K_needPart_0 : decode mb_K_needPart 0 = .ok (.iload_n 0, 1) := by decide +kernel
theorem md_K_needPart_1 : decode mb_K_needPart 1 = .ok (.ifCond .lt 8, 3) := by decide +kernel
theorem md_K_needPart_4 : decode mb_K_needPart 4 = .ok (.iload_n 0, 1) := by decide +kernel
theorem md_K_needPart_5 : decode mb_K_needPart 5 = .ok (.iconst 1, 1) := by decide +kernel
theorem md_K_needPart_6 : decode mb_K_needPart 6 = .ok (.if_icmp .le 13, 3) := by decide +kernel
theorem md_K_needPart_9 : decode mb_K_needPart 9 = .ok (.new 66, 3) := by decide +kernel
theorem md_K_needPart_12 : decode mb_K_needPart 12 = .ok (.dup, 1) := by decide +kernel
theorem md_K_needPart_13 : decode mb_K_needPart 13 = .ok (.ldc 196, 2) := by decide +kernel
theorem md_K_needPart_15 : decode mb_K_needPart 15 = .ok (.invokespecial 70, 3) := by decide +kernel
theorem md_K_needPart_18 : decode mb_K_needPart 18 = .ok (.athrow, 1) := by decide +kernel
theorem md_K_needPart_19 : decode mb_K_needPart 19 = .ok (.return_, 1) := by decide +kernel
theorem md_K_partOfFraction_0 : decode mb_K_partOfFraction 0 = .ok (.lload_n 0, 1) := by decide +kernel
theorem md_K_partOfFraction_1 : decode mb_K_partOfFraction 1 = .ok (.lload_n 2, 1) := by decide +kernel
theorem md_K_partOfFraction_2 : decode mb_K_partOfFraction 2 = .ok (.invokestatic 198, 3) := by decide +kernel
theorem md_K_partOfFraction_5 : decode mb_K_partOfFraction 5 = .ok (.lstore 5, 2) := by decide +kernel
theorem md_K_partOfFraction_7 : decode mb_K_partOfFraction 7 = .ok (.iload 4, 2) := by decide +kernel
theorem md_K_partOfFraction_9 : decode mb_K_partOfFraction 9 = .ok (.ifCond .ne 7, 3) := by decide +kernel
theorem md_K_partOfFraction_12 : decode mb_K_partOfFraction 12 = .ok (.lload_n 0, 1) := by decide +kernel
theorem md_K_partOfFraction_13 : decode mb_K_partOfFraction 13 = .ok (.goto 4, 3) := by decide +kernel
theorem md_K_partOfFraction_16 : decode mb_K_partOfFraction 16 = .ok (.lload_n 2, 1) := by decide +kernel
theorem md_K_partOfFraction_17 : decode mb_K_partOfFraction 17 = .ok (.lstore 7, 2) := by decide +kernel
theorem md_K_partOfFraction_19 : decode mb_K_partOfFraction 19 = .ok (.lload 5, 2) := by decide +kernel
theorem md_K_partOfFraction_21 : decode mb_K_partOfFraction 21 = .ok (.lconst 1, 1) := by decide +kernel
theorem md_K_partOfFraction_22 : decode mb_K_partOfFraction 22 = .ok (.lcmp, 1) := by decide +kernel
theorem md_K_partOfFraction_23 : decode mb_K_partOfFraction 23 = .ok (.ifCond .le 11, 3) := by decide +kernel
theorem md_K_partOfFraction_26 : decode mb_K_partOfFraction 26 = .ok (.lload 7, 2) := by decide +kernel
theorem md_K_partOfFraction_28 : decode mb_K_partOfFraction 28 = .ok (.lload 5, 2) := by decide +kernel
theorem md_K_partOfFraction_30 : decode mb_K_partOfFraction 30 = .ok (.ldiv, 1) := by decide +kernel
theorem md_K_partOfFraction_31 : decode mb_K_partOfFraction 31 = .ok (.goto 5, 3) := by decide +kernel
theorem md_K_partOfFraction_34 : decode mb_K_partOfFraction 34 = .ok (.lload 7, 2) := by decide +kernel
theorem md_K_partOfFraction_36 : decode mb_K_partOfFraction 36 = .ok (.lreturn, 1) := by decide +kernel
theorem md_K_commonDivisor_0 : decode mb_K_commonDivisor 0 = .ok (.lload_n 0, 1) := by decide +kernel
theorem md_K_commonDivisor_1 : decode mb_K_commonDivisor 1 = .ok (.lstore 4, 2) := by decide +kernel
theorem md_K_commonDivisor_3 : decode mb_K_commonDivisor 3 = .ok (.lload_n 2, 1) := by decide +kernel
theorem md_K_commonDivisor_4 : decode mb_K_commonDivisor 4 = .ok (.lstore 6, 2) := by decide +kernel
theorem md_K_commonDivisor_6 : decode mb_K_commonDivisor 6 = .ok (.iconst 0, 1) := by decide +kernel
theorem md_K_commonDivisor_7 : decode mb_K_commonDivisor 7 = .ok (.istore 8, 2) := by decide +kernel
theorem md_K_commonDivisor_9 : decode mb_K_commonDivisor 9 = .ok (.iload 8, 2) := by decide +kernel
theorem md_K_commonDivisor_11 : decode mb_K_commonDivisor 11 = .ok (.bipush 100, 2) := by decide +kernel
theorem md_K_commonDivisor_13 : decode mb_K_commonDivisor 13 = .ok (.if_icmp .ge 31, 3) := by decide +kernel
theorem md_K_commonDivisor_16 : decode mb_K_commonDivisor 16 = .ok (.lload 6, 2) := by decide +kernel
theorem md_K_commonDivisor_18 : decode mb_K_commonDivisor 18 = .ok (.lconst 0, 1) := by decide +kernel
theorem md_K_commonDivisor_19 : decode mb_K_commonDivisor 19 = .ok (.lcmp, 1) := by decide +kernel
theorem md_K_commonDivisor_20 : decode mb_K_commonDivisor 20 = .ok (.ifCond .le 24, 3) := by decide +kernel
theorem md_K_commonDivisor_23 : decode mb_K_commonDivisor 23 = .ok (.lload 4, 2) := by decide +kernel
theorem md_K_commonDivisor_25 : decode mb_K_commonDivisor 25 = .ok (.lload 6, 2) := by decide +kernel
theorem md_K_commonDivisor_27 : decode mb_K_commonDivisor 27 = .ok (.lrem, 1) := by decide +kernel
theorem md_K_commonDivisor_28 : decode mb_K_commonDivisor 28 = .ok (.lstore 9, 2) := by decide +kernel
theorem md_K_commonDivisor_30 : decode mb_K_commonDivisor 30 = .ok (.lload 6, 2) := by decide +kernel
theorem md_K_commonDivisor_32 : decode mb_K_commonDivisor 32 = .ok (.lstore 4, 2) := by decide +kernel
theorem md_K_commonDivisor_34 : decode mb_K_commonDivisor 34 = .ok (.lload 9, 2) := by decide +kernel
theorem md_K_commonDivisor_36 : decode mb_K_commonDivisor 36 = .ok (.lstore 6, 2) := by decide +kernel
theorem md_K_commonDivisor_38 : decode mb_K_commonDivisor 38 = .ok (.iinc 8 1, 3) := by decide +kernel
theorem md_K_commonDivisor_41 : decode mb_K_commonDivisor 41 = .ok (.goto (-32), 3) := by decide +kernel
theorem md_K_commonDivisor_44 : decode mb_K_commonDivisor 44 = .ok (.lload 4, 2) := by decide +kernel
theorem md_K_commonDivisor_46 : decode mb_K_commonDivisor 46 = .ok (.lreturn, 1) := by decide +kernel
theorem md_K_count_0 : decode mb_K_count 0 = .ok (.aload_n 0, 1) := by decide +kernel
theorem md_K_count_1 : decode mb_K_count 1 = .ok (.invokevirtual 51, 3) := by decide +kernel
theorem md_K_count_4 : decode mb_K_count 4 = .ok (.aload_n 0, 1) := by decide +kernel
theorem md_K_count_5 : decode mb_K_count 5 = .ok (.getfield 33, 3) := by decide +kernel
theorem md_K_count_8 : decode mb_K_count 8 = .ok (.aload_n 0, 1) := by decide +kernel
theorem md_K_count_9 : decode mb_K_count 9 = .ok (.getfield 19, 3) := by decide +kernel
theorem md_K_count_12 : decode mb_K_count 12 = .ok (.invokevirtual 124, 3) := by decide +kernel
theorem md_K_count_15 : decode mb_K_count 15 = .ok (.ireturn, 1) := by decide +kernel
theorem md_K_place_0 : decode mb_K_place 0 = .ok (.aload_n 0, 1) := by decide +kernel
theorem md_K_place_1 : decode mb_K_place 1 = .ok (.invokevirtual 51, 3) := by decide +kernel
theorem md_K_place_4 : decode mb_K_place 4 = .ok (.aload_n 0, 1) := by decide +kernel
theorem md_K_place_5 : decode mb_K_place 5 = .ok (.getfield 33, 3) := by decide +kernel
theorem md_K_place_8 : decode mb_K_place 8 = .ok (.aload_n 0, 1) := by decide +kernel
theorem md_K_place_9 : decode mb_K_place 9 = .ok (.getfield 19, 3) := by decide +kernel
theorem md_K_place_12 : decode mb_K_place 12 = .ok (.invokevirtual 124, 3) := by decide +kernel
theorem md_K_place_15 : decode mb_K_place 15 = .ok (.istore_n 3, 1) := by decide +kernel
theorem md_K_place_16 : decode mb_K_place 16 = .ok (.iload_n 3, 1) := by decide +kernel
theorem md_K_place_17 : decode mb_K_place 17 = .ok (.iconst (-1), 1) := by decide +kernel
theorem md_K_place_18 : decode mb_K_place 18 = .ok (.if_icmp .ne 13, 3) := by decide +kernel
theorem md_K_place_21 : decode mb_K_place 21 = .ok (.new 128, 3) := by decide +kernel
theorem md_K_place_24 : decode mb_K_place 24 = .ok (.dup, 1) := by decide +kernel
theorem md_K_place_25 : decode mb_K_place 25 = .ok (.ldc 130, 2) := by decide +kernel
theorem md_K_place_27 : decode mb_K_place 27 = .ok (.invokespecial 132, 3) := by decide +kernel
theorem md_K_place_30 : decode mb_K_place 30 = .ok (.athrow, 1) := by decide +kernel
theorem md_K_place_31 : decode mb_K_place 31 = .ok (.iload_n 1, 1) := by decide +kernel
theorem md_K_place_32 : decode mb_K_place 32 = .ok (.ifCond .lt 8, 3) := by decide +kernel
theorem md_K_place_35 : decode mb_K_place 35 = .ok (.iload_n 1, 1) := by decide +kernel
theorem md_K_place_36 : decode mb_K_place 36 = .ok (.iload_n 3, 1) := by decide +kernel
theorem md_K_place_37 : decode mb_K_place 37 = .ok (.if_icmp .lt 13, 3) := by decide +kernel
theorem md_K_place_40 : decode mb_K_place 40 = .ok (.new 66, 3) := by decide +kernel
theorem md_K_place_43 : decode mb_K_place 43 = .ok (.dup, 1) := by decide +kernel
theorem md_K_place_44 : decode mb_K_place 44 = .ok (.ldc 133, 2) := by decide +kernel
theorem md_K_place_46 : decode mb_K_place 46 = .ok (.invokespecial 70, 3) := by decide +kernel
theorem md_K_place_49 : decode mb_K_place 49 = .ok (.athrow, 1) := by decide +kernel
theorem md_K_place_50 : decode mb_K_place 50 = .ok (.iload_n 2, 1) := by decide +kernel
theorem md_K_place_51 : decode mb_K_place 51 = .ok (.invokestatic 111, 3) := by decide +kernel
theorem md_K_place_54 : decode mb_K_place 54 = .ok (.iload_n 3, 1) := by decide +kernel
theorem md_K_place_55 : decode mb_K_place 55 = .ok (.iconst 1, 1) := by decide +kernel
theorem md_K_place_56 : decode mb_K_place 56 = .ok (.if_icmp .ne 18, 3) := by decide +kernel
theorem md_K_place_59 : decode mb_K_place 59 = .ok (.aload_n 0, 1) := by decide +kernel
theorem md_K_place_60 : decode mb_K_place 60 = .ok (.getfield 19, 3) := by decide +kernel
theorem md_K_place_63 : decode mb_K_place 63 = .ok (.getfield 135, 3) := by decide +kernel
theorem md_K_place_66 : decode mb_K_place 66 = .ok (.ldc2_w 139, 3) := by decide +kernel
theorem md_K_place_69 : decode mb_K_place 69 = .ok (.iload_n 2, 1) := by decide +kernel
theorem md_K_place_70 : decode mb_K_place 70 = .ok (.invokestatic 120, 3) := by decide +kernel
theorem md_K_place_73 : decode mb_K_place 73 = .ok (.lreturn, 1) := by decide +kernel
theorem md_K_place_74 : decode mb_K_place 74 = .ok (.aload_n 0, 1) := by decide +kernel
theorem md_K_place_75 : decode mb_K_place 75 = .ok (.getfield 19, 3) := by decide +kernel
theorem md_K_place_78 : decode mb_K_place 78 = .ok (.iload_n 1, 1) := by decide +kernel
theorem md_K_place_79 : decode mb_K_place 79 = .ok (.iload_n 3, 1) := by decide +kernel
theorem md_K_place_80 : decode mb_K_place 80 = .ok (.invokevirtual 141, 3) := by decide +kernel
theorem md_K_place_83 : decode mb_K_place 83 = .ok (.ldc2_w 145, 3) := by decide +kernel
theorem md_K_place_86 : decode mb_K_place 86 = .ok (.iload_n 3, 1) := by decide +kernel
theorem md_K_place_87 : decode mb_K_place 87 = .ok (.iconst 1, 1) := by decide +kernel
theorem md_K_place_88 : decode mb_K_place 88 = .ok (.isub, 1) := by decide +kernel
theorem md_K_place_89 : decode mb_K_place 89 = .ok (.i2l, 1) := by decide +kernel
theorem md_K_place_90 : decode mb_K_place 90 = .ok (.lmul, 1) := by decide +kernel
theorem md_K_place_91 : decode mb_K_place 91 = .ok (.iload_n 2, 1) := by decide +kernel
theorem md_K_place_92 : decode mb_K_place 92 = .ok (.invokestatic 120, 3) := by decide +kernel
theorem md_K_place_95 : decode mb_K_place 95 = .ok (.lreturn, 1) := by decide +kernel
theorem md_K_hole_0 : decode mb_K_hole 0 = .ok (.iload_n 1, 1) := by decide +kernel
theorem md_K_hole_1 : decode mb_K_hole 1 = .ok (.invokestatic 147, 3) := by decide +kernel
theorem md_K_hole_4 : decode mb_K_hole 4 = .ok (.lload_n 2, 1) := by decide +kernel
theorem md_K_hole_5 : decode mb_K_hole 5 = .ok (.ldc 150, 2) := by decide +kernel
theorem md_K_hole_7 : decode mb_K_hole 7 = .ok (.ldc 151, 2) := by decide +kernel
theorem md_K_hole_9 : decode mb_K_hole 9 = .ok (.invokestatic 152, 3) := by decide +kernel
theorem md_K_hole_12 : decode mb_K_hole 12 = .ok (.ifCond .eq 27, 3) := by decide +kernel
theorem md_K_hole_15 : decode mb_K_hole 15 = .ok (.lload 4, 2) := by decide +kernel
theorem md_K_hole_17 : decode mb_K_hole 17 = .ok (.ldc 150, 2) := by decide +kernel
theorem md_K_hole_19 : decode mb_K_hole 19 = .ok (.ldc 151, 2) := by decide +kernel
theorem md_K_hole_21 : decode mb_K_hole 21 = .ok (.invokestatic 152, 3) := by decide +kernel
theorem md_K_hole_24 : decode mb_K_hole 24 = .ok (.ifCond .eq 15, 3) := by decide +kernel
theorem md_K_hole_27 : decode mb_K_hole 27 = .ok (.lload 6, 2) := by decide +kernel
theorem md_K_hole_29 : decode mb_K_hole 29 = .ok (.iconst 0, 1) := by decide +kernel
theorem md_K_hole_30 : decode mb_K_hole 30 = .ok (.sipush 1000, 3) := by decide +kernel
theorem md_K_hole_33 : decode mb_K_hole 33 = .ok (.invokestatic 152, 3) := by decide +kernel
theorem md_K_hole_36 : decode mb_K_hole 36 = .ok (.ifCond .ne 13, 3) := by decide +kernel
theorem md_K_hole_39 : decode mb_K_hole 39 = .ok (.new 77, 3) := by decide +kernel
theorem md_K_hole_42 : decode mb_K_hole 42 = .ok (.dup, 1) := by decide +kernel
theorem md_K_hole_43 : decode mb_K_hole 43 = .ok (.ldc 156, 2) := by decide +kernel
theorem md_K_hole_45 : decode mb_K_hole 45 = .ok (.invokespecial 81, 3) := by decide +kernel
theorem md_K_hole_48 : decode mb_K_hole 48 = .ok (.athrow, 1) := by decide +kernel
theorem md_K_hole_49 : decode mb_K_hole 49 = .ok (.aload_n 0, 1) := by decide +kernel
theorem md_K_hole_50 : decode mb_K_hole 50 = .ok (.getfield 26, 3) := by decide +kernel
theorem md_K_hole_53 : decode mb_K_hole 53 = .ok (.iload_n 1, 1) := by decide +kernel
theorem md_K_hole_54 : decode mb_K_hole 54 = .ok (.lload_n 2, 1) := by decide +kernel
theorem md_K_hole_55 : decode mb_K_hole 55 = .ok (.lload 4, 2) := by decide +kernel
theorem md_K_hole_57 : decode mb_K_hole 57 = .ok (.lload 6, 2) := by decide +kernel
theorem md_K_hole_59 : decode mb_K_hole 59 = .ok (.invokevirtual 158, 3) := by decide +kernel
theorem md_K_hole_62 : decode mb_K_hole 62 = .ok (.ireturn, 1) := by decide +kernel
theorem md_K_needHole_0 : decode mb_K_needHole 0 = .ok (.iload_n 0, 1) := by decide +kernel
theorem md_K_needHole_1 : decode mb_K_needHole 1 = .ok (.ifCond .lt 9, 3) := by decide +kernel
theorem md_K_needHole_4 : decode mb_K_needHole 4 = .ok (.iload_n 0, 1) := by decide +kernel
theorem md_K_needHole_5 : decode mb_K_needHole 5 = .ok (.bipush 16, 2) := by decide +kernel
theorem md_K_needHole_7 : decode mb_K_needHole 7 = .ok (.if_icmp .lt 13, 3) := by decide +kernel
theorem md_K_needHole_10 : decode mb_K_needHole 10 = .ok (.new 66, 3) := by decide +kernel
theorem md_K_needHole_13 : decode mb_K_needHole 13 = .ok (.dup, 1) := by decide +kernel
theorem md_K_needHole_14 : decode mb_K_needHole 14 = .ok (.ldc 194, 2) := by decide +kernel
theorem md_K_needHole_16 : decode mb_K_needHole 16 = .ok (.invokespecial 70, 3) := by decide +kernel
theorem md_K_needHole_19 : decode mb_K_needHole 19 = .ok (.athrow, 1) := by decide +kernel
theorem md_K_needHole_20 : decode mb_K_needHole 20 = .ok (.return_, 1) := by decide +kernel
theorem md_K_meet_0 : decode mb_K_meet 0 = .ok (.iload_n 1, 1) := by decide +kernel
theorem md_K_meet_1 : decode mb_K_meet 1 = .ok (.invokestatic 147, 3) := by decide +kernel
theorem md_K_meet_4 : decode mb_K_meet 4 = .ok (.iload_n 2, 1) := by decide +kernel
theorem md_K_meet_5 : decode mb_K_meet 5 = .ok (.invokestatic 147, 3) := by decide +kernel
theorem md_K_meet_8 : decode mb_K_meet 8 = .ok (.aload_n 0, 1) := by decide +kernel
theorem md_K_meet_9 : decode mb_K_meet 9 = .ok (.getfield 26, 3) := by decide +kernel
theorem md_K_meet_12 : decode mb_K_meet 12 = .ok (.iload_n 1, 1) := by decide +kernel
theorem md_K_meet_13 : decode mb_K_meet 13 = .ok (.iload_n 2, 1) := by decide +kernel
theorem md_K_meet_14 : decode mb_K_meet 14 = .ok (.invokevirtual 161, 3) := by decide +kernel
theorem md_K_meet_17 : decode mb_K_meet 17 = .ok (.ireturn, 1) := by decide +kernel
theorem md_K_pair_0 : decode mb_K_pair 0 = .ok (.iload_n 1, 1) := by decide +kernel
theorem md_K_pair_1 : decode mb_K_pair 1 = .ok (.ifCond .ge 13, 3) := by decide +kernel
theorem md_K_pair_4 : decode mb_K_pair 4 = .ok (.new 66, 3) := by decide +kernel
theorem md_K_pair_7 : decode mb_K_pair 7 = .ok (.dup, 1) := by decide +kernel
theorem md_K_pair_8 : decode mb_K_pair 8 = .ok (.ldc 90, 2) := by decide +kernel
theorem md_K_pair_10 : decode mb_K_pair 10 = .ok (.invokespecial 70, 3) := by decide +kernel
theorem md_K_pair_13 : decode mb_K_pair 13 = .ok (.athrow, 1) := by decide +kernel
theorem md_K_pair_14 : decode mb_K_pair 14 = .ok (.aload_n 0, 1) := by decide +kernel
theorem md_K_pair_15 : decode mb_K_pair 15 = .ok (.getfield 26, 3) := by decide +kernel
theorem md_K_pair_18 : decode mb_K_pair 18 = .ok (.iload_n 1, 1) := by decide +kernel
theorem md_K_pair_19 : decode mb_K_pair 19 = .ok (.invokevirtual 164, 3) := by decide +kernel
theorem md_K_pair_22 : decode mb_K_pair 22 = .ok (.ireturn, 1) := by decide +kernel
theorem md_K_wall_0 : decode mb_K_wall 0 = .ok (.lload_n 1, 1) := by decide +kernel
theorem md_K_wall_1 : decode mb_K_wall 1 = .ok (.sipush (-10000), 3) := by decide +kernel
theorem md_K_wall_4 : decode mb_K_wall 4 = .ok (.sipush 10000, 3) := by decide +kernel
theorem md_K_wall_7 : decode mb_K_wall 7 = .ok (.invokestatic 152, 3) := by decide +kernel
theorem md_K_wall_10 : decode mb_K_wall 10 = .ok (.ifCond .ne 13, 3) := by decide +kernel
theorem md_K_wall_13 : decode mb_K_wall 13 = .ok (.new 77, 3) := by decide +kernel
theorem md_K_wall_16 : decode mb_K_wall 16 = .ok (.dup, 1) := by decide +kernel
theorem md_K_wall_17 : decode mb_K_wall 17 = .ok (.ldc 168, 2) := by decide +kernel
theorem md_K_wall_19 : decode mb_K_wall 19 = .ok (.invokespecial 81, 3) := by decide +kernel
theorem md_K_wall_22 : decode mb_K_wall 22 = .ok (.athrow, 1) := by decide +kernel
theorem md_K_wall_23 : decode mb_K_wall 23 = .ok (.iconst 0, 1) := by decide +kernel
theorem md_K_wall_24 : decode mb_K_wall 24 = .ok (.istore_n 3, 1) := by decide +kernel
theorem md_K_wall_25 : decode mb_K_wall 25 = .ok (.iload_n 3, 1) := by decide +kernel
theorem md_K_wall_26 : decode mb_K_wall 26 = .ok (.bipush 9, 2) := by decide +kernel
theorem md_K_wall_28 : decode mb_K_wall 28 = .ok (.if_icmp .ge 39, 3) := by decide +kernel
theorem md_K_wall_31 : decode mb_K_wall 31 = .ok (.aload_n 0, 1) := by decide +kernel
theorem md_K_wall_32 : decode mb_K_wall 32 = .ok (.getfield 19, 3) := by decide +kernel
theorem md_K_wall_35 : decode mb_K_wall 35 = .ok (.iload_n 3, 1) := by decide +kernel
theorem md_K_wall_36 : decode mb_K_wall 36 = .ok (.invokevirtual 170, 3) := by decide +kernel
theorem md_K_wall_39 : decode mb_K_wall 39 = .ok (.lload_n 1, 1) := by decide +kernel
theorem md_K_wall_40 : decode mb_K_wall 40 = .ok (.lneg, 1) := by decide +kernel
theorem md_K_wall_41 : decode mb_K_wall 41 = .ok (.ldc2_w 174, 3) := by decide +kernel
theorem md_K_wall_44 : decode mb_K_wall 44 = .ok (.lmul, 1) := by decide +kernel
theorem md_K_wall_45 : decode mb_K_wall 45 = .ok (.lcmp, 1) := by decide +kernel
theorem md_K_wall_46 : decode mb_K_wall 46 = .ok (.ifCond .ge 15, 3) := by decide +kernel
theorem md_K_wall_49 : decode mb_K_wall 49 = .ok (.iload_n 3, 1) := by decide +kernel
theorem md_K_wall_50 : decode mb_K_wall 50 = .ok (.ifCond .ne 7, 3) := by decide +kernel
theorem md_K_wall_53 : decode mb_K_wall 53 = .ok (.iconst (-1), 1) := by decide +kernel
theorem md_K_wall_54 : decode mb_K_wall 54 = .ok (.goto 6, 3) := by decide +kernel
theorem md_K_wall_57 : decode mb_K_wall 57 = .ok (.iload_n 3, 1) := by decide +kernel
theorem md_K_wall_58 : decode mb_K_wall 58 = .ok (.iconst 1, 1) := by decide +kernel
theorem md_K_wall_59 : decode mb_K_wall 59 = .ok (.isub, 1) := by decide +kernel
theorem md_K_wall_60 : decode mb_K_wall 60 = .ok (.ireturn, 1) := by decide +kernel
theorem md_K_wall_61 : decode mb_K_wall 61 = .ok (.iinc 3 1, 3) := by decide +kernel
theorem md_K_wall_64 : decode mb_K_wall 64 = .ok (.goto (-39), 3) := by decide +kernel
theorem md_K_wall_67 : decode mb_K_wall 67 = .ok (.bipush 8, 2) := by decide +kernel
theorem md_K_wall_69 : decode mb_K_wall 69 = .ok (.ireturn, 1) := by decide +kernel
theorem md_K_corner_0 : decode mb_K_corner 0 = .ok (.iload_n 1, 1) := by decide +kernel
theorem md_K_corner_1 : decode mb_K_corner 1 = .ok (.ifCond .lt 27, 3) := by decide +kernel
theorem md_K_corner_4 : decode mb_K_corner 4 = .ok (.iload_n 1, 1) := by decide +kernel
theorem md_K_corner_5 : decode mb_K_corner 5 = .ok (.iconst 4, 1) := by decide +kernel
theorem md_K_corner_6 : decode mb_K_corner 6 = .ok (.if_icmp .ge 22, 3) := by decide +kernel
theorem md_K_corner_9 : decode mb_K_corner 9 = .ok (.iload_n 2, 1) := by decide +kernel
theorem md_K_corner_10 : decode mb_K_corner 10 = .ok (.ifCond .lt 18, 3) := by decide +kernel
theorem md_K_corner_13 : decode mb_K_corner 13 = .ok (.iload_n 2, 1) := by decide +kernel
theorem md_K_corner_14 : decode mb_K_corner 14 = .ok (.bipush 9, 2) := by decide +kernel
theorem md_K_corner_16 : decode mb_K_corner 16 = .ok (.if_icmp .ge 12, 3) := by decide +kernel
theorem md_K_corner_19 : decode mb_K_corner 19 = .ok (.iload_n 3, 1) := by decide +kernel
theorem md_K_corner_20 : decode mb_K_corner 20 = .ok (.ifCond .lt 8, 3) := by decide +kernel
theorem md_K_corner_23 : decode mb_K_corner 23 = .ok (.iload_n 3, 1) := by decide +kernel
theorem md_K_corner_24 : decode mb_K_corner 24 = .ok (.iconst 1, 1) := by decide +kernel
theorem md_K_corner_25 : decode mb_K_corner 25 = .ok (.if_icmp .le 13, 3) := by decide +kernel
theorem md_K_corner_28 : decode mb_K_corner 28 = .ok (.new 66, 3) := by decide +kernel
theorem md_K_corner_31 : decode mb_K_corner 31 = .ok (.dup, 1) := by decide +kernel
theorem md_K_corner_32 : decode mb_K_corner 32 = .ok (.ldc 176, 2) := by decide +kernel
theorem md_K_corner_34 : decode mb_K_corner 34 = .ok (.invokespecial 70, 3) := by decide +kernel
theorem md_K_corner_37 : decode mb_K_corner 37 = .ok (.athrow, 1) := by decide +kernel
theorem md_K_corner_38 : decode mb_K_corner 38 = .ok (.iload_n 3, 1) := by decide +kernel
theorem md_K_corner_39 : decode mb_K_corner 39 = .ok (.ifCond .ne 15, 3) := by decide +kernel
theorem md_K_corner_42 : decode mb_K_corner 42 = .ok (.aload_n 0, 1) := by decide +kernel
theorem md_K_corner_43 : decode mb_K_corner 43 = .ok (.getfield 19, 3) := by decide +kernel
theorem md_K_corner_46 : decode mb_K_corner 46 = .ok (.iload_n 1, 1) := by decide +kernel
theorem md_K_corner_47 : decode mb_K_corner 47 = .ok (.iload_n 2, 1) := by decide +kernel
theorem md_K_corner_48 : decode mb_K_corner 48 = .ok (.invokevirtual 178, 3) := by decide +kernel
theorem md_K_corner_51 : decode mb_K_corner 51 = .ok (.goto 12, 3) := by decide +kernel
theorem md_K_corner_54 : decode mb_K_corner 54 = .ok (.aload_n 0, 1) := by decide +kernel
theorem md_K_corner_55 : decode mb_K_corner 55 = .ok (.getfield 19, 3) := by decide +kernel
theorem md_K_corner_58 : decode mb_K_corner 58 = .ok (.iload_n 1, 1) := by decide +kernel
theorem md_K_corner_59 : decode mb_K_corner 59 = .ok (.iload_n 2, 1) := by decide +kernel
theorem md_K_corner_60 : decode mb_K_corner 60 = .ok (.invokevirtual 181, 3) := by decide +kernel
theorem md_K_corner_63 : decode mb_K_corner 63 = .ok (.lreturn, 1) := by decide +kernel
theorem md_K_rows32_0 : decode mb_K_rows32 0 = .ok (.lload_n 1, 1) := by decide +kernel
theorem md_K_rows32_1 : decode mb_K_rows32 1 = .ok (.iconst 1, 1) := by decide +kernel
theorem md_K_rows32_2 : decode mb_K_rows32 2 = .ok (.ldc 151, 2) := by decide +kernel
theorem md_K_rows32_4 : decode mb_K_rows32 4 = .ok (.invokestatic 152, 3) := by decide +kernel
theorem md_K_rows32_7 : decode mb_K_rows32 7 = .ok (.ifCond .eq 8, 3) := by decide +kernel
theorem md_K_rows32_10 : decode mb_K_rows32 10 = .ok (.iload_n 3, 1) := by decide +kernel
theorem md_K_rows32_11 : decode mb_K_rows32 11 = .ok (.iconst (-1), 1) := by decide +kernel
theorem md_K_rows32_12 : decode mb_K_rows32 12 = .ok (.if_icmp .ge 13, 3) := by decide +kernel
theorem md_K_rows32_15 : decode mb_K_rows32 15 = .ok (.new 77, 3) := by decide +kernel
theorem md_K_rows32_18 : decode mb_K_rows32 18 = .ok (.dup, 1) := by decide +kernel
theorem md_K_rows32_19 : decode mb_K_rows32 19 = .ok (.ldc 184, 2) := by decide +kernel
theorem md_K_rows32_21 : decode mb_K_rows32 21 = .ok (.invokespecial 81, 3) := by decide +kernel
theorem md_K_rows32_24 : decode mb_K_rows32 24 = .ok (.athrow, 1) := by decide +kernel
theorem md_K_rows32_25 : decode mb_K_rows32 25 = .ok (.lload_n 1, 1) := by decide +kernel
theorem md_K_rows32_26 : decode mb_K_rows32 26 = .ok (.l2i, 1) := by decide +kernel
theorem md_K_rows32_27 : decode mb_K_rows32 27 = .ok (.bipush 74, 2) := by decide +kernel
theorem md_K_rows32_29 : decode mb_K_rows32 29 = .ok (.isub, 1) := by decide +kernel
theorem md_K_rows32_30 : decode mb_K_rows32 30 = .ok (.istore 4, 2) := by decide +kernel
theorem md_K_rows32_32 : decode mb_K_rows32 32 = .ok (.iload 4, 2) := by decide +kernel
theorem md_K_rows32_34 : decode mb_K_rows32 34 = .ok (.ifCond .ge 7, 3) := by decide +kernel
theorem md_K_rows32_37 : decode mb_K_rows32 37 = .ok (.iconst 0, 1) := by decide +kernel
theorem md_K_rows32_38 : decode mb_K_rows32 38 = .ok (.goto 10, 3) := by decide +kernel
theorem md_K_rows32_41 : decode mb_K_rows32 41 = .ok (.iload 4, 2) := by decide +kernel
theorem md_K_rows32_43 : decode mb_K_rows32 43 = .ok (.bipush 32, 2) := by decide +kernel
theorem md_K_rows32_45 : decode mb_K_rows32 45 = .ok (.idiv, 1) := by decide +kernel
theorem md_K_rows32_46 : decode mb_K_rows32 46 = .ok (.iconst 1, 1) := by decide +kernel
theorem md_K_rows32_47 : decode mb_K_rows32 47 = .ok (.iadd, 1) := by decide +kernel
theorem md_K_rows32_48 : decode mb_K_rows32 48 = .ok (.istore 5, 2) := by decide +kernel
theorem md_K_rows32_50 : decode mb_K_rows32 50 = .ok (.iload_n 3, 1) := by decide +kernel
theorem md_K_rows32_51 : decode mb_K_rows32 51 = .ok (.iconst (-1), 1) := by decide +kernel
theorem md_K_rows32_52 : decode mb_K_rows32 52 = .ok (.if_icmp .ne 6, 3) := by decide +kernel
theorem md_K_rows32_55 : decode mb_K_rows32 55 = .ok (.iload 5, 2) := by decide +kernel
theorem md_K_rows32_57 : decode mb_K_rows32 57 = .ok (.ireturn, 1) := by decide +kernel
theorem md_K_rows32_58 : decode mb_K_rows32 58 = .ok (.iload_n 3, 1) := by decide +kernel
theorem md_K_rows32_59 : decode mb_K_rows32 59 = .ok (.iload 5, 2) := by decide +kernel
theorem md_K_rows32_61 : decode mb_K_rows32 61 = .ok (.if_icmp .ge 13, 3) := by decide +kernel
theorem md_K_rows32_64 : decode mb_K_rows32 64 = .ok (.bipush 37, 2) := by decide +kernel
theorem md_K_rows32_66 : decode mb_K_rows32 66 = .ok (.bipush 32, 2) := by decide +kernel
theorem md_K_rows32_68 : decode mb_K_rows32 68 = .ok (.iload_n 3, 1) := by decide +kernel
theorem md_K_rows32_69 : decode mb_K_rows32 69 = .ok (.imul, 1) := by decide +kernel
theorem md_K_rows32_70 : decode mb_K_rows32 70 = .ok (.iadd, 1) := by decide +kernel
theorem md_K_rows32_71 : decode mb_K_rows32 71 = .ok (.goto 4, 3) := by decide +kernel
theorem md_K_rows32_74 : decode mb_K_rows32 74 = .ok (.iconst (-1), 1) := by decide +kernel
theorem md_K_rows32_75 : decode mb_K_rows32 75 = .ok (.ireturn, 1) := by decide +kernel
end
section
theorem md_M_init_0 : decode mb_M_init 0 = .ok (.aload_n 0, 1) := by decide +kernel
theorem md_M_init_1 : decode mb_M_init 1 = .ok (.invokespecial 1, 3) := by decide +kernel
theorem md_M_init_4 : decode mb_M_init 4 = .ok (.aload_n 0, 1) := by decide +kernel
theorem md_M_init_5 : decode mb_M_init 5 = .ok (.sipush 300, 3) := by decide +kernel
theorem md_M_init_8 : decode mb_M_init 8 = .ok (.newarray .int, 2) := by decide +kernel
theorem md_M_init_10 : decode mb_M_init 10 = .ok (.putfield 7, 3) := by decide +kernel
theorem md_M_init_13 : decode mb_M_init 13 = .ok (.aload_n 0, 1) := by decide +kernel
theorem md_M_init_14 : decode mb_M_init 14 = .ok (.sipush 128, 3) := by decide +kernel
theorem md_M_init_17 : decode mb_M_init 17 = .ok (.newarray .int, 2) := by decide +kernel
theorem md_M_init_19 : decode mb_M_init 19 = .ok (.putfield 13, 3) := by decide +kernel
theorem md_M_init_22 : decode mb_M_init 22 = .ok (.aload_n 0, 1) := by decide +kernel
theorem md_M_init_23 : decode mb_M_init 23 = .ok (.sipush 128, 3) := by decide +kernel
theorem md_M_init_26 : decode mb_M_init 26 = .ok (.newarray .int, 2) := by decide +kernel
theorem md_M_init_28 : decode mb_M_init 28 = .ok (.putfield 16, 3) := by decide +kernel
theorem md_M_init_31 : decode mb_M_init 31 = .ok (.aload_n 0, 1) := by decide +kernel
theorem md_M_init_32 : decode mb_M_init 32 = .ok (.bipush 16, 2) := by decide +kernel
theorem md_M_init_34 : decode mb_M_init 34 = .ok (.newarray .int, 2) := by decide +kernel
theorem md_M_init_36 : decode mb_M_init 36 = .ok (.putfield 19, 3) := by decide +kernel
theorem md_M_init_39 : decode mb_M_init 39 = .ok (.aload_n 0, 1) := by decide +kernel
theorem md_M_init_40 : decode mb_M_init 40 = .ok (.ldc2_w 22, 3) := by decide +kernel
theorem md_M_init_43 : decode mb_M_init 43 = .ok (.putfield 24, 3) := by decide +kernel
theorem md_M_init_46 : decode mb_M_init 46 = .ok (.aload_n 0, 1) := by decide +kernel
theorem md_M_init_47 : decode mb_M_init 47 = .ok (.ldc2_w 28, 3) := by decide +kernel
theorem md_M_init_50 : decode mb_M_init 50 = .ok (.putfield 30, 3) := by decide +kernel
theorem md_M_init_53 : decode mb_M_init 53 = .ok (.aload_n 0, 1) := by decide +kernel
theorem md_M_init_54 : decode mb_M_init 54 = .ok (.ldc2_w 33, 3) := by decide +kernel
theorem md_M_init_57 : decode mb_M_init 57 = .ok (.putfield 35, 3) := by decide +kernel
theorem md_M_init_60 : decode mb_M_init 60 = .ok (.aload_n 0, 1) := by decide +kernel
theorem md_M_init_61 : decode mb_M_init 61 = .ok (.ldc2_w 28, 3) := by decide +kernel
theorem md_M_init_64 : decode mb_M_init 64 = .ok (.putfield 38, 3) := by decide +kernel
theorem md_M_init_67 : decode mb_M_init 67 = .ok (.aload_n 0, 1) := by decide +kernel
theorem md_M_init_68 : decode mb_M_init 68 = .ok (.bipush 16, 2) := by decide +kernel
theorem md_M_init_70 : decode mb_M_init 70 = .ok (.newarray .long, 2) := by decide +kernel
theorem md_M_init_72 : decode mb_M_init 72 = .ok (.putfield 41, 3) := by decide +kernel
theorem md_M_init_75 : decode mb_M_init 75 = .ok (.aload_n 0, 1) := by decide +kernel
theorem md_M_init_76 : decode mb_M_init 76 = .ok (.bipush 16, 2) := by decide +kernel
theorem md_M_init_78 : decode mb_M_init 78 = .ok (.newarray .long, 2) := by decide +kernel
theorem md_M_init_80 : decode mb_M_init 80 = .ok (.putfield 45, 3) := by decide +kernel
theorem md_M_init_83 : decode mb_M_init 83 = .ok (.aload_n 0, 1) := by decide +kernel
theorem md_M_init_84 : decode mb_M_init 84 = .ok (.bipush 16, 2) := by decide +kernel
theorem md_M_init_86 : decode mb_M_init 86 = .ok (.newarray .long, 2) := by decide +kernel
theorem md_M_init_88 : decode mb_M_init 88 = .ok (.putfield 48, 3) := by decide +kernel
theorem md_M_init_91 : decode mb_M_init 91 = .ok (.aload_n 0, 1) := by decide +kernel
theorem md_M_init_92 : decode mb_M_init 92 = .ok (.bipush 9, 2) := by decide +kernel
theorem md_M_init_94 : decode mb_M_init 94 = .ok (.newarray .int, 2) := by decide +kernel
theorem md_M_init_96 : decode mb_M_init 96 = .ok (.putfield 51, 3) := by decide +kernel
theorem md_M_init_99 : decode mb_M_init 99 = .ok (.aload_n 0, 1) := by decide +kernel
theorem md_M_init_100 : decode mb_M_init 100 = .ok (.bipush 9, 2) := by decide +kernel
theorem md_M_init_102 : decode mb_M_init 102 = .ok (.newarray .int, 2) := by decide +kernel
theorem md_M_init_104 : decode mb_M_init 104 = .ok (.putfield 54, 3) := by decide +kernel
theorem md_M_init_107 : decode mb_M_init 107 = .ok (.aload_n 0, 1) := by decide +kernel
theorem md_M_init_108 : decode mb_M_init 108 = .ok (.iconst 0, 1) := by decide +kernel
theorem md_M_init_109 : decode mb_M_init 109 = .ok (.bipush 65, 2) := by decide +kernel
theorem md_M_init_111 : decode mb_M_init 111 = .ok (.iconst 0, 1) := by decide +kernel
theorem md_M_init_112 : decode mb_M_init 112 = .ok (.invokevirtual 57, 3) := by decide +kernel
theorem md_M_init_115 : decode mb_M_init 115 = .ok (.aload_n 0, 1) := by decide +kernel
theorem md_M_init_116 : decode mb_M_init 116 = .ok (.iconst 1, 1) := by decide +kernel
theorem md_M_init_117 : decode mb_M_init 117 = .ok (.bipush 60, 2) := by decide +kernel
theorem md_M_init_119 : decode mb_M_init 119 = .ok (.bipush 25, 2) := by decide +kernel
theorem md_M_init_121 : decode mb_M_init 121 = .ok (.invokevirtual 57, 3) := by decide +kernel
theorem md_M_init_124 : decode mb_M_init 124 = .ok (.aload_n 0, 1) := by decide +kernel
theorem md_M_init_125 : decode mb_M_init 125 = .ok (.iconst 2, 1) := by decide +kernel
theorem md_M_init_126 : decode mb_M_init 126 = .ok (.bipush 52, 2) := by decide +kernel
theorem md_M_init_128 : decode mb_M_init 128 = .ok (.bipush 39, 2) := by decide +kernel
theorem md_M_init_130 : decode mb_M_init 130 = .ok (.invokevirtual 57, 3) := by decide +kernel
theorem md_M_init_133 : decode mb_M_init 133 = .ok (.aload_n 0, 1) := by decide +kernel
theorem md_M_init_134 : decode mb_M_init 134 = .ok (.iconst 3, 1) := by decide +kernel
theorem md_M_init_135 : decode mb_M_init 135 = .ok (.bipush 39, 2) := by decide +kernel
theorem md_M_init_137 : decode mb_M_init 137 = .ok (.bipush 52, 2) := by decide +kernel
theorem md_M_init_139 : decode mb_M_init 139 = .ok (.invokevirtual 57, 3) := by decide +kernel
theorem md_M_init_142 : decode mb_M_init 142 = .ok (.aload_n 0, 1) := by decide +kernel
theorem md_M_init_143 : decode mb_M_init 143 = .ok (.iconst 4, 1) := by decide +kernel
theorem md_M_init_144 : decode mb_M_init 144 = .ok (.bipush 25, 2) := by decide +kernel
theorem md_M_init_146 : decode mb_M_init 146 = .ok (.bipush 60, 2) := by decide +kernel
theorem md_M_init_148 : decode mb_M_init 148 = .ok (.invokevirtual 57, 3) := by decide +kernel
theorem md_M_init_151 : decode mb_M_init 151 = .ok (.aload_n 0, 1) := by decide +kernel
theorem md_M_init_152 : decode mb_M_init 152 = .ok (.iconst 5, 1) := by decide +kernel
theorem md_M_init_153 : decode mb_M_init 153 = .ok (.iconst 0, 1) := by decide +kernel
theorem md_M_init_154 : decode mb_M_init 154 = .ok (.bipush 65, 2) := by decide +kernel
theorem md_M_init_156 : decode mb_M_init 156 = .ok (.invokevirtual 57, 3) := by decide +kernel
theorem md_M_init_159 : decode mb_M_init 159 = .ok (.bipush 6, 2) := by decide +kernel
theorem md_M_init_161 : decode mb_M_init 161 = .ok (.istore_n 1, 1) := by decide +kernel
theorem md_M_init_162 : decode mb_M_init 162 = .ok (.iload_n 1, 1) := by decide +kernel
theorem md_M_init_163 : decode mb_M_init 163 = .ok (.bipush 9, 2) := by decide +kernel
theorem md_M_init_165 : decode mb_M_init 165 = .ok (.if_icmp .ge 33, 3) := by decide +kernel
theorem md_M_init_168 : decode mb_M_init 168 = .ok (.aload_n 0, 1) := by decide +kernel
theorem md_M_init_169 : decode mb_M_init 169 = .ok (.iload_n 1, 1) := by decide +kernel
theorem md_M_init_170 : decode mb_M_init 170 = .ok (.aload_n 0, 1) := by decide +kernel
theorem md_M_init_171 : decode mb_M_init 171 = .ok (.getfield 51, 3) := by decide +kernel
theorem md_M_init_174 : decode mb_M_init 174 = .ok (.bipush 10, 2) := by decide +kernel
theorem md_M_init_176 : decode mb_M_init 176 = .ok (.iload_n 1, 1) := by decide +kernel
theorem md_M_init_177 : decode mb_M_init 177 = .ok (.isub, 1) := by decide +kernel
theorem md_M_init_178 : decode mb_M_init 178 = .ok (.iaload, 1) := by decide +kernel
theorem md_M_init_179 : decode mb_M_init 179 = .ok (.ineg, 1) := by decide +kernel
theorem md_M_init_180 : decode mb_M_init 180 = .ok (.aload_n 0, 1) := by decide +kernel
theorem md_M_init_181 : decode mb_M_init 181 = .ok (.getfield 54, 3) := by decide +kernel
theorem md_M_init_184 : decode mb_M_init 184 = .ok (.bipush 10, 2) := by decide +kernel
theorem md_M_init_186 : decode mb_M_init 186 = .ok (.iload_n 1, 1) := by decide +kernel
theorem md_M_init_187 : decode mb_M_init 187 = .ok (.isub, 1) := by decide +kernel
theorem md_M_init_188 : decode mb_M_init 188 = .ok (.iaload, 1) := by decide +kernel
theorem md_M_init_189 : decode mb_M_init 189 = .ok (.invokevirtual 57, 3) := by decide +kernel
theorem md_M_init_192 : decode mb_M_init 192 = .ok (.iinc 1 1, 3) := by decide +kernel
theorem md_M_init_195 : decode mb_M_init 195 = .ok (.goto (-33), 3) := by decide +kernel
theorem md_M_init_198 : decode mb_M_init 198 = .ok (.return_, 1) := by decide +kernel
theorem md_M_here_0 : decode mb_M_here 0 = .ok (.aload_n 0, 1) := by decide +kernel
theorem md_M_here_1 : decode mb_M_here 1 = .ok (.getfield 68, 3) := by decide +kernel
theorem md_M_here_4 : decode mb_M_here 4 = .ok (.aload_n 0, 1) := by decide +kernel
theorem md_M_here_5 : decode mb_M_here 5 = .ok (.getfield 65, 3) := by decide +kernel
theorem md_M_here_8 : decode mb_M_here 8 = .ok (.if_icmp .ge 15, 3) := by decide +kernel
theorem md_M_here_11 : decode mb_M_here 11 = .ok (.aload_n 0, 1) := by decide +kernel
theorem md_M_here_12 : decode mb_M_here 12 = .ok (.getfield 7, 3) := by decide +kernel
theorem md_M_here_15 : decode mb_M_here 15 = .ok (.aload_n 0, 1) := by decide +kernel
theorem md_M_here_16 : decode mb_M_here 16 = .ok (.getfield 68, 3) := by decide +kernel
theorem md_M_here_19 : decode mb_M_here 19 = .ok (.iaload, 1) := by decide +kernel
theorem md_M_here_20 : decode mb_M_here 20 = .ok (.goto 4, 3) := by decide +kernel
theorem md_M_here_23 : decode mb_M_here 23 = .ok (.iconst (-1), 1) := by decide +kernel
theorem md_M_here_24 : decode mb_M_here 24 = .ok (.ireturn, 1) := by decide +kernel
theorem md_M_failAt_0 : decode mb_M_failAt 0 = .ok (.aload_n 0, 1) := by decide +kernel
theorem md_M_failAt_1 : decode mb_M_failAt 1 = .ok (.aload_n 0, 1) := by decide +kernel
theorem md_M_failAt_2 : decode mb_M_failAt 2 = .ok (.getfield 71, 3) := by decide +kernel
theorem md_M_failAt_5 : decode mb_M_failAt 5 = .ok (.ifCond .ge 7, 3) := by decide +kernel
theorem md_M_failAt_8 : decode mb_M_failAt 8 = .ok (.iload_n 1, 1) := by decide +kernel
theorem md_M_failAt_9 : decode mb_M_failAt 9 = .ok (.goto 7, 3) := by decide +kernel
theorem md_M_failAt_12 : decode mb_M_failAt 12 = .ok (.aload_n 0, 1) := by decide +kernel
theorem md_M_failAt_13 : decode mb_M_failAt 13 = .ok (.getfield 71, 3) := by decide +kernel
theorem md_M_failAt_16 : decode mb_M_failAt 16 = .ok (.putfield 71, 3) := by decide +kernel
theorem md_M_failAt_19 : decode mb_M_failAt 19 = .ok (.return_, 1) := by decide +kernel
theorem md_M_isIn_0 : decode mb_M_isIn 0 = .ok (.lload_n 0, 1) := by decide +kernel
theorem md_M_isIn_1 : decode mb_M_isIn 1 = .ok (.lload_n 2, 1) := by decide +kernel
theorem md_M_isIn_2 : decode mb_M_isIn 2 = .ok (.lcmp, 1) := by decide +kernel
theorem md_M_isIn_3 : decode mb_M_isIn 3 = .ok (.ifCond .lt 14, 3) := by decide +kernel
theorem md_M_isIn_6 : decode mb_M_isIn 6 = .ok (.lload_n 0, 1) := by decide +kernel
theorem md_M_isIn_7 : decode mb_M_isIn 7 = .ok (.lload 4, 2) := by decide +kernel
theorem md_M_isIn_9 : decode mb_M_isIn 9 = .ok (.lcmp, 1) := by decide +kernel
theorem md_M_isIn_10 : decode mb_M_isIn 10 = .ok (.ifCond .gt 7, 3) := by decide +kernel
theorem md_M_isIn_13 : decode mb_M_isIn 13 = .ok (.iconst 1, 1) := by decide +kernel
theorem md_M_isIn_14 : decode mb_M_isIn 14 = .ok (.goto 4, 3) := by decide +kernel
theorem md_M_isIn_17 : decode mb_M_isIn 17 = .ok (.iconst 0, 1) := by decide +kernel
theorem md_M_isIn_18 : decode mb_M_isIn 18 = .ok (.ireturn, 1) := by decide +kernel
theorem md_M_hinge_0 : decode mb_M_hinge 0 = .ok (.aload_n 0, 1) := by decide +kernel
theorem md_M_hinge_1 : decode mb_M_hinge 1 = .ok (.aload_n 0, 1) := by decide +kernel
theorem md_M_hinge_2 : decode mb_M_hinge 2 = .ok (.getfield 98, 3) := by decide +kernel
theorem md_M_hinge_5 : decode mb_M_hinge 5 = .ok (.ifCond .ne 7, 3) := by decide +kernel
theorem md_M_hinge_8 : decode mb_M_hinge 8 = .ok (.iconst 1, 1) := by decide +kernel
theorem md_M_hinge_9 : decode mb_M_hinge 9 = .ok (.goto 4, 3) := by decide +kernel
theorem md_M_hinge_12 : decode mb_M_hinge 12 = .ok (.iconst 0, 1) := by decide +kernel
theorem md_M_hinge_13 : decode mb_M_hinge 13 = .ok (.putfield 61, 3) := by decide +kernel
theorem md_M_hinge_16 : decode mb_M_hinge 16 = .ok (.iconst (-1), 1) := by decide +kernel
theorem md_M_hinge_17 : decode mb_M_hinge 17 = .ok (.istore 6, 2) := by decide +kernel
theorem md_M_hinge_19 : decode mb_M_hinge 19 = .ok (.aload_n 0, 1) := by decide +kernel
theorem md_M_hinge_20 : decode mb_M_hinge 20 = .ok (.getfield 98, 3) := by decide +kernel
theorem md_M_hinge_23 : decode mb_M_hinge 23 = .ok (.iconst 1, 1) := by decide +kernel
theorem md_M_hinge_24 : decode mb_M_hinge 24 = .ok (.isub, 1) := by decide +kernel
theorem md_M_hinge_25 : decode mb_M_hinge 25 = .ok (.istore 7, 2) := by decide +kernel
theorem md_M_hinge_27 : decode mb_M_hinge 27 = .ok (.iload 7, 2) := by decide +kernel
theorem md_M_hinge_29 : decode mb_M_hinge 29 = .ok (.ifCond .lt 104, 3) := by decide +kernel
theorem md_M_hinge_32 : decode mb_M_hinge 32 = .ok (.aload_n 0, 1) := by decide +kernel
theorem md_M_hinge_33 : decode mb_M_hinge 33 = .ok (.getfield 61, 3) := by decide +kernel
theorem md_M_hinge_36 : decode mb_M_hinge 36 = .ok (.ifCond .ne 97, 3) := by decide +kernel
theorem md_M_hinge_39 : decode mb_M_hinge 39 = .ok (.lload_n 1, 1) := by decide +kernel
theorem md_M_hinge_40 : decode mb_M_hinge 40 = .ok (.aload_n 0, 1) := by decide +kernel
theorem md_M_hinge_41 : decode mb_M_hinge 41 = .ok (.iload 7, 2) := by decide +kernel
theorem md_M_hinge_43 : decode mb_M_hinge 43 = .ok (.iconst 0, 1) := by decide +kernel
theorem md_M_hinge_44 : decode mb_M_hinge 44 = .ok (.invokevirtual 106, 3) := by decide +kernel
theorem md_M_hinge_47 : decode mb_M_hinge 47 = .ok (.aload_n 0, 1) := by decide +kernel
theorem md_M_hinge_48 : decode mb_M_hinge 48 = .ok (.iload 7, 2) := by decide +kernel
theorem md_M_hinge_50 : decode mb_M_hinge 50 = .ok (.iconst 1, 1) := by decide +kernel
theorem md_M_hinge_51 : decode mb_M_hinge 51 = .ok (.invokevirtual 106, 3) := by decide +kernel
theorem md_M_hinge_54 : decode mb_M_hinge 54 = .ok (.invokestatic 91, 3) := by decide +kernel
theorem md_M_hinge_57 : decode mb_M_hinge 57 = .ok (.ifCond .eq 42, 3) := by decide +kernel
theorem md_M_hinge_60 : decode mb_M_hinge 60 = .ok (.lload_n 3, 1) := by decide +kernel
theorem md_M_hinge_61 : decode mb_M_hinge 61 = .ok (.aload_n 0, 1) := by decide +kernel
theorem md_M_hinge_62 : decode mb_M_hinge 62 = .ok (.iload 7, 2) := by decide +kernel
theorem md_M_hinge_64 : decode mb_M_hinge 64 = .ok (.iconst 2, 1) := by decide +kernel
theorem md_M_hinge_65 : decode mb_M_hinge 65 = .ok (.invokevirtual 106, 3) := by decide +kernel
theorem md_M_hinge_68 : decode mb_M_hinge 68 = .ok (.aload_n 0, 1) := by decide +kernel
theorem md_M_hinge_69 : decode mb_M_hinge 69 = .ok (.iload 7, 2) := by decide +kernel
theorem md_M_hinge_71 : decode mb_M_hinge 71 = .ok (.iconst 3, 1) := by decide +kernel
theorem md_M_hinge_72 : decode mb_M_hinge 72 = .ok (.invokevirtual 106, 3) := by decide +kernel
theorem md_M_hinge_75 : decode mb_M_hinge 75 = .ok (.invokestatic 91, 3) := by decide +kernel
theorem md_M_hinge_78 : decode mb_M_hinge 78 = .ok (.ifCond .eq 21, 3) := by decide +kernel
theorem md_M_hinge_81 : decode mb_M_hinge 81 = .ok (.aload_n 0, 1) := by decide +kernel
theorem md_M_hinge_82 : decode mb_M_hinge 82 = .ok (.iload 7, 2) := by decide +kernel
theorem md_M_hinge_84 : decode mb_M_hinge 84 = .ok (.iconst 4, 1) := by decide +kernel
theorem md_M_hinge_85 : decode mb_M_hinge 85 = .ok (.invokevirtual 106, 3) := by decide +kernel
theorem md_M_hinge_88 : decode mb_M_hinge 88 = .ok (.iload 5, 2) := by decide +kernel
theorem md_M_hinge_90 : decode mb_M_hinge 90 = .ok (.i2l, 1) := by decide +kernel
theorem md_M_hinge_91 : decode mb_M_hinge 91 = .ok (.lcmp, 1) := by decide +kernel
theorem md_M_hinge_92 : decode mb_M_hinge 92 = .ok (.ifCond .lt 7, 3) := by decide +kernel
theorem md_M_hinge_95 : decode mb_M_hinge 95 = .ok (.iconst 1, 1) := by decide +kernel
theorem md_M_hinge_96 : decode mb_M_hinge 96 = .ok (.goto 4, 3) := by decide +kernel
theorem md_M_hinge_99 : decode mb_M_hinge 99 = .ok (.iconst 0, 1) := by decide +kernel
theorem md_M_hinge_100 : decode mb_M_hinge 100 = .ok (.istore 8, 2) := by decide +kernel
theorem md_M_hinge_102 : decode mb_M_hinge 102 = .ok (.iload 8, 2) := by decide +kernel
theorem md_M_hinge_104 : decode mb_M_hinge 104 = .ok (.ifCond .eq 19, 3) := by decide +kernel
theorem md_M_hinge_107 : decode mb_M_hinge 107 = .ok (.aload_n 0, 1) := by decide +kernel
theorem md_M_hinge_108 : decode mb_M_hinge 108 = .ok (.iload 7, 2) := by decide +kernel
theorem md_M_hinge_110 : decode mb_M_hinge 110 = .ok (.bipush 104, 2) := by decide +kernel
theorem md_M_hinge_112 : decode mb_M_hinge 112 = .ok (.invokevirtual 110, 3) := by decide +kernel
theorem md_M_hinge_115 : decode mb_M_hinge 115 = .ok (.ifCond .eq 8, 3) := by decide +kernel
theorem md_M_hinge_118 : decode mb_M_hinge 118 = .ok (.iload 7, 2) := by decide +kernel
theorem md_M_hinge_120 : decode mb_M_hinge 120 = .ok (.goto 5, 3) := by decide +kernel
theorem md_M_hinge_123 : decode mb_M_hinge 123 = .ok (.iload 6, 2) := by decide +kernel
theorem md_M_hinge_125 : decode mb_M_hinge 125 = .ok (.istore 6, 2) := by decide +kernel
theorem md_M_hinge_127 : decode mb_M_hinge 127 = .ok (.iinc 7 (-1), 3) := by decide +kernel
theorem md_M_hinge_130 : decode mb_M_hinge 130 = .ok (.goto (-103), 3) := by decide +kernel
theorem md_M_hinge_133 : decode mb_M_hinge 133 = .ok (.aload_n 0, 1) := by decide +kernel
theorem md_M_hinge_134 : decode mb_M_hinge 134 = .ok (.getfield 61, 3) := by decide +kernel
theorem md_M_hinge_137 : decode mb_M_hinge 137 = .ok (.ifCond .le 7, 3) := by decide +kernel
theorem md_M_hinge_140 : decode mb_M_hinge 140 = .ok (.iconst 0, 1) := by decide +kernel
theorem md_M_hinge_141 : decode mb_M_hinge 141 = .ok (.goto 5, 3) := by decide +kernel
theorem md_M_hinge_144 : decode mb_M_hinge 144 = .ok (.iload 6, 2) := by decide +kernel
theorem md_M_hinge_146 : decode mb_M_hinge 146 = .ok (.ireturn, 1) := by decide +kernel
theorem md_M_isThere_0 : decode mb_M_isThere 0 = .ok (.aload_n 0, 1) := by decide +kernel
theorem md_M_isThere_1 : decode mb_M_isThere 1 = .ok (.getfield 13, 3) := by decide +kernel
theorem md_M_isThere_4 : decode mb_M_isThere 4 = .ok (.bipush 8, 2) := by decide +kernel
theorem md_M_isThere_6 : decode mb_M_isThere 6 = .ok (.iload_n 1, 1) := by decide +kernel
theorem md_M_isThere_7 : decode mb_M_isThere 7 = .ok (.imul, 1) := by decide +kernel
theorem md_M_isThere_8 : decode mb_M_isThere 8 = .ok (.iaload, 1) := by decide +kernel
theorem md_M_isThere_9 : decode mb_M_isThere 9 = .ok (.iload_n 2, 1) := by decide +kernel
theorem md_M_isThere_10 : decode mb_M_isThere 10 = .ok (.if_icmp .ne 16, 3) := by decide +kernel
theorem md_M_isThere_13 : decode mb_M_isThere 13 = .ok (.aload_n 0, 1) := by decide +kernel
theorem md_M_isThere_14 : decode mb_M_isThere 14 = .ok (.getfield 19, 3) := by decide +kernel
theorem md_M_isThere_17 : decode mb_M_isThere 17 = .ok (.iload_n 1, 1) := by decide +kernel
theorem md_M_isThere_18 : decode mb_M_isThere 18 = .ok (.iaload, 1) := by decide +kernel
theorem md_M_isThere_19 : decode mb_M_isThere 19 = .ok (.ifCond .le 7, 3) := by decide +kernel
theorem md_M_isThere_22 : decode mb_M_isThere 22 = .ok (.iconst 1, 1) := by decide +kernel
theorem md_M_isThere_23 : decode mb_M_isThere 23 = .ok (.goto 4, 3) := by decide +kernel
theorem md_M_isThere_26 : decode mb_M_isThere 26 = .ok (.iconst 0, 1) := by decide +kernel
theorem md_M_isThere_27 : decode mb_M_isThere 27 = .ok (.ireturn, 1) := by decide +kernel
theorem md_M_door_0 : decode mb_M_door 0 = .ok (.aload_n 0, 1) := by decide +kernel
theorem md_M_door_1 : decode mb_M_door 1 = .ok (.lload_n 1, 1) := by decide +kernel
theorem md_M_door_2 : decode mb_M_door 2 = .ok (.invokestatic 119, 3) := by decide +kernel
theorem md_M_door_5 : decode mb_M_door 5 = .ok (.ifCond .eq 30, 3) := by decide +kernel
theorem md_M_door_8 : decode mb_M_door 8 = .ok (.lload_n 3, 1) := by decide +kernel
theorem md_M_door_9 : decode mb_M_door 9 = .ok (.invokestatic 119, 3) := by decide +kernel
theorem md_M_door_12 : decode mb_M_door 12 = .ok (.ifCond .eq 23, 3) := by decide +kernel
theorem md_M_door_15 : decode mb_M_door 15 = .ok (.lload 5, 2) := by decide +kernel
theorem md_M_door_17 : decode mb_M_door 17 = .ok (.invokestatic 119, 3) := by decide +kernel
theorem md_M_door_20 : decode mb_M_door 20 = .ok (.ifCond .eq 15, 3) := by decide +kernel
theorem md_M_door_23 : decode mb_M_door 23 = .ok (.lload 7, 2) := by decide +kernel
theorem md_M_door_25 : decode mb_M_door 25 = .ok (.invokestatic 119, 3) := by decide +kernel
theorem md_M_door_28 : decode mb_M_door 28 = .ok (.ifCond .eq 7, 3) := by decide +kernel
theorem md_M_door_31 : decode mb_M_door 31 = .ok (.iconst 0, 1) := by decide +kernel
theorem md_M_door_32 : decode mb_M_door 32 = .ok (.goto 4, 3) := by decide +kernel
theorem md_M_door_35 : decode mb_M_door 35 = .ok (.iconst 1, 1) := by decide +kernel
theorem md_M_door_36 : decode mb_M_door 36 = .ok (.putfield 61, 3) := by decide +kernel
theorem md_M_door_39 : decode mb_M_door 39 = .ok (.aload_n 0, 1) := by decide +kernel
theorem md_M_door_40 : decode mb_M_door 40 = .ok (.getfield 61, 3) := by decide +kernel
theorem md_M_door_43 : decode mb_M_door 43 = .ok (.ifCond .gt 41, 3) := by decide +kernel
theorem md_M_door_46 : decode mb_M_door 46 = .ok (.lload_n 1, 1) := by decide +kernel
theorem md_M_door_47 : decode mb_M_door 47 = .ok (.aload_n 0, 1) := by decide +kernel
theorem md_M_door_48 : decode mb_M_door 48 = .ok (.getfield 24, 3) := by decide +kernel
theorem md_M_door_51 : decode mb_M_door 51 = .ok (.lcmp, 1) := by decide +kernel
theorem md_M_door_52 : decode mb_M_door 52 = .ok (.ifCond .ne 34, 3) := by decide +kernel
theorem md_M_door_55 : decode mb_M_door 55 = .ok (.lload_n 3, 1) := by decide +kernel
theorem md_M_door_56 : decode mb_M_door 56 = .ok (.aload_n 0, 1) := by decide +kernel
theorem md_M_door_57 : decode mb_M_door 57 = .ok (.getfield 30, 3) := by decide +kernel
theorem md_M_door_60 : decode mb_M_door 60 = .ok (.lcmp, 1) := by decide +kernel
theorem md_M_door_61 : decode mb_M_door 61 = .ok (.ifCond .ne 25, 3) := by decide +kernel
theorem md_M_door_64 : decode mb_M_door 64 = .ok (.lload 5, 2) := by decide +kernel
theorem md_M_door_66 : decode mb_M_door 66 = .ok (.aload_n 0, 1) := by decide +kernel
theorem md_M_door_67 : decode mb_M_door 67 = .ok (.getfield 35, 3) := by decide +kernel
theorem md_M_door_70 : decode mb_M_door 70 = .ok (.lcmp, 1) := by decide +kernel
theorem md_M_door_71 : decode mb_M_door 71 = .ok (.ifCond .ne 15, 3) := by decide +kernel
theorem md_M_door_74 : decode mb_M_door 74 = .ok (.lload 7, 2) := by decide +kernel
theorem md_M_door_76 : decode mb_M_door 76 = .ok (.aload_n 0, 1) := by decide +kernel
theorem md_M_door_77 : decode mb_M_door 77 = .ok (.getfield 38, 3) := by decide +kernel
theorem md_M_door_80 : decode mb_M_door 80 = .ok (.lcmp, 1) := by decide +kernel
theorem md_M_door_81 : decode mb_M_door 81 = .ok (.ifCond .ne 5, 3) := by decide +kernel
theorem md_M_door_84 : decode mb_M_door 84 = .ok (.iconst 0, 1) := by decide +kernel
theorem md_M_door_85 : decode mb_M_door 85 = .ok (.ireturn, 1) := by decide +kernel
theorem md_M_door_86 : decode mb_M_door 86 = .ok (.aload_n 0, 1) := by decide +kernel
theorem md_M_door_87 : decode mb_M_door 87 = .ok (.lload_n 1, 1) := by decide +kernel
theorem md_M_door_88 : decode mb_M_door 88 = .ok (.putfield 24, 3) := by decide +kernel
theorem md_M_door_91 : decode mb_M_door 91 = .ok (.aload_n 0, 1) := by decide +kernel
theorem md_M_door_92 : decode mb_M_door 92 = .ok (.lload_n 3, 1) := by decide +kernel
theorem md_M_door_93 : decode mb_M_door 93 = .ok (.putfield 30, 3) := by decide +kernel
theorem md_M_door_96 : decode mb_M_door 96 = .ok (.aload_n 0, 1) := by decide +kernel
theorem md_M_door_97 : decode mb_M_door 97 = .ok (.lload 5, 2) := by decide +kernel
theorem md_M_door_99 : decode mb_M_door 99 = .ok (.putfield 35, 3) := by decide +kernel
theorem md_M_door_102 : decode mb_M_door 102 = .ok (.aload_n 0, 1) := by decide +kernel
theorem md_M_door_103 : decode mb_M_door 103 = .ok (.lload 7, 2) := by decide +kernel
theorem md_M_door_105 : decode mb_M_door 105 = .ok (.putfield 38, 3) := by decide +kernel
theorem md_M_door_108 : decode mb_M_door 108 = .ok (.iconst 1, 1) := by decide +kernel
theorem md_M_door_109 : decode mb_M_door 109 = .ok (.ireturn, 1) := by decide +kernel
theorem md_M_isSize_0 : decode mb_M_isSize 0 = .ok (.lload_n 0, 1) := by decide +kernel
theorem md_M_isSize_1 : decode mb_M_isSize 1 = .ok (.lconst 1, 1) := by decide +kernel
theorem md_M_isSize_2 : decode mb_M_isSize 2 = .ok (.lcmp, 1) := by decide +kernel
theorem md_M_isSize_3 : decode mb_M_isSize 3 = .ok (.ifCond .lt 15, 3) := by decide +kernel
theorem md_M_isSize_6 : decode mb_M_isSize 6 = .ok (.lload_n 0, 1) := by decide +kernel
theorem md_M_isSize_7 : decode mb_M_isSize 7 = .ok (.ldc2_w 117, 3) := by decide +kernel
theorem md_M_isSize_10 : decode mb_M_isSize 10 = .ok (.lcmp, 1) := by decide +kernel
theorem md_M_isSize_11 : decode mb_M_isSize 11 = .ok (.ifCond .gt 7, 3) := by decide +kernel
theorem md_M_isSize_14 : decode mb_M_isSize 14 = .ok (.iconst 1, 1) := by decide +kernel
theorem md_M_isSize_15 : decode mb_M_isSize 15 = .ok (.goto 4, 3) := by decide +kernel
theorem md_M_isSize_18 : decode mb_M_isSize 18 = .ok (.iconst 0, 1) := by decide +kernel
theorem md_M_isSize_19 : decode mb_M_isSize 19 = .ok (.ireturn, 1) := by decide +kernel
theorem md_M_grams_0 : decode mb_M_grams 0 = .ok (.aload_n 0, 1) := by decide +kernel
theorem md_M_grams_1 : decode mb_M_grams 1 = .ok (.getfield 24, 3) := by decide +kernel
theorem md_M_grams_4 : decode mb_M_grams 4 = .ok (.aload_n 0, 1) := by decide +kernel
theorem md_M_grams_5 : decode mb_M_grams 5 = .ok (.getfield 30, 3) := by decide +kernel
theorem md_M_grams_8 : decode mb_M_grams 8 = .ok (.lmul, 1) := by decide +kernel
theorem md_M_grams_9 : decode mb_M_grams 9 = .ok (.aload_n 0, 1) := by decide +kernel
theorem md_M_grams_10 : decode mb_M_grams 10 = .ok (.getfield 35, 3) := by decide +kernel
theorem md_M_grams_13 : decode mb_M_grams 13 = .ok (.lmul, 1) := by decide +kernel
theorem md_M_grams_14 : decode mb_M_grams 14 = .ok (.aload_n 0, 1) := by decide +kernel
theorem md_M_grams_15 : decode mb_M_grams 15 = .ok (.getfield 38, 3) := by decide +kernel
theorem md_M_grams_18 : decode mb_M_grams 18 = .ok (.lmul, 1) := by decide +kernel
theorem md_M_grams_19 : decode mb_M_grams 19 = .ok (.lreturn, 1) := by decide +kernel
theorem md_M_common_0 : decode mb_M_common 0 = .ok (.lload_n 0, 1) := by decide +kernel
theorem md_M_common_1 : decode mb_M_common 1 = .ok (.lstore 4, 2) := by decide +kernel
theorem md_M_common_3 : decode mb_M_common 3 = .ok (.lload_n 2, 1) := by decide +kernel
theorem md_M_common_4 : decode mb_M_common 4 = .ok (.lstore 6, 2) := by decide +kernel
theorem md_M_common_6 : decode mb_M_common 6 = .ok (.lload 6, 2) := by decide +kernel
theorem md_M_common_8 : decode mb_M_common 8 = .ok (.lconst 0, 1) := by decide +kernel
theorem md_M_common_9 : decode mb_M_common 9 = .ok (.lcmp, 1) := by decide +kernel
theorem md_M_common_10 : decode mb_M_common 10 = .ok (.ifCond .eq 21, 3) := by decide +kernel
theorem md_M_common_13 : decode mb_M_common 13 = .ok (.lload 4, 2) := by decide +kernel
theorem md_M_common_15 : decode mb_M_common 15 = .ok (.lload 6, 2) := by decide +kernel
theorem md_M_common_17 : decode mb_M_common 17 = .ok (.lrem, 1) := by decide +kernel
theorem md_M_common_18 : decode mb_M_common 18 = .ok (.lstore 8, 2) := by decide +kernel
theorem md_M_common_20 : decode mb_M_common 20 = .ok (.lload 6, 2) := by decide +kernel
theorem md_M_common_22 : decode mb_M_common 22 = .ok (.lstore 4, 2) := by decide +kernel
theorem md_M_common_24 : decode mb_M_common 24 = .ok (.lload 8, 2) := by decide +kernel
theorem md_M_common_26 : decode mb_M_common 26 = .ok (.lstore 6, 2) := by decide +kernel
theorem md_M_common_28 : decode mb_M_common 28 = .ok (.goto (-22), 3) := by decide +kernel
theorem md_M_common_31 : decode mb_M_common 31 = .ok (.lload 4, 2) := by decide +kernel
theorem md_M_common_33 : decode mb_M_common 33 = .ok (.lreturn, 1) := by decide +kernel
theorem md_M_count_0 : decode mb_M_count 0 = .ok (.aload_n 0, 1) := by decide +kernel
theorem md_M_count_1 : decode mb_M_count 1 = .ok (.aload_n 0, 1) := by decide +kernel
theorem md_M_count_2 : decode mb_M_count 2 = .ok (.getfield 98, 3) := by decide +kernel
theorem md_M_count_5 : decode mb_M_count 5 = .ok (.ifCond .ne 7, 3) := by decide +kernel
theorem md_M_count_8 : decode mb_M_count 8 = .ok (.iconst 1, 1) := by decide +kernel
theorem md_M_count_9 : decode mb_M_count 9 = .ok (.goto 4, 3) := by decide +kernel
theorem md_M_count_12 : decode mb_M_count 12 = .ok (.iconst 0, 1) := by decide +kernel
theorem md_M_count_13 : decode mb_M_count 13 = .ok (.putfield 61, 3) := by decide +kernel
theorem md_M_count_16 : decode mb_M_count 16 = .ok (.aload_n 0, 1) := by decide +kernel
theorem md_M_count_17 : decode mb_M_count 17 = .ok (.getfield 61, 3) := by decide +kernel
theorem md_M_count_20 : decode mb_M_count 20 = .ok (.ifCond .le 7, 3) := by decide +kernel
theorem md_M_count_23 : decode mb_M_count 23 = .ok (.iconst 0, 1) := by decide +kernel
theorem md_M_count_24 : decode mb_M_count 24 = .ok (.goto 7, 3) := by decide +kernel
theorem md_M_count_27 : decode mb_M_count 27 = .ok (.aload_n 0, 1) := by decide +kernel
theorem md_M_count_28 : decode mb_M_count 28 = .ok (.invokevirtual 133, 3) := by decide +kernel
theorem md_M_count_31 : decode mb_M_count 31 = .ok (.ireturn, 1) := by decide +kernel
theorem md_M_hinges_0 : decode mb_M_hinges 0 = .ok (.iconst (-1), 1) := by decide +kernel
theorem md_M_hinges_1 : decode mb_M_hinges 1 = .ok (.istore_n 1, 1) := by decide +kernel
theorem md_M_hinges_2 : decode mb_M_hinges 2 = .ok (.aload_n 0, 1) := by decide +kernel
theorem md_M_hinges_3 : decode mb_M_hinges 3 = .ok (.getfield 98, 3) := by decide +kernel
theorem md_M_hinges_6 : decode mb_M_hinges 6 = .ok (.iconst 1, 1) := by decide +kernel
theorem md_M_hinges_7 : decode mb_M_hinges 7 = .ok (.isub, 1) := by decide +kernel
theorem md_M_hinges_8 : decode mb_M_hinges 8 = .ok (.istore_n 2, 1) := by decide +kernel
theorem md_M_hinges_9 : decode mb_M_hinges 9 = .ok (.iload_n 2, 1) := by decide +kernel
theorem md_M_hinges_10 : decode mb_M_hinges 10 = .ok (.ifCond .lt 81, 3) := by decide +kernel
theorem md_M_hinges_13 : decode mb_M_hinges 13 = .ok (.aload_n 0, 1) := by decide +kernel
theorem md_M_hinges_14 : decode mb_M_hinges 14 = .ok (.getfield 13, 3) := by decide +kernel
theorem md_M_hinges_17 : decode mb_M_hinges 17 = .ok (.bipush 8, 2) := by decide +kernel
theorem md_M_hinges_19 : decode mb_M_hinges 19 = .ok (.iload_n 2, 1) := by decide +kernel
theorem md_M_hinges_20 : decode mb_M_hinges 20 = .ok (.imul, 1) := by decide +kernel
theorem md_M_hinges_21 : decode mb_M_hinges 21 = .ok (.iaload, 1) := by decide +kernel
theorem md_M_hinges_22 : decode mb_M_hinges 22 = .ok (.bipush 99, 2) := by decide +kernel
theorem md_M_hinges_24 : decode mb_M_hinges 24 = .ok (.if_icmp .ne 43, 3) := by decide +kernel
theorem md_M_hinges_27 : decode mb_M_hinges 27 = .ok (.aload_n 0, 1) := by decide +kernel
theorem md_M_hinges_28 : decode mb_M_hinges 28 = .ok (.iload_n 2, 1) := by decide +kernel
theorem md_M_hinges_29 : decode mb_M_hinges 29 = .ok (.iconst 0, 1) := by decide +kernel
theorem md_M_hinges_30 : decode mb_M_hinges 30 = .ok (.invokevirtual 106, 3) := by decide +kernel
theorem md_M_hinges_33 : decode mb_M_hinges 33 = .ok (.aload_n 0, 1) := by decide +kernel
theorem md_M_hinges_34 : decode mb_M_hinges 34 = .ok (.getfield 30, 3) := by decide +kernel
theorem md_M_hinges_37 : decode mb_M_hinges 37 = .ok (.lcmp, 1) := by decide +kernel
theorem md_M_hinges_38 : decode mb_M_hinges 38 = .ok (.ifCond .lt 29, 3) := by decide +kernel
theorem md_M_hinges_41 : decode mb_M_hinges 41 = .ok (.aload_n 0, 1) := by decide +kernel
theorem md_M_hinges_42 : decode mb_M_hinges 42 = .ok (.iload_n 2, 1) := by decide +kernel
theorem md_M_hinges_43 : decode mb_M_hinges 43 = .ok (.iconst 1, 1) := by decide +kernel
theorem md_M_hinges_44 : decode mb_M_hinges 44 = .ok (.invokevirtual 106, 3) := by decide +kernel
theorem md_M_hinges_47 : decode mb_M_hinges 47 = .ok (.ldc2_w 104, 3) := by decide +kernel
theorem md_M_hinges_50 : decode mb_M_hinges 50 = .ok (.lmul, 1) := by decide +kernel
theorem md_M_hinges_51 : decode mb_M_hinges 51 = .ok (.ldc2_w 127, 3) := by decide +kernel
theorem md_M_hinges_54 : decode mb_M_hinges 54 = .ok (.lmul, 1) := by decide +kernel
theorem md_M_hinges_55 : decode mb_M_hinges 55 = .ok (.aload_n 0, 1) := by decide +kernel
theorem md_M_hinges_56 : decode mb_M_hinges 56 = .ok (.invokevirtual 123, 3) := by decide +kernel
theorem md_M_hinges_59 : decode mb_M_hinges 59 = .ok (.lcmp, 1) := by decide +kernel
theorem md_M_hinges_60 : decode mb_M_hinges 60 = .ok (.ifCond .lt 7, 3) := by decide +kernel
theorem md_M_hinges_63 : decode mb_M_hinges 63 = .ok (.iconst 1, 1) := by decide +kernel
theorem md_M_hinges_64 : decode mb_M_hinges 64 = .ok (.goto 4, 3) := by decide +kernel
theorem md_M_hinges_67 : decode mb_M_hinges 67 = .ok (.iconst 0, 1) := by decide +kernel
theorem md_M_hinges_68 : decode mb_M_hinges 68 = .ok (.istore_n 3, 1) := by decide +kernel
theorem md_M_hinges_69 : decode mb_M_hinges 69 = .ok (.iload_n 3, 1) := by decide +kernel
theorem md_M_hinges_70 : decode mb_M_hinges 70 = .ok (.ifCond .eq 13, 3) := by decide +kernel
theorem md_M_hinges_73 : decode mb_M_hinges 73 = .ok (.aload_n 0, 1) := by decide +kernel
theorem md_M_hinges_74 : decode mb_M_hinges 74 = .ok (.iload_n 2, 1) := by decide +kernel
theorem md_M_hinges_75 : decode mb_M_hinges 75 = .ok (.iconst 2, 1) := by decide +kernel
theorem md_M_hinges_76 : decode mb_M_hinges 76 = .ok (.invokevirtual 106, 3) := by decide +kernel
theorem md_M_hinges_79 : decode mb_M_hinges 79 = .ok (.l2i, 1) := by decide +kernel
theorem md_M_hinges_80 : decode mb_M_hinges 80 = .ok (.goto 4, 3) := by decide +kernel
theorem md_M_hinges_83 : decode mb_M_hinges 83 = .ok (.iload_n 1, 1) := by decide +kernel
theorem md_M_hinges_84 : decode mb_M_hinges 84 = .ok (.istore_n 1, 1) := by decide +kernel
theorem md_M_hinges_85 : decode mb_M_hinges 85 = .ok (.iinc 2 (-1), 3) := by decide +kernel
theorem md_M_hinges_88 : decode mb_M_hinges 88 = .ok (.goto (-79), 3) := by decide +kernel
theorem md_M_hinges_91 : decode mb_M_hinges 91 = .ok (.iload_n 1, 1) := by decide +kernel
theorem md_M_hinges_92 : decode mb_M_hinges 92 = .ok (.ireturn, 1) := by decide +kernel
theorem md_M_hole_0 : decode mb_M_hole 0 = .ok (.lload_n 2, 1) := by decide +kernel
theorem md_M_hole_1 : decode mb_M_hole 1 = .ok (.ldc2_w 142, 3) := by decide +kernel
theorem md_M_hole_4 : decode mb_M_hole 4 = .ok (.ldc2_w 144, 3) := by decide +kernel
theorem md_M_hole_7 : decode mb_M_hole 7 = .ok (.invokestatic 91, 3) := by decide +kernel
theorem md_M_hole_10 : decode mb_M_hole 10 = .ok (.ifCond .eq 33, 3) := by decide +kernel
theorem md_M_hole_13 : decode mb_M_hole 13 = .ok (.lload 4, 2) := by decide +kernel
theorem md_M_hole_15 : decode mb_M_hole 15 = .ok (.ldc2_w 142, 3) := by decide +kernel
theorem md_M_hole_18 : decode mb_M_hole 18 = .ok (.ldc2_w 144, 3) := by decide +kernel
theorem md_M_hole_21 : decode mb_M_hole 21 = .ok (.invokestatic 91, 3) := by decide +kernel
theorem md_M_hole_24 : decode mb_M_hole 24 = .ok (.ifCond .eq 19, 3) := by decide +kernel
theorem md_M_hole_27 : decode mb_M_hole 27 = .ok (.lload 6, 2) := by decide +kernel
theorem md_M_hole_29 : decode mb_M_hole 29 = .ok (.lconst 0, 1) := by decide +kernel
theorem md_M_hole_30 : decode mb_M_hole 30 = .ok (.ldc2_w 104, 3) := by decide +kernel
theorem md_M_hole_33 : decode mb_M_hole 33 = .ok (.invokestatic 91, 3) := by decide +kernel
theorem md_M_hole_36 : decode mb_M_hole 36 = .ok (.ifCond .eq 7, 3) := by decide +kernel
theorem md_M_hole_39 : decode mb_M_hole 39 = .ok (.iconst 1, 1) := by decide +kernel
theorem md_M_hole_40 : decode mb_M_hole 40 = .ok (.goto 4, 3) := by decide +kernel
theorem md_M_hole_43 : decode mb_M_hole 43 = .ok (.iconst 0, 1) := by decide +kernel
theorem md_M_hole_44 : decode mb_M_hole 44 = .ok (.istore 8, 2) := by decide +kernel
theorem md_M_hole_46 : decode mb_M_hole 46 = .ok (.aload_n 0, 1) := by decide +kernel
theorem md_M_hole_47 : decode mb_M_hole 47 = .ok (.iload_n 1, 1) := by decide +kernel
theorem md_M_hole_48 : decode mb_M_hole 48 = .ok (.ifCond .lt 9, 3) := by decide +kernel
theorem md_M_hole_51 : decode mb_M_hole 51 = .ok (.iload_n 1, 1) := by decide +kernel
theorem md_M_hole_52 : decode mb_M_hole 52 = .ok (.bipush 16, 2) := by decide +kernel
theorem md_M_hole_54 : decode mb_M_hole 54 = .ok (.if_icmp .lt 7, 3) := by decide +kernel
theorem md_M_hole_57 : decode mb_M_hole 57 = .ok (.iconst 1, 1) := by decide +kernel
theorem md_M_hole_58 : decode mb_M_hole 58 = .ok (.goto 13, 3) := by decide +kernel
theorem md_M_hole_61 : decode mb_M_hole 61 = .ok (.iload 8, 2) := by decide +kernel
theorem md_M_hole_63 : decode mb_M_hole 63 = .ok (.ifCond .eq 7, 3) := by decide +kernel
theorem md_M_hole_66 : decode mb_M_hole 66 = .ok (.iconst 0, 1) := by decide +kernel
theorem md_M_hole_67 : decode mb_M_hole 67 = .ok (.goto 4, 3) := by decide +kernel
theorem md_M_hole_70 : decode mb_M_hole 70 = .ok (.iconst 2, 1) := by decide +kernel
theorem md_M_hole_71 : decode mb_M_hole 71 = .ok (.putfield 61, 3) := by decide +kernel
theorem md_M_hole_74 : decode mb_M_hole 74 = .ok (.aload_n 0, 1) := by decide +kernel
theorem md_M_hole_75 : decode mb_M_hole 75 = .ok (.getfield 61, 3) := by decide +kernel
theorem md_M_hole_78 : decode mb_M_hole 78 = .ok (.ifCond .gt 38, 3) := by decide +kernel
theorem md_M_hole_81 : decode mb_M_hole 81 = .ok (.aload_n 0, 1) := by decide +kernel
theorem md_M_hole_82 : decode mb_M_hole 82 = .ok (.getfield 41, 3) := by decide +kernel
theorem md_M_hole_85 : decode mb_M_hole 85 = .ok (.iload_n 1, 1) := by decide +kernel
theorem md_M_hole_86 : decode mb_M_hole 86 = .ok (.laload, 1) := by decide +kernel
theorem md_M_hole_87 : decode mb_M_hole 87 = .ok (.lload_n 2, 1) := by decide +kernel
theorem md_M_hole_88 : decode mb_M_hole 88 = .ok (.lcmp, 1) := by decide +kernel
theorem md_M_hole_89 : decode mb_M_hole 89 = .ok (.ifCond .ne 29, 3) := by decide +kernel
theorem md_M_hole_92 : decode mb_M_hole 92 = .ok (.aload_n 0, 1) := by decide +kernel
theorem md_M_hole_93 : decode mb_M_hole 93 = .ok (.getfield 45, 3) := by decide +kernel
theorem md_M_hole_96 : decode mb_M_hole 96 = .ok (.iload_n 1, 1) := by decide +kernel
theorem md_M_hole_97 : decode mb_M_hole 97 = .ok (.laload, 1) := by decide +kernel
theorem md_M_hole_98 : decode mb_M_hole 98 = .ok (.lload 4, 2) := by decide +kernel
theorem md_M_hole_100 : decode mb_M_hole 100 = .ok (.lcmp, 1) := by decide +kernel
theorem md_M_hole_101 : decode mb_M_hole 101 = .ok (.ifCond .ne 17, 3) := by decide +kernel
theorem md_M_hole_104 : decode mb_M_hole 104 = .ok (.aload_n 0, 1) := by decide +kernel
theorem md_M_hole_105 : decode mb_M_hole 105 = .ok (.getfield 48, 3) := by decide +kernel
theorem md_M_hole_108 : decode mb_M_hole 108 = .ok (.iload_n 1, 1) := by decide +kernel
theorem md_M_hole_109 : decode mb_M_hole 109 = .ok (.laload, 1) := by decide +kernel
theorem md_M_hole_110 : decode mb_M_hole 110 = .ok (.lload 6, 2) := by decide +kernel
theorem md_M_hole_112 : decode mb_M_hole 112 = .ok (.lcmp, 1) := by decide +kernel
theorem md_M_hole_113 : decode mb_M_hole 113 = .ok (.ifCond .ne 5, 3) := by decide +kernel
theorem md_M_hole_116 : decode mb_M_hole 116 = .ok (.iconst 0, 1) := by decide +kernel
theorem md_M_hole_117 : decode mb_M_hole 117 = .ok (.ireturn, 1) := by decide +kernel
theorem md_M_hole_118 : decode mb_M_hole 118 = .ok (.aload_n 0, 1) := by decide +kernel
theorem md_M_hole_119 : decode mb_M_hole 119 = .ok (.getfield 41, 3) := by decide +kernel
theorem md_M_hole_122 : decode mb_M_hole 122 = .ok (.iload_n 1, 1) := by decide +kernel
theorem md_M_hole_123 : decode mb_M_hole 123 = .ok (.lload_n 2, 1) := by decide +kernel
theorem md_M_hole_124 : decode mb_M_hole 124 = .ok (.lastore, 1) := by decide +kernel
theorem md_M_hole_125 : decode mb_M_hole 125 = .ok (.aload_n 0, 1) := by decide +kernel
theorem md_M_hole_126 : decode mb_M_hole 126 = .ok (.getfield 45, 3) := by decide +kernel
theorem md_M_hole_129 : decode mb_M_hole 129 = .ok (.iload_n 1, 1) := by decide +kernel
theorem md_M_hole_130 : decode mb_M_hole 130 = .ok (.lload 4, 2) := by decide +kernel
theorem md_M_hole_132 : decode mb_M_hole 132 = .ok (.lastore, 1) := by decide +kernel
theorem md_M_hole_133 : decode mb_M_hole 133 = .ok (.aload_n 0, 1) := by decide +kernel
theorem md_M_hole_134 : decode mb_M_hole 134 = .ok (.getfield 48, 3) := by decide +kernel
theorem md_M_hole_137 : decode mb_M_hole 137 = .ok (.iload_n 1, 1) := by decide +kernel
theorem md_M_hole_138 : decode mb_M_hole 138 = .ok (.lload 6, 2) := by decide +kernel
theorem md_M_hole_140 : decode mb_M_hole 140 = .ok (.lastore, 1) := by decide +kernel
theorem md_M_hole_141 : decode mb_M_hole 141 = .ok (.iconst 1, 1) := by decide +kernel
theorem md_M_hole_142 : decode mb_M_hole 142 = .ok (.ireturn, 1) := by decide +kernel
theorem md_M_corner_0 : decode mb_M_corner 0 = .ok (.aload_n 0, 1) := by decide +kernel
theorem md_M_corner_1 : decode mb_M_corner 1 = .ok (.iload_n 1, 1) := by decide +kernel
theorem md_M_corner_2 : decode mb_M_corner 2 = .ok (.ifCond .lt 27, 3) := by decide +kernel
theorem md_M_corner_5 : decode mb_M_corner 5 = .ok (.iload_n 1, 1) := by decide +kernel
theorem md_M_corner_6 : decode mb_M_corner 6 = .ok (.iconst 3, 1) := by decide +kernel
theorem md_M_corner_7 : decode mb_M_corner 7 = .ok (.if_icmp .gt 22, 3) := by decide +kernel
theorem md_M_corner_10 : decode mb_M_corner 10 = .ok (.iload_n 2, 1) := by decide +kernel
theorem md_M_corner_11 : decode mb_M_corner 11 = .ok (.ifCond .lt 18, 3) := by decide +kernel
theorem md_M_corner_14 : decode mb_M_corner 14 = .ok (.iload_n 2, 1) := by decide +kernel
theorem md_M_corner_15 : decode mb_M_corner 15 = .ok (.bipush 8, 2) := by decide +kernel
theorem md_M_corner_17 : decode mb_M_corner 17 = .ok (.if_icmp .gt 12, 3) := by decide +kernel
theorem md_M_corner_20 : decode mb_M_corner 20 = .ok (.iload_n 3, 1) := by decide +kernel
theorem md_M_corner_21 : decode mb_M_corner 21 = .ok (.ifCond .lt 8, 3) := by decide +kernel
theorem md_M_corner_24 : decode mb_M_corner 24 = .ok (.iload_n 3, 1) := by decide +kernel
theorem md_M_corner_25 : decode mb_M_corner 25 = .ok (.iconst 1, 1) := by decide +kernel
theorem md_M_corner_26 : decode mb_M_corner 26 = .ok (.if_icmp .le 7, 3) := by decide +kernel
theorem md_M_corner_29 : decode mb_M_corner 29 = .ok (.iconst 1, 1) := by decide +kernel
theorem md_M_corner_30 : decode mb_M_corner 30 = .ok (.goto 4, 3) := by decide +kernel
theorem md_M_corner_33 : decode mb_M_corner 33 = .ok (.iconst 0, 1) := by decide +kernel
theorem md_M_corner_34 : decode mb_M_corner 34 = .ok (.putfield 61, 3) := by decide +kernel
theorem md_M_corner_37 : decode mb_M_corner 37 = .ok (.aload_n 0, 1) := by decide +kernel
theorem md_M_corner_38 : decode mb_M_corner 38 = .ok (.getfield 61, 3) := by decide +kernel
theorem md_M_corner_41 : decode mb_M_corner 41 = .ok (.ifCond .le 7, 3) := by decide +kernel
theorem md_M_corner_44 : decode mb_M_corner 44 = .ok (.lconst 0, 1) := by decide +kernel
theorem md_M_corner_45 : decode mb_M_corner 45 = .ok (.goto 10, 3) := by decide +kernel
theorem md_M_corner_48 : decode mb_M_corner 48 = .ok (.aload_n 0, 1) := by decide +kernel
theorem md_M_corner_49 : decode mb_M_corner 49 = .ok (.iload_n 1, 1) := by decide +kernel
theorem md_M_corner_50 : decode mb_M_corner 50 = .ok (.iload_n 2, 1) := by decide +kernel
theorem md_M_corner_51 : decode mb_M_corner 51 = .ok (.iload_n 3, 1) := by decide +kernel
theorem md_M_corner_52 : decode mb_M_corner 52 = .ok (.invokevirtual 149, 3) := by decide +kernel
theorem md_M_corner_55 : decode mb_M_corner 55 = .ok (.lreturn, 1) := by decide +kernel
end
section
theorem md_M_turn_0 : decode mb_M_turn 0 = .ok (.aload_n 0, 1) := by decide +kernel
theorem md_M_turn_1 : decode mb_M_turn 1 = .ok (.getfield 51, 3) := by decide +kernel
theorem md_M_turn_4 : decode mb_M_turn 4 = .ok (.iload_n 1, 1) := by decide +kernel
theorem md_M_turn_5 : decode mb_M_turn 5 = .ok (.iload_n 2, 1) := by decide +kernel
theorem md_M_turn_6 : decode mb_M_turn 6 = .ok (.iastore, 1) := by decide +kernel
theorem md_M_turn_7 : decode mb_M_turn 7 = .ok (.aload_n 0, 1) := by decide +kernel
theorem md_M_turn_8 : decode mb_M_turn 8 = .ok (.getfield 54, 3) := by decide +kernel
theorem md_M_turn_11 : decode mb_M_turn 11 = .ok (.iload_n 1, 1) := by decide +kernel
theorem md_M_turn_12 : decode mb_M_turn 12 = .ok (.iload_n 3, 1) := by decide +kernel
theorem md_M_turn_13 : decode mb_M_turn 13 = .ok (.iastore, 1) := by decide +kernel
theorem md_M_turn_14 : decode mb_M_turn 14 = .ok (.return_, 1) := by decide +kernel
theorem md_M_unit_0 : decode mb_M_unit 0 = .ok (.aload_n 0, 1) := by decide +kernel
theorem md_M_unit_1 : decode mb_M_unit 1 = .ok (.iconst 0, 1) := by decide +kernel
theorem md_M_unit_2 : decode mb_M_unit 2 = .ok (.putfield 61, 3) := by decide +kernel
theorem md_M_unit_5 : decode mb_M_unit 5 = .ok (.aload_n 0, 1) := by decide +kernel
theorem md_M_unit_6 : decode mb_M_unit 6 = .ok (.getfield 65, 3) := by decide +kernel
theorem md_M_unit_9 : decode mb_M_unit 9 = .ok (.sipush 300, 3) := by decide +kernel
theorem md_M_unit_12 : decode mb_M_unit 12 = .ok (.if_icmp .ge 19, 3) := by decide +kernel
theorem md_M_unit_15 : decode mb_M_unit 15 = .ok (.iload_n 1, 1) := by decide +kernel
theorem md_M_unit_16 : decode mb_M_unit 16 = .ok (.bipush 33, 2) := by decide +kernel
theorem md_M_unit_18 : decode mb_M_unit 18 = .ok (.if_icmp .lt 13, 3) := by decide +kernel
theorem md_M_unit_21 : decode mb_M_unit 21 = .ok (.iload_n 1, 1) := by decide +kernel
theorem md_M_unit_22 : decode mb_M_unit 22 = .ok (.bipush 126, 2) := by decide +kernel
theorem md_M_unit_24 : decode mb_M_unit 24 = .ok (.if_icmp .gt 7, 3) := by decide +kernel
theorem md_M_unit_27 : decode mb_M_unit 27 = .ok (.iconst 1, 1) := by decide +kernel
theorem md_M_unit_28 : decode mb_M_unit 28 = .ok (.goto 4, 3) := by decide +kernel
theorem md_M_unit_31 : decode mb_M_unit 31 = .ok (.iconst 0, 1) := by decide +kernel
theorem md_M_unit_32 : decode mb_M_unit 32 = .ok (.istore_n 2, 1) := by decide +kernel
theorem md_M_unit_33 : decode mb_M_unit 33 = .ok (.iload_n 2, 1) := by decide +kernel
theorem md_M_unit_34 : decode mb_M_unit 34 = .ok (.ifCond .eq 23, 3) := by decide +kernel
theorem md_M_unit_37 : decode mb_M_unit 37 = .ok (.aload_n 0, 1) := by decide +kernel
theorem md_M_unit_38 : decode mb_M_unit 38 = .ok (.getfield 7, 3) := by decide +kernel
theorem md_M_unit_41 : decode mb_M_unit 41 = .ok (.aload_n 0, 1) := by decide +kernel
theorem md_M_unit_42 : decode mb_M_unit 42 = .ok (.getfield 65, 3) := by decide +kernel
theorem md_M_unit_45 : decode mb_M_unit 45 = .ok (.iload_n 1, 1) := by decide +kernel
theorem md_M_unit_46 : decode mb_M_unit 46 = .ok (.iastore, 1) := by decide +kernel
theorem md_M_unit_47 : decode mb_M_unit 47 = .ok (.aload_n 0, 1) := by decide +kernel
theorem md_M_unit_48 : decode mb_M_unit 48 = .ok (.dup, 1) := by decide +kernel
theorem md_M_unit_49 : decode mb_M_unit 49 = .ok (.getfield 65, 3) := by decide +kernel
theorem md_M_unit_52 : decode mb_M_unit 52 = .ok (.iconst 1, 1) := by decide +kernel
theorem md_M_unit_53 : decode mb_M_unit 53 = .ok (.iadd, 1) := by decide +kernel
theorem md_M_unit_54 : decode mb_M_unit 54 = .ok (.putfield 65, 3) := by decide +kernel
theorem md_M_unit_57 : decode mb_M_unit 57 = .ok (.iload_n 2, 1) := by decide +kernel
theorem md_M_unit_58 : decode mb_M_unit 58 = .ok (.ireturn, 1) := by decide +kernel
theorem md_M_read_0 : decode mb_M_read 0 = .ok (.aload_n 0, 1) := by decide +kernel
theorem md_M_read_1 : decode mb_M_read 1 = .ok (.iconst 0, 1) := by decide +kernel
theorem md_M_read_2 : decode mb_M_read 2 = .ok (.putfield 61, 3) := by decide +kernel
theorem md_M_read_5 : decode mb_M_read 5 = .ok (.aload_n 0, 1) := by decide +kernel
theorem md_M_read_6 : decode mb_M_read 6 = .ok (.iconst 0, 1) := by decide +kernel
theorem md_M_read_7 : decode mb_M_read 7 = .ok (.putfield 68, 3) := by decide +kernel
theorem md_M_read_10 : decode mb_M_read 10 = .ok (.aload_n 0, 1) := by decide +kernel
theorem md_M_read_11 : decode mb_M_read 11 = .ok (.iconst (-1), 1) := by decide +kernel
theorem md_M_read_12 : decode mb_M_read 12 = .ok (.putfield 71, 3) := by decide +kernel
theorem md_M_read_15 : decode mb_M_read 15 = .ok (.aload_n 0, 1) := by decide +kernel
theorem md_M_read_16 : decode mb_M_read 16 = .ok (.iconst 0, 1) := by decide +kernel
theorem md_M_read_17 : decode mb_M_read 17 = .ok (.invokevirtual 95, 3) := by decide +kernel
theorem md_M_read_20 : decode mb_M_read 20 = .ok (.iconst 1, 1) := by decide +kernel
theorem md_M_read_21 : decode mb_M_read 21 = .ok (.istore_n 1, 1) := by decide +kernel
theorem md_M_read_22 : decode mb_M_read 22 = .ok (.aload_n 0, 1) := by decide +kernel
theorem md_M_read_23 : decode mb_M_read 23 = .ok (.getfield 71, 3) := by decide +kernel
theorem md_M_read_26 : decode mb_M_read 26 = .ok (.ifCond .ge 65, 3) := by decide +kernel
theorem md_M_read_29 : decode mb_M_read 29 = .ok (.aload_n 0, 1) := by decide +kernel
theorem md_M_read_30 : decode mb_M_read 30 = .ok (.getfield 68, 3) := by decide +kernel
theorem md_M_read_33 : decode mb_M_read 33 = .ok (.aload_n 0, 1) := by decide +kernel
theorem md_M_read_34 : decode mb_M_read 34 = .ok (.getfield 65, 3) := by decide +kernel
theorem md_M_read_37 : decode mb_M_read 37 = .ok (.if_icmp .ge 54, 3) := by decide +kernel
theorem md_M_read_40 : decode mb_M_read 40 = .ok (.aload_n 0, 1) := by decide +kernel
theorem md_M_read_41 : decode mb_M_read 41 = .ok (.invokevirtual 74, 3) := by decide +kernel
theorem md_M_read_44 : decode mb_M_read 44 = .ok (.bipush 59, 2) := by decide +kernel
theorem md_M_read_46 : decode mb_M_read 46 = .ok (.if_icmp .ne 9, 3) := by decide +kernel
theorem md_M_read_49 : decode mb_M_read 49 = .ok (.iload_n 1, 1) := by decide +kernel
theorem md_M_read_50 : decode mb_M_read 50 = .ok (.bipush 16, 2) := by decide +kernel
theorem md_M_read_52 : decode mb_M_read 52 = .ok (.if_icmp .ne 11, 3) := by decide +kernel
theorem md_M_read_55 : decode mb_M_read 55 = .ok (.aload_n 0, 1) := by decide +kernel
theorem md_M_read_56 : decode mb_M_read 56 = .ok (.aload_n 0, 1) := by decide +kernel
theorem md_M_read_57 : decode mb_M_read 57 = .ok (.getfield 68, 3) := by decide +kernel
theorem md_M_read_60 : decode mb_M_read 60 = .ok (.invokevirtual 78, 3) := by decide +kernel
theorem md_M_read_63 : decode mb_M_read 63 = .ok (.aload_n 0, 1) := by decide +kernel
theorem md_M_read_64 : decode mb_M_read 64 = .ok (.dup, 1) := by decide +kernel
theorem md_M_read_65 : decode mb_M_read 65 = .ok (.getfield 68, 3) := by decide +kernel
theorem md_M_read_68 : decode mb_M_read 68 = .ok (.iconst 1, 1) := by decide +kernel
theorem md_M_read_69 : decode mb_M_read 69 = .ok (.iadd, 1) := by decide +kernel
theorem md_M_read_70 : decode mb_M_read 70 = .ok (.putfield 68, 3) := by decide +kernel
theorem md_M_read_73 : decode mb_M_read 73 = .ok (.aload_n 0, 1) := by decide +kernel
theorem md_M_read_74 : decode mb_M_read 74 = .ok (.getfield 71, 3) := by decide +kernel
theorem md_M_read_77 : decode mb_M_read 77 = .ok (.ifCond .ge (-55), 3) := by decide +kernel
theorem md_M_read_80 : decode mb_M_read 80 = .ok (.aload_n 0, 1) := by decide +kernel
theorem md_M_read_81 : decode mb_M_read 81 = .ok (.iload_n 1, 1) := by decide +kernel
theorem md_M_read_82 : decode mb_M_read 82 = .ok (.invokevirtual 95, 3) := by decide +kernel
theorem md_M_read_85 : decode mb_M_read 85 = .ok (.iinc 1 1, 3) := by decide +kernel
theorem md_M_read_88 : decode mb_M_read 88 = .ok (.goto (-66), 3) := by decide +kernel
theorem md_M_read_91 : decode mb_M_read 91 = .ok (.aload_n 0, 1) := by decide +kernel
theorem md_M_read_92 : decode mb_M_read 92 = .ok (.iconst 0, 1) := by decide +kernel
theorem md_M_read_93 : decode mb_M_read 93 = .ok (.putfield 65, 3) := by decide +kernel
theorem md_M_read_96 : decode mb_M_read 96 = .ok (.aload_n 0, 1) := by decide +kernel
theorem md_M_read_97 : decode mb_M_read 97 = .ok (.getfield 71, 3) := by decide +kernel
theorem md_M_read_100 : decode mb_M_read 100 = .ok (.ifCond .lt 10, 3) := by decide +kernel
theorem md_M_read_103 : decode mb_M_read 103 = .ok (.iconst (-1), 1) := by decide +kernel
theorem md_M_read_104 : decode mb_M_read 104 = .ok (.aload_n 0, 1) := by decide +kernel
theorem md_M_read_105 : decode mb_M_read 105 = .ok (.getfield 71, 3) := by decide +kernel
theorem md_M_read_108 : decode mb_M_read 108 = .ok (.isub, 1) := by decide +kernel
theorem md_M_read_109 : decode mb_M_read 109 = .ok (.ireturn, 1) := by decide +kernel
theorem md_M_read_110 : decode mb_M_read 110 = .ok (.aload_n 0, 1) := by decide +kernel
theorem md_M_read_111 : decode mb_M_read 111 = .ok (.iload_n 1, 1) := by decide +kernel
theorem md_M_read_112 : decode mb_M_read 112 = .ok (.putfield 98, 3) := by decide +kernel
theorem md_M_read_115 : decode mb_M_read 115 = .ok (.iconst 0, 1) := by decide +kernel
theorem md_M_read_116 : decode mb_M_read 116 = .ok (.istore_n 2, 1) := by decide +kernel
theorem md_M_read_117 : decode mb_M_read 117 = .ok (.iload_n 2, 1) := by decide +kernel
theorem md_M_read_118 : decode mb_M_read 118 = .ok (.bipush 8, 2) := by decide +kernel
theorem md_M_read_120 : decode mb_M_read 120 = .ok (.iload_n 1, 1) := by decide +kernel
theorem md_M_read_121 : decode mb_M_read 121 = .ok (.imul, 1) := by decide +kernel
theorem md_M_read_122 : decode mb_M_read 122 = .ok (.if_icmp .ge 21, 3) := by decide +kernel
theorem md_M_read_125 : decode mb_M_read 125 = .ok (.aload_n 0, 1) := by decide +kernel
theorem md_M_read_126 : decode mb_M_read 126 = .ok (.getfield 13, 3) := by decide +kernel
theorem md_M_read_129 : decode mb_M_read 129 = .ok (.iload_n 2, 1) := by decide +kernel
theorem md_M_read_130 : decode mb_M_read 130 = .ok (.aload_n 0, 1) := by decide +kernel
theorem md_M_read_131 : decode mb_M_read 131 = .ok (.getfield 16, 3) := by decide +kernel
theorem md_M_read_134 : decode mb_M_read 134 = .ok (.iload_n 2, 1) := by decide +kernel
theorem md_M_read_135 : decode mb_M_read 135 = .ok (.iaload, 1) := by decide +kernel
theorem md_M_read_136 : decode mb_M_read 136 = .ok (.iastore, 1) := by decide +kernel
theorem md_M_read_137 : decode mb_M_read 137 = .ok (.iinc 2 1, 3) := by decide +kernel
theorem md_M_read_140 : decode mb_M_read 140 = .ok (.goto (-23), 3) := by decide +kernel
theorem md_M_read_143 : decode mb_M_read 143 = .ok (.iconst 0, 1) := by decide +kernel
theorem md_M_read_144 : decode mb_M_read 144 = .ok (.istore_n 2, 1) := by decide +kernel
theorem md_M_read_145 : decode mb_M_read 145 = .ok (.iload_n 2, 1) := by decide +kernel
theorem md_M_read_146 : decode mb_M_read 146 = .ok (.iload_n 1, 1) := by decide +kernel
theorem md_M_read_147 : decode mb_M_read 147 = .ok (.if_icmp .ge 17, 3) := by decide +kernel
theorem md_M_read_150 : decode mb_M_read 150 = .ok (.aload_n 0, 1) := by decide +kernel
theorem md_M_read_151 : decode mb_M_read 151 = .ok (.getfield 19, 3) := by decide +kernel
theorem md_M_read_154 : decode mb_M_read 154 = .ok (.iload_n 2, 1) := by decide +kernel
theorem md_M_read_155 : decode mb_M_read 155 = .ok (.bipush 9, 2) := by decide +kernel
theorem md_M_read_157 : decode mb_M_read 157 = .ok (.iastore, 1) := by decide +kernel
theorem md_M_read_158 : decode mb_M_read 158 = .ok (.iinc 2 1, 3) := by decide +kernel
theorem md_M_read_161 : decode mb_M_read 161 = .ok (.goto (-16), 3) := by decide +kernel
theorem md_M_read_164 : decode mb_M_read 164 = .ok (.iload_n 1, 1) := by decide +kernel
theorem md_M_read_165 : decode mb_M_read 165 = .ok (.ireturn, 1) := by decide +kernel
theorem md_M_readRow_0 : decode mb_M_readRow 0 = .ok (.aload_n 0, 1) := by decide +kernel
theorem md_M_readRow_1 : decode mb_M_readRow 1 = .ok (.invokevirtual 74, 3) := by decide +kernel
theorem md_M_readRow_4 : decode mb_M_readRow 4 = .ok (.istore_n 2, 1) := by decide +kernel
theorem md_M_readRow_5 : decode mb_M_readRow 5 = .ok (.iload_n 2, 1) := by decide +kernel
theorem md_M_readRow_6 : decode mb_M_readRow 6 = .ok (.invokestatic 82, 3) := by decide +kernel
theorem md_M_readRow_9 : decode mb_M_readRow 9 = .ok (.istore_n 3, 1) := by decide +kernel
theorem md_M_readRow_10 : decode mb_M_readRow 10 = .ok (.iload_n 3, 1) := by decide +kernel
theorem md_M_readRow_11 : decode mb_M_readRow 11 = .ok (.ifCond .ne 11, 3) := by decide +kernel
theorem md_M_readRow_14 : decode mb_M_readRow 14 = .ok (.aload_n 0, 1) := by decide +kernel
theorem md_M_readRow_15 : decode mb_M_readRow 15 = .ok (.aload_n 0, 1) := by decide +kernel
theorem md_M_readRow_16 : decode mb_M_readRow 16 = .ok (.getfield 68, 3) := by decide +kernel
theorem md_M_readRow_19 : decode mb_M_readRow 19 = .ok (.invokevirtual 78, 3) := by decide +kernel
theorem md_M_readRow_22 : decode mb_M_readRow 22 = .ok (.aload_n 0, 1) := by decide +kernel
theorem md_M_readRow_23 : decode mb_M_readRow 23 = .ok (.getfield 16, 3) := by decide +kernel
theorem md_M_readRow_26 : decode mb_M_readRow 26 = .ok (.bipush 8, 2) := by decide +kernel
theorem md_M_readRow_28 : decode mb_M_readRow 28 = .ok (.iload_n 1, 1) := by decide +kernel
theorem md_M_readRow_29 : decode mb_M_readRow 29 = .ok (.imul, 1) := by decide +kernel
theorem md_M_readRow_30 : decode mb_M_readRow 30 = .ok (.iload_n 2, 1) := by decide +kernel
theorem md_M_readRow_31 : decode mb_M_readRow 31 = .ok (.iastore, 1) := by decide +kernel
theorem md_M_readRow_32 : decode mb_M_readRow 32 = .ok (.aload_n 0, 1) := by decide +kernel
theorem md_M_readRow_33 : decode mb_M_readRow 33 = .ok (.getfield 16, 3) := by decide +kernel
theorem md_M_readRow_36 : decode mb_M_readRow 36 = .ok (.bipush 8, 2) := by decide +kernel
theorem md_M_readRow_38 : decode mb_M_readRow 38 = .ok (.iload_n 1, 1) := by decide +kernel
theorem md_M_readRow_39 : decode mb_M_readRow 39 = .ok (.imul, 1) := by decide +kernel
theorem md_M_readRow_40 : decode mb_M_readRow 40 = .ok (.iconst 1, 1) := by decide +kernel
theorem md_M_readRow_41 : decode mb_M_readRow 41 = .ok (.iadd, 1) := by decide +kernel
theorem md_M_readRow_42 : decode mb_M_readRow 42 = .ok (.iload_n 3, 1) := by decide +kernel
theorem md_M_readRow_43 : decode mb_M_readRow 43 = .ok (.iastore, 1) := by decide +kernel
theorem md_M_readRow_44 : decode mb_M_readRow 44 = .ok (.aload_n 0, 1) := by decide +kernel
theorem md_M_readRow_45 : decode mb_M_readRow 45 = .ok (.dup, 1) := by decide +kernel
theorem md_M_readRow_46 : decode mb_M_readRow 46 = .ok (.getfield 68, 3) := by decide +kernel
theorem md_M_readRow_49 : decode mb_M_readRow 49 = .ok (.iconst 1, 1) := by decide +kernel
theorem md_M_readRow_50 : decode mb_M_readRow 50 = .ok (.iadd, 1) := by decide +kernel
theorem md_M_readRow_51 : decode mb_M_readRow 51 = .ok (.putfield 68, 3) := by decide +kernel
theorem md_M_readRow_54 : decode mb_M_readRow 54 = .ok (.iconst 0, 1) := by decide +kernel
theorem md_M_readRow_55 : decode mb_M_readRow 55 = .ok (.istore 4, 2) := by decide +kernel
theorem md_M_readRow_57 : decode mb_M_readRow 57 = .ok (.iload 4, 2) := by decide +kernel
theorem md_M_readRow_59 : decode mb_M_readRow 59 = .ok (.iload_n 3, 1) := by decide +kernel
theorem md_M_readRow_60 : decode mb_M_readRow 60 = .ok (.if_icmp .ge 167, 3) := by decide +kernel
theorem md_M_readRow_63 : decode mb_M_readRow 63 = .ok (.aload_n 0, 1) := by decide +kernel
theorem md_M_readRow_64 : decode mb_M_readRow 64 = .ok (.getfield 71, 3) := by decide +kernel
theorem md_M_readRow_67 : decode mb_M_readRow 67 = .ok (.ifCond .ge 160, 3) := by decide +kernel
theorem md_M_readRow_70 : decode mb_M_readRow 70 = .ok (.iload 4, 2) := by decide +kernel
theorem md_M_readRow_72 : decode mb_M_readRow 72 = .ok (.ifCond .le 30, 3) := by decide +kernel
theorem md_M_readRow_75 : decode mb_M_readRow 75 = .ok (.aload_n 0, 1) := by decide +kernel
theorem md_M_readRow_76 : decode mb_M_readRow 76 = .ok (.invokevirtual 74, 3) := by decide +kernel
theorem md_M_readRow_79 : decode mb_M_readRow 79 = .ok (.bipush 44, 2) := by decide +kernel
theorem md_M_readRow_81 : decode mb_M_readRow 81 = .ok (.if_icmp .eq 11, 3) := by decide +kernel
theorem md_M_readRow_84 : decode mb_M_readRow 84 = .ok (.aload_n 0, 1) := by decide +kernel
theorem md_M_readRow_85 : decode mb_M_readRow 85 = .ok (.aload_n 0, 1) := by decide +kernel
theorem md_M_readRow_86 : decode mb_M_readRow 86 = .ok (.getfield 68, 3) := by decide +kernel
theorem md_M_readRow_89 : decode mb_M_readRow 89 = .ok (.invokevirtual 78, 3) := by decide +kernel
theorem md_M_readRow_92 : decode mb_M_readRow 92 = .ok (.aload_n 0, 1) := by decide +kernel
theorem md_M_readRow_93 : decode mb_M_readRow 93 = .ok (.dup, 1) := by decide +kernel
theorem md_M_readRow_94 : decode mb_M_readRow 94 = .ok (.getfield 68, 3) := by decide +kernel
theorem md_M_readRow_97 : decode mb_M_readRow 97 = .ok (.iconst 1, 1) := by decide +kernel
theorem md_M_readRow_98 : decode mb_M_readRow 98 = .ok (.iadd, 1) := by decide +kernel
theorem md_M_readRow_99 : decode mb_M_readRow 99 = .ok (.putfield 68, 3) := by decide +kernel
theorem md_M_readRow_102 : decode mb_M_readRow 102 = .ok (.aload_n 0, 1) := by decide +kernel
theorem md_M_readRow_103 : decode mb_M_readRow 103 = .ok (.getfield 68, 3) := by decide +kernel
theorem md_M_readRow_106 : decode mb_M_readRow 106 = .ok (.istore 5, 2) := by decide +kernel
theorem md_M_readRow_108 : decode mb_M_readRow 108 = .ok (.aload_n 0, 1) := by decide +kernel
theorem md_M_readRow_109 : decode mb_M_readRow 109 = .ok (.getfield 71, 3) := by decide +kernel
theorem md_M_readRow_112 : decode mb_M_readRow 112 = .ok (.ifCond .ge 10, 3) := by decide +kernel
theorem md_M_readRow_115 : decode mb_M_readRow 115 = .ok (.aload_n 0, 1) := by decide +kernel
theorem md_M_readRow_116 : decode mb_M_readRow 116 = .ok (.invokevirtual 86, 3) := by decide +kernel
theorem md_M_readRow_119 : decode mb_M_readRow 119 = .ok (.goto 4, 3) := by decide +kernel
theorem md_M_readRow_122 : decode mb_M_readRow 122 = .ok (.iconst 0, 1) := by decide +kernel
theorem md_M_readRow_123 : decode mb_M_readRow 123 = .ok (.istore 6, 2) := by decide +kernel
theorem md_M_readRow_125 : decode mb_M_readRow 125 = .ok (.iload_n 2, 1) := by decide +kernel
theorem md_M_readRow_126 : decode mb_M_readRow 126 = .ok (.bipush 104, 2) := by decide +kernel
theorem md_M_readRow_128 : decode mb_M_readRow 128 = .ok (.if_icmp .ne 38, 3) := by decide +kernel
theorem md_M_readRow_131 : decode mb_M_readRow 131 = .ok (.iload 4, 2) := by decide +kernel
theorem md_M_readRow_133 : decode mb_M_readRow 133 = .ok (.iconst 1, 1) := by decide +kernel
theorem md_M_readRow_134 : decode mb_M_readRow 134 = .ok (.if_icmp .eq 9, 3) := by decide +kernel
theorem md_M_readRow_137 : decode mb_M_readRow 137 = .ok (.iload 4, 2) := by decide +kernel
theorem md_M_readRow_139 : decode mb_M_readRow 139 = .ok (.iconst 3, 1) := by decide +kernel
theorem md_M_readRow_140 : decode mb_M_readRow 140 = .ok (.if_icmp .ne 26, 3) := by decide +kernel
theorem md_M_readRow_143 : decode mb_M_readRow 143 = .ok (.iload 6, 2) := by decide +kernel
theorem md_M_readRow_145 : decode mb_M_readRow 145 = .ok (.aload_n 0, 1) := by decide +kernel
theorem md_M_readRow_146 : decode mb_M_readRow 146 = .ok (.getfield 16, 3) := by decide +kernel
theorem md_M_readRow_149 : decode mb_M_readRow 149 = .ok (.bipush 8, 2) := by decide +kernel
theorem md_M_readRow_151 : decode mb_M_readRow 151 = .ok (.iload_n 1, 1) := by decide +kernel
theorem md_M_readRow_152 : decode mb_M_readRow 152 = .ok (.imul, 1) := by decide +kernel
theorem md_M_readRow_153 : decode mb_M_readRow 153 = .ok (.iconst 1, 1) := by decide +kernel
theorem md_M_readRow_154 : decode mb_M_readRow 154 = .ok (.iadd, 1) := by decide +kernel
theorem md_M_readRow_155 : decode mb_M_readRow 155 = .ok (.iload 4, 2) := by decide +kernel
theorem md_M_readRow_157 : decode mb_M_readRow 157 = .ok (.iadd, 1) := by decide +kernel
theorem md_M_readRow_158 : decode mb_M_readRow 158 = .ok (.iaload, 1) := by decide +kernel
theorem md_M_readRow_159 : decode mb_M_readRow 159 = .ok (.if_icmp .ge 7, 3) := by decide +kernel
theorem md_M_readRow_162 : decode mb_M_readRow 162 = .ok (.iconst 1, 1) := by decide +kernel
theorem md_M_readRow_163 : decode mb_M_readRow 163 = .ok (.goto 4, 3) := by decide +kernel
theorem md_M_readRow_166 : decode mb_M_readRow 166 = .ok (.iconst 0, 1) := by decide +kernel
theorem md_M_readRow_167 : decode mb_M_readRow 167 = .ok (.istore 7, 2) := by decide +kernel
theorem md_M_readRow_169 : decode mb_M_readRow 169 = .ok (.iload 7, 2) := by decide +kernel
theorem md_M_readRow_171 : decode mb_M_readRow 171 = .ok (.ifCond .ne 28, 3) := by decide +kernel
theorem md_M_readRow_174 : decode mb_M_readRow 174 = .ok (.iload_n 2, 1) := by decide +kernel
theorem md_M_readRow_175 : decode mb_M_readRow 175 = .ok (.bipush 99, 2) := by decide +kernel
theorem md_M_readRow_177 : decode mb_M_readRow 177 = .ok (.if_icmp .ne 28, 3) := by decide +kernel
theorem md_M_readRow_180 : decode mb_M_readRow 180 = .ok (.iload 4, 2) := by decide +kernel
theorem md_M_readRow_182 : decode mb_M_readRow 182 = .ok (.iconst 2, 1) := by decide +kernel
theorem md_M_readRow_183 : decode mb_M_readRow 183 = .ok (.if_icmp .ne 22, 3) := by decide +kernel
theorem md_M_readRow_186 : decode mb_M_readRow 186 = .ok (.iload 6, 2) := by decide +kernel
theorem md_M_readRow_188 : decode mb_M_readRow 188 = .ok (.i2l, 1) := by decide +kernel
theorem md_M_readRow_189 : decode mb_M_readRow 189 = .ok (.lconst 1, 1) := by decide +kernel
theorem md_M_readRow_190 : decode mb_M_readRow 190 = .ok (.ldc2_w 89, 3) := by decide +kernel
theorem md_M_readRow_193 : decode mb_M_readRow 193 = .ok (.invokestatic 91, 3) := by decide +kernel
theorem md_M_readRow_196 : decode mb_M_readRow 196 = .ok (.ifCond .ne 9, 3) := by decide +kernel
theorem md_M_readRow_199 : decode mb_M_readRow 199 = .ok (.aload_n 0, 1) := by decide +kernel
theorem md_M_readRow_200 : decode mb_M_readRow 200 = .ok (.iload 5, 2) := by decide +kernel
theorem md_M_readRow_202 : decode mb_M_readRow 202 = .ok (.invokevirtual 78, 3) := by decide +kernel
theorem md_M_readRow_205 : decode mb_M_readRow 205 = .ok (.aload_n 0, 1) := by decide +kernel
theorem md_M_readRow_206 : decode mb_M_readRow 206 = .ok (.getfield 16, 3) := by decide +kernel
theorem md_M_readRow_209 : decode mb_M_readRow 209 = .ok (.bipush 8, 2) := by decide +kernel
theorem md_M_readRow_211 : decode mb_M_readRow 211 = .ok (.iload_n 1, 1) := by decide +kernel
theorem md_M_readRow_212 : decode mb_M_readRow 212 = .ok (.imul, 1) := by decide +kernel
theorem md_M_readRow_213 : decode mb_M_readRow 213 = .ok (.iconst 2, 1) := by decide +kernel
theorem md_M_readRow_214 : decode mb_M_readRow 214 = .ok (.iadd, 1) := by decide +kernel
theorem md_M_readRow_215 : decode mb_M_readRow 215 = .ok (.iload 4, 2) := by decide +kernel
theorem md_M_readRow_217 : decode mb_M_readRow 217 = .ok (.iadd, 1) := by decide +kernel
theorem md_M_readRow_218 : decode mb_M_readRow 218 = .ok (.iload 6, 2) := by decide +kernel
theorem md_M_readRow_220 : decode mb_M_readRow 220 = .ok (.iastore, 1) := by decide +kernel
theorem md_M_readRow_221 : decode mb_M_readRow 221 = .ok (.iinc 4 1, 3) := by decide +kernel
theorem md_M_readRow_224 : decode mb_M_readRow 224 = .ok (.goto (-167), 3) := by decide +kernel
theorem md_M_readRow_227 : decode mb_M_readRow 227 = .ok (.return_, 1) := by decide +kernel
theorem md_M_sizeOf_0 : decode mb_M_sizeOf 0 = .ok (.iload_n 0, 1) := by decide +kernel
theorem md_M_sizeOf_1 : decode mb_M_sizeOf 1 = .ok (.bipush 104, 2) := by decide +kernel
theorem md_M_sizeOf_3 : decode mb_M_sizeOf 3 = .ok (.if_icmp .ne 8, 3) := by decide +kernel
theorem md_M_sizeOf_6 : decode mb_M_sizeOf 6 = .ok (.bipush 6, 2) := by decide +kernel
theorem md_M_sizeOf_8 : decode mb_M_sizeOf 8 = .ok (.goto 24, 3) := by decide +kernel
theorem md_M_sizeOf_11 : decode mb_M_sizeOf 11 = .ok (.iload_n 0, 1) := by decide +kernel
theorem md_M_sizeOf_12 : decode mb_M_sizeOf 12 = .ok (.bipush 115, 2) := by decide +kernel
theorem md_M_sizeOf_14 : decode mb_M_sizeOf 14 = .ok (.if_icmp .ne 7, 3) := by decide +kernel
theorem md_M_sizeOf_17 : decode mb_M_sizeOf 17 = .ok (.iconst 2, 1) := by decide +kernel
theorem md_M_sizeOf_18 : decode mb_M_sizeOf 18 = .ok (.goto 14, 3) := by decide +kernel
theorem md_M_sizeOf_21 : decode mb_M_sizeOf 21 = .ok (.iload_n 0, 1) := by decide +kernel
theorem md_M_sizeOf_22 : decode mb_M_sizeOf 22 = .ok (.bipush 99, 2) := by decide +kernel
theorem md_M_sizeOf_24 : decode mb_M_sizeOf 24 = .ok (.if_icmp .ne 7, 3) := by decide +kernel
theorem md_M_sizeOf_27 : decode mb_M_sizeOf 27 = .ok (.iconst 3, 1) := by decide +kernel
theorem md_M_sizeOf_28 : decode mb_M_sizeOf 28 = .ok (.goto 4, 3) := by decide +kernel
theorem md_M_sizeOf_31 : decode mb_M_sizeOf 31 = .ok (.iconst 0, 1) := by decide +kernel
theorem md_M_sizeOf_32 : decode mb_M_sizeOf 32 = .ok (.ireturn, 1) := by decide +kernel
theorem md_M_readNumber_0 : decode mb_M_readNumber 0 = .ok (.iconst 0, 1) := by decide +kernel
theorem md_M_readNumber_1 : decode mb_M_readNumber 1 = .ok (.istore_n 1, 1) := by decide +kernel
theorem md_M_readNumber_2 : decode mb_M_readNumber 2 = .ok (.iconst 0, 1) := by decide +kernel
theorem md_M_readNumber_3 : decode mb_M_readNumber 3 = .ok (.istore_n 2, 1) := by decide +kernel
theorem md_M_readNumber_4 : decode mb_M_readNumber 4 = .ok (.iload_n 2, 1) := by decide +kernel
theorem md_M_readNumber_5 : decode mb_M_readNumber 5 = .ok (.iconst 5, 1) := by decide +kernel
theorem md_M_readNumber_6 : decode mb_M_readNumber 6 = .ok (.if_icmp .ge 50, 3) := by decide +kernel
theorem md_M_readNumber_9 : decode mb_M_readNumber 9 = .ok (.aload_n 0, 1) := by decide +kernel
theorem md_M_readNumber_10 : decode mb_M_readNumber 10 = .ok (.invokevirtual 74, 3) := by decide +kernel
theorem md_M_readNumber_13 : decode mb_M_readNumber 13 = .ok (.bipush 48, 2) := by decide +kernel
theorem md_M_readNumber_15 : decode mb_M_readNumber 15 = .ok (.if_icmp .lt 41, 3) := by decide +kernel
theorem md_M_readNumber_18 : decode mb_M_readNumber 18 = .ok (.aload_n 0, 1) := by decide +kernel
theorem md_M_readNumber_19 : decode mb_M_readNumber 19 = .ok (.invokevirtual 74, 3) := by decide +kernel
theorem md_M_readNumber_22 : decode mb_M_readNumber 22 = .ok (.bipush 57, 2) := by decide +kernel
theorem md_M_readNumber_24 : decode mb_M_readNumber 24 = .ok (.if_icmp .gt 32, 3) := by decide +kernel
theorem md_M_readNumber_27 : decode mb_M_readNumber 27 = .ok (.bipush 10, 2) := by decide +kernel
theorem md_M_readNumber_29 : decode mb_M_readNumber 29 = .ok (.iload_n 1, 1) := by decide +kernel
theorem md_M_readNumber_30 : decode mb_M_readNumber 30 = .ok (.imul, 1) := by decide +kernel
theorem md_M_readNumber_31 : decode mb_M_readNumber 31 = .ok (.aload_n 0, 1) := by decide +kernel
theorem md_M_readNumber_32 : decode mb_M_readNumber 32 = .ok (.invokevirtual 74, 3) := by decide +kernel
theorem md_M_readNumber_35 : decode mb_M_readNumber 35 = .ok (.iadd, 1) := by decide +kernel
theorem md_M_readNumber_36 : decode mb_M_readNumber 36 = .ok (.bipush 48, 2) := by decide +kernel
theorem md_M_readNumber_38 : decode mb_M_readNumber 38 = .ok (.isub, 1) := by decide +kernel
theorem md_M_readNumber_39 : decode mb_M_readNumber 39 = .ok (.istore_n 1, 1) := by decide +kernel
theorem md_M_readNumber_40 : decode mb_M_readNumber 40 = .ok (.iinc 2 1, 3) := by decide +kernel
theorem md_M_readNumber_43 : decode mb_M_readNumber 43 = .ok (.aload_n 0, 1) := by decide +kernel
theorem md_M_readNumber_44 : decode mb_M_readNumber 44 = .ok (.dup, 1) := by decide +kernel
theorem md_M_readNumber_45 : decode mb_M_readNumber 45 = .ok (.getfield 68, 3) := by decide +kernel
theorem md_M_readNumber_48 : decode mb_M_readNumber 48 = .ok (.iconst 1, 1) := by decide +kernel
theorem md_M_readNumber_49 : decode mb_M_readNumber 49 = .ok (.iadd, 1) := by decide +kernel
theorem md_M_readNumber_50 : decode mb_M_readNumber 50 = .ok (.putfield 68, 3) := by decide +kernel
theorem md_M_readNumber_53 : decode mb_M_readNumber 53 = .ok (.goto (-49), 3) := by decide +kernel
theorem md_M_readNumber_56 : decode mb_M_readNumber 56 = .ok (.iload_n 2, 1) := by decide +kernel
theorem md_M_readNumber_57 : decode mb_M_readNumber 57 = .ok (.ifCond .ne 11, 3) := by decide +kernel
theorem md_M_readNumber_60 : decode mb_M_readNumber 60 = .ok (.aload_n 0, 1) := by decide +kernel
theorem md_M_readNumber_61 : decode mb_M_readNumber 61 = .ok (.aload_n 0, 1) := by decide +kernel
theorem md_M_readNumber_62 : decode mb_M_readNumber 62 = .ok (.getfield 68, 3) := by decide +kernel
theorem md_M_readNumber_65 : decode mb_M_readNumber 65 = .ok (.invokevirtual 78, 3) := by decide +kernel
theorem md_M_readNumber_68 : decode mb_M_readNumber 68 = .ok (.iload_n 1, 1) := by decide +kernel
theorem md_M_readNumber_69 : decode mb_M_readNumber 69 = .ok (.ireturn, 1) := by decide +kernel
theorem md_M_row_0 : decode mb_M_row 0 = .ok (.aload_n 0, 1) := by decide +kernel
theorem md_M_row_1 : decode mb_M_row 1 = .ok (.aload_n 0, 1) := by decide +kernel
theorem md_M_row_2 : decode mb_M_row 2 = .ok (.iload_n 1, 1) := by decide +kernel
theorem md_M_row_3 : decode mb_M_row 3 = .ok (.invokevirtual 101, 3) := by decide +kernel
theorem md_M_row_6 : decode mb_M_row 6 = .ok (.putfield 61, 3) := by decide +kernel
theorem md_M_row_9 : decode mb_M_row 9 = .ok (.aload_n 0, 1) := by decide +kernel
theorem md_M_row_10 : decode mb_M_row 10 = .ok (.getfield 61, 3) := by decide +kernel
theorem md_M_row_13 : decode mb_M_row 13 = .ok (.ifCond .le 5, 3) := by decide +kernel
theorem md_M_row_16 : decode mb_M_row 16 = .ok (.iconst 0, 1) := by decide +kernel
theorem md_M_row_17 : decode mb_M_row 17 = .ok (.ireturn, 1) := by decide +kernel
theorem md_M_row_18 : decode mb_M_row 18 = .ok (.aload_n 0, 1) := by decide +kernel
theorem md_M_row_19 : decode mb_M_row 19 = .ok (.iload_n 2, 1) := by decide +kernel
theorem md_M_row_20 : decode mb_M_row 20 = .ok (.iconst (-1), 1) := by decide +kernel
theorem md_M_row_21 : decode mb_M_row 21 = .ok (.if_icmp .lt 18, 3) := by decide +kernel
theorem md_M_row_24 : decode mb_M_row 24 = .ok (.iload_n 2, 1) := by decide +kernel
theorem md_M_row_25 : decode mb_M_row 25 = .ok (.aload_n 0, 1) := by decide +kernel
theorem md_M_row_26 : decode mb_M_row 26 = .ok (.getfield 13, 3) := by decide +kernel
theorem md_M_row_29 : decode mb_M_row 29 = .ok (.bipush 8, 2) := by decide +kernel
theorem md_M_row_31 : decode mb_M_row 31 = .ok (.iload_n 1, 1) := by decide +kernel
theorem md_M_row_32 : decode mb_M_row 32 = .ok (.imul, 1) := by decide +kernel
theorem md_M_row_33 : decode mb_M_row 33 = .ok (.iconst 1, 1) := by decide +kernel
theorem md_M_row_34 : decode mb_M_row 34 = .ok (.iadd, 1) := by decide +kernel
theorem md_M_row_35 : decode mb_M_row 35 = .ok (.iaload, 1) := by decide +kernel
theorem md_M_row_36 : decode mb_M_row 36 = .ok (.if_icmp .lt 7, 3) := by decide +kernel
theorem md_M_row_39 : decode mb_M_row 39 = .ok (.iconst 2, 1) := by decide +kernel
theorem md_M_row_40 : decode mb_M_row 40 = .ok (.goto 4, 3) := by decide +kernel
theorem md_M_row_43 : decode mb_M_row 43 = .ok (.iconst 0, 1) := by decide +kernel
theorem md_M_row_44 : decode mb_M_row 44 = .ok (.putfield 61, 3) := by decide +kernel
theorem md_M_row_47 : decode mb_M_row 47 = .ok (.aload_n 0, 1) := by decide +kernel
theorem md_M_row_48 : decode mb_M_row 48 = .ok (.getfield 61, 3) := by decide +kernel
theorem md_M_row_51 : decode mb_M_row 51 = .ok (.ifCond .le 7, 3) := by decide +kernel
theorem md_M_row_54 : decode mb_M_row 54 = .ok (.iconst 0, 1) := by decide +kernel
theorem md_M_row_55 : decode mb_M_row 55 = .ok (.goto 33, 3) := by decide +kernel
theorem md_M_row_58 : decode mb_M_row 58 = .ok (.iload_n 2, 1) := by decide +kernel
theorem md_M_row_59 : decode mb_M_row 59 = .ok (.iconst (-1), 1) := by decide +kernel
theorem md_M_row_60 : decode mb_M_row 60 = .ok (.if_icmp .ne 15, 3) := by decide +kernel
theorem md_M_row_63 : decode mb_M_row 63 = .ok (.aload_n 0, 1) := by decide +kernel
theorem md_M_row_64 : decode mb_M_row 64 = .ok (.getfield 13, 3) := by decide +kernel
theorem md_M_row_67 : decode mb_M_row 67 = .ok (.bipush 8, 2) := by decide +kernel
theorem md_M_row_69 : decode mb_M_row 69 = .ok (.iload_n 1, 1) := by decide +kernel
theorem md_M_row_70 : decode mb_M_row 70 = .ok (.imul, 1) := by decide +kernel
theorem md_M_row_71 : decode mb_M_row 71 = .ok (.iaload, 1) := by decide +kernel
theorem md_M_row_72 : decode mb_M_row 72 = .ok (.goto 16, 3) := by decide +kernel
theorem md_M_row_75 : decode mb_M_row 75 = .ok (.aload_n 0, 1) := by decide +kernel
theorem md_M_row_76 : decode mb_M_row 76 = .ok (.getfield 13, 3) := by decide +kernel
theorem md_M_row_79 : decode mb_M_row 79 = .ok (.bipush 8, 2) := by decide +kernel
theorem md_M_row_81 : decode mb_M_row 81 = .ok (.iload_n 1, 1) := by decide +kernel
theorem md_M_row_82 : decode mb_M_row 82 = .ok (.imul, 1) := by decide +kernel
theorem md_M_row_83 : decode mb_M_row 83 = .ok (.iconst 2, 1) := by decide +kernel
theorem md_M_row_84 : decode mb_M_row 84 = .ok (.iadd, 1) := by decide +kernel
theorem md_M_row_85 : decode mb_M_row 85 = .ok (.iload_n 2, 1) := by decide +kernel
theorem md_M_row_86 : decode mb_M_row 86 = .ok (.iadd, 1) := by decide +kernel
theorem md_M_row_87 : decode mb_M_row 87 = .ok (.iaload, 1) := by decide +kernel
theorem md_M_row_88 : decode mb_M_row 88 = .ok (.ireturn, 1) := by decide +kernel
theorem md_M_rowCode_0 : decode mb_M_rowCode 0 = .ok (.aload_n 0, 1) := by decide +kernel
theorem md_M_rowCode_1 : decode mb_M_rowCode 1 = .ok (.getfield 98, 3) := by decide +kernel
theorem md_M_rowCode_4 : decode mb_M_rowCode 4 = .ok (.ifCond .ne 7, 3) := by decide +kernel
theorem md_M_rowCode_7 : decode mb_M_rowCode 7 = .ok (.iconst 1, 1) := by decide +kernel
theorem md_M_rowCode_8 : decode mb_M_rowCode 8 = .ok (.goto 20, 3) := by decide +kernel
theorem md_M_rowCode_11 : decode mb_M_rowCode 11 = .ok (.iload_n 1, 1) := by decide +kernel
theorem md_M_rowCode_12 : decode mb_M_rowCode 12 = .ok (.ifCond .lt 11, 3) := by decide +kernel
theorem md_M_rowCode_15 : decode mb_M_rowCode 15 = .ok (.iload_n 1, 1) := by decide +kernel
theorem md_M_rowCode_16 : decode mb_M_rowCode 16 = .ok (.aload_n 0, 1) := by decide +kernel
theorem md_M_rowCode_17 : decode mb_M_rowCode 17 = .ok (.getfield 98, 3) := by decide +kernel
theorem md_M_rowCode_20 : decode mb_M_rowCode 20 = .ok (.if_icmp .lt 7, 3) := by decide +kernel
theorem md_M_rowCode_23 : decode mb_M_rowCode 23 = .ok (.iconst 2, 1) := by decide +kernel
theorem md_M_rowCode_24 : decode mb_M_rowCode 24 = .ok (.goto 4, 3) := by decide +kernel
theorem md_M_rowCode_27 : decode mb_M_rowCode 27 = .ok (.iconst 0, 1) := by decide +kernel
theorem md_M_rowCode_28 : decode mb_M_rowCode 28 = .ok (.ireturn, 1) := by decide +kernel
theorem md_M_stock_0 : decode mb_M_stock 0 = .ok (.aload_n 0, 1) := by decide +kernel
theorem md_M_stock_1 : decode mb_M_stock 1 = .ok (.aload_n 0, 1) := by decide +kernel
theorem md_M_stock_2 : decode mb_M_stock 2 = .ok (.iload_n 1, 1) := by decide +kernel
theorem md_M_stock_3 : decode mb_M_stock 3 = .ok (.invokevirtual 101, 3) := by decide +kernel
theorem md_M_stock_6 : decode mb_M_stock 6 = .ok (.putfield 61, 3) := by decide +kernel
theorem md_M_stock_9 : decode mb_M_stock 9 = .ok (.aload_n 0, 1) := by decide +kernel
theorem md_M_stock_10 : decode mb_M_stock 10 = .ok (.getfield 61, 3) := by decide +kernel
theorem md_M_stock_13 : decode mb_M_stock 13 = .ok (.ifCond .le 5, 3) := by decide +kernel
theorem md_M_stock_16 : decode mb_M_stock 16 = .ok (.iconst 0, 1) := by decide +kernel
theorem md_M_stock_17 : decode mb_M_stock 17 = .ok (.ireturn, 1) := by decide +kernel
theorem md_M_stock_18 : decode mb_M_stock 18 = .ok (.aload_n 0, 1) := by decide +kernel
theorem md_M_stock_19 : decode mb_M_stock 19 = .ok (.iload_n 2, 1) := by decide +kernel
theorem md_M_stock_20 : decode mb_M_stock 20 = .ok (.i2l, 1) := by decide +kernel
theorem md_M_stock_21 : decode mb_M_stock 21 = .ok (.lconst 0, 1) := by decide +kernel
theorem md_M_stock_22 : decode mb_M_stock 22 = .ok (.ldc2_w 104, 3) := by decide +kernel
theorem md_M_stock_25 : decode mb_M_stock 25 = .ok (.invokestatic 91, 3) := by decide +kernel
theorem md_M_stock_28 : decode mb_M_stock 28 = .ok (.ifCond .eq 7, 3) := by decide +kernel
theorem md_M_stock_31 : decode mb_M_stock 31 = .ok (.iconst 0, 1) := by decide +kernel
theorem md_M_stock_32 : decode mb_M_stock 32 = .ok (.goto 4, 3) := by decide +kernel
theorem md_M_stock_35 : decode mb_M_stock 35 = .ok (.iconst 3, 1) := by decide +kernel
theorem md_M_stock_36 : decode mb_M_stock 36 = .ok (.putfield 61, 3) := by decide +kernel
theorem md_M_stock_39 : decode mb_M_stock 39 = .ok (.aload_n 0, 1) := by decide +kernel
theorem md_M_stock_40 : decode mb_M_stock 40 = .ok (.getfield 61, 3) := by decide +kernel
theorem md_M_stock_43 : decode mb_M_stock 43 = .ok (.ifCond .gt 13, 3) := by decide +kernel
theorem md_M_stock_46 : decode mb_M_stock 46 = .ok (.aload_n 0, 1) := by decide +kernel
theorem md_M_stock_47 : decode mb_M_stock 47 = .ok (.getfield 19, 3) := by decide +kernel
theorem md_M_stock_50 : decode mb_M_stock 50 = .ok (.iload_n 1, 1) := by decide +kernel
theorem md_M_stock_51 : decode mb_M_stock 51 = .ok (.iaload, 1) := by decide +kernel
theorem md_M_stock_52 : decode mb_M_stock 52 = .ok (.iload_n 2, 1) := by decide +kernel
theorem md_M_stock_53 : decode mb_M_stock 53 = .ok (.if_icmp .ne 5, 3) := by decide +kernel
theorem md_M_stock_56 : decode mb_M_stock 56 = .ok (.iconst 0, 1) := by decide +kernel
theorem md_M_stock_57 : decode mb_M_stock 57 = .ok (.ireturn, 1) := by decide +kernel
theorem md_M_stock_58 : decode mb_M_stock 58 = .ok (.aload_n 0, 1) := by decide +kernel
theorem md_M_stock_59 : decode mb_M_stock 59 = .ok (.getfield 19, 3) := by decide +kernel
theorem md_M_stock_62 : decode mb_M_stock 62 = .ok (.iload_n 1, 1) := by decide +kernel
theorem md_M_stock_63 : decode mb_M_stock 63 = .ok (.iload_n 2, 1) := by decide +kernel
theorem md_M_stock_64 : decode mb_M_stock 64 = .ok (.iastore, 1) := by decide +kernel
theorem md_M_stock_65 : decode mb_M_stock 65 = .ok (.iconst 1, 1) := by decide +kernel
theorem md_M_stock_66 : decode mb_M_stock 66 = .ok (.ireturn, 1) := by decide +kernel
theorem md_M_number_0 : decode mb_M_number 0 = .ok (.aload_n 0, 1) := by decide +kernel
theorem md_M_number_1 : decode mb_M_number 1 = .ok (.getfield 13, 3) := by decide +kernel
theorem md_M_number_4 : decode mb_M_number 4 = .ok (.bipush 8, 2) := by decide +kernel
theorem md_M_number_6 : decode mb_M_number 6 = .ok (.iload_n 1, 1) := by decide +kernel
theorem md_M_number_7 : decode mb_M_number 7 = .ok (.imul, 1) := by decide +kernel
theorem md_M_number_8 : decode mb_M_number 8 = .ok (.iconst 2, 1) := by decide +kernel
theorem md_M_number_9 : decode mb_M_number 9 = .ok (.iadd, 1) := by decide +kernel
theorem md_M_number_10 : decode mb_M_number 10 = .ok (.iload_n 2, 1) := by decide +kernel
theorem md_M_number_11 : decode mb_M_number 11 = .ok (.iadd, 1) := by decide +kernel
theorem md_M_number_12 : decode mb_M_number 12 = .ok (.iaload, 1) := by decide +kernel
theorem md_M_number_13 : decode mb_M_number 13 = .ok (.i2l, 1) := by decide +kernel
theorem md_M_number_14 : decode mb_M_number 14 = .ok (.lreturn, 1) := by decide +kernel
theorem md_M_other_0 : decode mb_M_other 0 = .ok (.aload_n 0, 1) := by decide +kernel
theorem md_M_other_1 : decode mb_M_other 1 = .ok (.aload_n 0, 1) := by decide +kernel
theorem md_M_other_2 : decode mb_M_other 2 = .ok (.iload_n 1, 1) := by decide +kernel
theorem md_M_other_3 : decode mb_M_other 3 = .ok (.invokevirtual 101, 3) := by decide +kernel
theorem md_M_other_6 : decode mb_M_other 6 = .ok (.putfield 61, 3) := by decide +kernel
theorem md_M_other_9 : decode mb_M_other 9 = .ok (.aload_n 0, 1) := by decide +kernel
theorem md_M_other_10 : decode mb_M_other 10 = .ok (.getfield 61, 3) := by decide +kernel
theorem md_M_other_13 : decode mb_M_other 13 = .ok (.ifCond .le 5, 3) := by decide +kernel
theorem md_M_other_16 : decode mb_M_other 16 = .ok (.iconst 0, 1) := by decide +kernel
theorem md_M_other_17 : decode mb_M_other 17 = .ok (.ireturn, 1) := by decide +kernel
theorem md_M_other_18 : decode mb_M_other 18 = .ok (.aload_n 0, 1) := by decide +kernel
theorem md_M_other_19 : decode mb_M_other 19 = .ok (.iload_n 2, 1) := by decide +kernel
theorem md_M_other_20 : decode mb_M_other 20 = .ok (.ifCond .ge 7, 3) := by decide +kernel
theorem md_M_other_23 : decode mb_M_other 23 = .ok (.iconst 2, 1) := by decide +kernel
theorem md_M_other_24 : decode mb_M_other 24 = .ok (.goto 22, 3) := by decide +kernel
theorem md_M_other_27 : decode mb_M_other 27 = .ok (.aload_n 0, 1) := by decide +kernel
theorem md_M_other_28 : decode mb_M_other 28 = .ok (.getfield 13, 3) := by decide +kernel
theorem md_M_other_31 : decode mb_M_other 31 = .ok (.bipush 8, 2) := by decide +kernel
theorem md_M_other_33 : decode mb_M_other 33 = .ok (.iload_n 1, 1) := by decide +kernel
theorem md_M_other_34 : decode mb_M_other 34 = .ok (.imul, 1) := by decide +kernel
theorem md_M_other_35 : decode mb_M_other 35 = .ok (.iaload, 1) := by decide +kernel
theorem md_M_other_36 : decode mb_M_other 36 = .ok (.bipush 104, 2) := by decide +kernel
theorem md_M_other_38 : decode mb_M_other 38 = .ok (.if_icmp .eq 7, 3) := by decide +kernel
theorem md_M_other_41 : decode mb_M_other 41 = .ok (.iconst 3, 1) := by decide +kernel
theorem md_M_other_42 : decode mb_M_other 42 = .ok (.goto 4, 3) := by decide +kernel
theorem md_M_other_45 : decode mb_M_other 45 = .ok (.iconst 0, 1) := by decide +kernel
theorem md_M_other_46 : decode mb_M_other 46 = .ok (.putfield 61, 3) := by decide +kernel
theorem md_M_other_49 : decode mb_M_other 49 = .ok (.aload_n 0, 1) := by decide +kernel
theorem md_M_other_50 : decode mb_M_other 50 = .ok (.getfield 61, 3) := by decide +kernel
theorem md_M_other_53 : decode mb_M_other 53 = .ok (.ifCond .le 5, 3) := by decide +kernel
theorem md_M_other_56 : decode mb_M_other 56 = .ok (.iconst 0, 1) := by decide +kernel
theorem md_M_other_57 : decode mb_M_other 57 = .ok (.ireturn, 1) := by decide +kernel
theorem md_M_other_58 : decode mb_M_other 58 = .ok (.iload_n 2, 1) := by decide +kernel
theorem md_M_other_59 : decode mb_M_other 59 = .ok (.istore_n 3, 1) := by decide +kernel
theorem md_M_other_60 : decode mb_M_other 60 = .ok (.iconst 0, 1) := by decide +kernel
theorem md_M_other_61 : decode mb_M_other 61 = .ok (.istore 4, 2) := by decide +kernel
theorem md_M_other_63 : decode mb_M_other 63 = .ok (.iload 4, 2) := by decide +kernel
theorem md_M_other_65 : decode mb_M_other 65 = .ok (.aload_n 0, 1) := by decide +kernel
theorem md_M_other_66 : decode mb_M_other 66 = .ok (.getfield 98, 3) := by decide +kernel
theorem md_M_other_69 : decode mb_M_other 69 = .ok (.if_icmp .ge 29, 3) := by decide +kernel
theorem md_M_other_72 : decode mb_M_other 72 = .ok (.aload_n 0, 1) := by decide +kernel
theorem md_M_other_73 : decode mb_M_other 73 = .ok (.iload 4, 2) := by decide +kernel
theorem md_M_other_75 : decode mb_M_other 75 = .ok (.iload_n 1, 1) := by decide +kernel
theorem md_M_other_76 : decode mb_M_other 76 = .ok (.invokevirtual 114, 3) := by decide +kernel
theorem md_M_other_79 : decode mb_M_other 79 = .ok (.ifCond .eq 13, 3) := by decide +kernel
theorem md_M_other_82 : decode mb_M_other 82 = .ok (.iload_n 3, 1) := by decide +kernel
theorem md_M_other_83 : decode mb_M_other 83 = .ok (.ifCond .ne 6, 3) := by decide +kernel
theorem md_M_other_86 : decode mb_M_other 86 = .ok (.iload 4, 2) := by decide +kernel
theorem md_M_other_88 : decode mb_M_other 88 = .ok (.ireturn, 1) := by decide +kernel
theorem md_M_other_89 : decode mb_M_other 89 = .ok (.iinc 3 (-1), 3) := by decide +kernel
theorem md_M_other_92 : decode mb_M_other 92 = .ok (.iinc 4 1, 3) := by decide +kernel
theorem md_M_other_95 : decode mb_M_other 95 = .ok (.goto (-32), 3) := by decide +kernel
theorem md_M_other_98 : decode mb_M_other 98 = .ok (.iconst (-1), 1) := by decide +kernel
theorem md_M_other_99 : decode mb_M_other 99 = .ok (.ireturn, 1) := by decide +kernel
theorem md_M_replaces_0 : decode mb_M_replaces 0 = .ok (.aload_n 0, 1) := by decide +kernel
theorem md_M_replaces_1 : decode mb_M_replaces 1 = .ok (.iload_n 1, 1) := by decide +kernel
theorem md_M_replaces_2 : decode mb_M_replaces 2 = .ok (.iconst 0, 1) := by decide +kernel
theorem md_M_replaces_3 : decode mb_M_replaces 3 = .ok (.invokevirtual 106, 3) := by decide +kernel
theorem md_M_replaces_6 : decode mb_M_replaces 6 = .ok (.aload_n 0, 1) := by decide +kernel
theorem md_M_replaces_7 : decode mb_M_replaces 7 = .ok (.iload_n 2, 1) := by decide +kernel
theorem md_M_replaces_8 : decode mb_M_replaces 8 = .ok (.iconst 0, 1) := by decide +kernel
theorem md_M_replaces_9 : decode mb_M_replaces 9 = .ok (.invokevirtual 106, 3) := by decide +kernel
theorem md_M_replaces_12 : decode mb_M_replaces 12 = .ok (.lcmp, 1) := by decide +kernel
theorem md_M_replaces_13 : decode mb_M_replaces 13 = .ok (.ifCond .gt 55, 3) := by decide +kernel
theorem md_M_replaces_16 : decode mb_M_replaces 16 = .ok (.aload_n 0, 1) := by decide +kernel
theorem md_M_replaces_17 : decode mb_M_replaces 17 = .ok (.iload_n 1, 1) := by decide +kernel
theorem md_M_replaces_18 : decode mb_M_replaces 18 = .ok (.iconst 1, 1) := by decide +kernel
theorem md_M_replaces_19 : decode mb_M_replaces 19 = .ok (.invokevirtual 106, 3) := by decide +kernel
theorem md_M_replaces_22 : decode mb_M_replaces 22 = .ok (.aload_n 0, 1) := by decide +kernel
theorem md_M_replaces_23 : decode mb_M_replaces 23 = .ok (.iload_n 2, 1) := by decide +kernel
theorem md_M_replaces_24 : decode mb_M_replaces 24 = .ok (.iconst 1, 1) := by decide +kernel
theorem md_M_replaces_25 : decode mb_M_replaces 25 = .ok (.invokevirtual 106, 3) := by decide +kernel
theorem md_M_replaces_28 : decode mb_M_replaces 28 = .ok (.lcmp, 1) := by decide +kernel
theorem md_M_replaces_29 : decode mb_M_replaces 29 = .ok (.ifCond .lt 39, 3) := by decide +kernel
theorem md_M_replaces_32 : decode mb_M_replaces 32 = .ok (.aload_n 0, 1) := by decide +kernel
theorem md_M_replaces_33 : decode mb_M_replaces 33 = .ok (.iload_n 1, 1) := by decide +kernel
theorem md_M_replaces_34 : decode mb_M_replaces 34 = .ok (.iconst 2, 1) := by decide +kernel
theorem md_M_replaces_35 : decode mb_M_replaces 35 = .ok (.invokevirtual 106, 3) := by decide +kernel
theorem md_M_replaces_38 : decode mb_M_replaces 38 = .ok (.aload_n 0, 1) := by decide +kernel
theorem md_M_replaces_39 : decode mb_M_replaces 39 = .ok (.iload_n 2, 1) := by decide +kernel
theorem md_M_replaces_40 : decode mb_M_replaces 40 = .ok (.iconst 2, 1) := by decide +kernel
theorem md_M_replaces_41 : decode mb_M_replaces 41 = .ok (.invokevirtual 106, 3) := by decide +kernel
theorem md_M_replaces_44 : decode mb_M_replaces 44 = .ok (.lcmp, 1) := by decide +kernel
theorem md_M_replaces_45 : decode mb_M_replaces 45 = .ok (.ifCond .gt 23, 3) := by decide +kernel
theorem md_M_replaces_48 : decode mb_M_replaces 48 = .ok (.aload_n 0, 1) := by decide +kernel
theorem md_M_replaces_49 : decode mb_M_replaces 49 = .ok (.iload_n 1, 1) := by decide +kernel
theorem md_M_replaces_50 : decode mb_M_replaces 50 = .ok (.iconst 3, 1) := by decide +kernel
theorem md_M_replaces_51 : decode mb_M_replaces 51 = .ok (.invokevirtual 106, 3) := by decide +kernel
theorem md_M_replaces_54 : decode mb_M_replaces 54 = .ok (.aload_n 0, 1) := by decide +kernel
theorem md_M_replaces_55 : decode mb_M_replaces 55 = .ok (.iload_n 2, 1) := by decide +kernel
theorem md_M_replaces_56 : decode mb_M_replaces 56 = .ok (.iconst 3, 1) := by decide +kernel
theorem md_M_replaces_57 : decode mb_M_replaces 57 = .ok (.invokevirtual 106, 3) := by decide +kernel
theorem md_M_replaces_60 : decode mb_M_replaces 60 = .ok (.lcmp, 1) := by decide +kernel
theorem md_M_replaces_61 : decode mb_M_replaces 61 = .ok (.ifCond .lt 7, 3) := by decide +kernel
theorem md_M_replaces_64 : decode mb_M_replaces 64 = .ok (.iconst 1, 1) := by decide +kernel
theorem md_M_replaces_65 : decode mb_M_replaces 65 = .ok (.goto 4, 3) := by decide +kernel
theorem md_M_replaces_68 : decode mb_M_replaces 68 = .ok (.iconst 0, 1) := by decide +kernel
theorem md_M_replaces_69 : decode mb_M_replaces 69 = .ok (.istore_n 3, 1) := by decide +kernel
theorem md_M_replaces_70 : decode mb_M_replaces 70 = .ok (.iload_n 1, 1) := by decide +kernel
theorem md_M_replaces_71 : decode mb_M_replaces 71 = .ok (.iload_n 2, 1) := by decide +kernel
theorem md_M_replaces_72 : decode mb_M_replaces 72 = .ok (.if_icmp .eq 37, 3) := by decide +kernel
theorem md_M_replaces_75 : decode mb_M_replaces 75 = .ok (.aload_n 0, 1) := by decide +kernel
theorem md_M_replaces_76 : decode mb_M_replaces 76 = .ok (.iload_n 1, 1) := by decide +kernel
theorem md_M_replaces_77 : decode mb_M_replaces 77 = .ok (.bipush 104, 2) := by decide +kernel
theorem md_M_replaces_79 : decode mb_M_replaces 79 = .ok (.invokevirtual 110, 3) := by decide +kernel
theorem md_M_replaces_82 : decode mb_M_replaces 82 = .ok (.ifCond .eq 27, 3) := by decide +kernel
theorem md_M_replaces_85 : decode mb_M_replaces 85 = .ok (.iload_n 3, 1) := by decide +kernel
theorem md_M_replaces_86 : decode mb_M_replaces 86 = .ok (.ifCond .eq 23, 3) := by decide +kernel
theorem md_M_replaces_89 : decode mb_M_replaces 89 = .ok (.aload_n 0, 1) := by decide +kernel
theorem md_M_replaces_90 : decode mb_M_replaces 90 = .ok (.iload_n 1, 1) := by decide +kernel
theorem md_M_replaces_91 : decode mb_M_replaces 91 = .ok (.iconst 4, 1) := by decide +kernel
theorem md_M_replaces_92 : decode mb_M_replaces 92 = .ok (.invokevirtual 106, 3) := by decide +kernel
theorem md_M_replaces_95 : decode mb_M_replaces 95 = .ok (.aload_n 0, 1) := by decide +kernel
theorem md_M_replaces_96 : decode mb_M_replaces 96 = .ok (.iload_n 2, 1) := by decide +kernel
theorem md_M_replaces_97 : decode mb_M_replaces 97 = .ok (.iconst 4, 1) := by decide +kernel
theorem md_M_replaces_98 : decode mb_M_replaces 98 = .ok (.invokevirtual 106, 3) := by decide +kernel
theorem md_M_replaces_101 : decode mb_M_replaces 101 = .ok (.lcmp, 1) := by decide +kernel
theorem md_M_replaces_102 : decode mb_M_replaces 102 = .ok (.ifCond .lt 7, 3) := by decide +kernel
theorem md_M_replaces_105 : decode mb_M_replaces 105 = .ok (.iconst 1, 1) := by decide +kernel
theorem md_M_replaces_106 : decode mb_M_replaces 106 = .ok (.goto 4, 3) := by decide +kernel
theorem md_M_replaces_109 : decode mb_M_replaces 109 = .ok (.iconst 0, 1) := by decide +kernel
theorem md_M_replaces_110 : decode mb_M_replaces 110 = .ok (.ireturn, 1) := by decide +kernel
theorem md_M_slide_0 : decode mb_M_slide 0 = .ok (.aload_n 0, 1) := by decide +kernel
theorem md_M_slide_1 : decode mb_M_slide 1 = .ok (.aload_n 0, 1) := by decide +kernel
theorem md_M_slide_2 : decode mb_M_slide 2 = .ok (.getfield 98, 3) := by decide +kernel
theorem md_M_slide_5 : decode mb_M_slide 5 = .ok (.ifCond .ne 7, 3) := by decide +kernel
theorem md_M_slide_8 : decode mb_M_slide 8 = .ok (.iconst 1, 1) := by decide +kernel
theorem md_M_slide_9 : decode mb_M_slide 9 = .ok (.goto 4, 3) := by decide +kernel
theorem md_M_slide_12 : decode mb_M_slide 12 = .ok (.iconst 0, 1) := by decide +kernel
theorem md_M_slide_13 : decode mb_M_slide 13 = .ok (.putfield 61, 3) := by decide +kernel
theorem md_M_slide_16 : decode mb_M_slide 16 = .ok (.iconst (-1), 1) := by decide +kernel
theorem md_M_slide_17 : decode mb_M_slide 17 = .ok (.istore_n 3, 1) := by decide +kernel
theorem md_M_slide_18 : decode mb_M_slide 18 = .ok (.aload_n 0, 1) := by decide +kernel
theorem md_M_slide_19 : decode mb_M_slide 19 = .ok (.getfield 98, 3) := by decide +kernel
theorem md_M_slide_22 : decode mb_M_slide 22 = .ok (.iconst 1, 1) := by decide +kernel
theorem md_M_slide_23 : decode mb_M_slide 23 = .ok (.isub, 1) := by decide +kernel
theorem md_M_slide_24 : decode mb_M_slide 24 = .ok (.istore 4, 2) := by decide +kernel
theorem md_M_slide_26 : decode mb_M_slide 26 = .ok (.iload 4, 2) := by decide +kernel
theorem md_M_slide_28 : decode mb_M_slide 28 = .ok (.ifCond .lt 79, 3) := by decide +kernel
theorem md_M_slide_31 : decode mb_M_slide 31 = .ok (.aload_n 0, 1) := by decide +kernel
theorem md_M_slide_32 : decode mb_M_slide 32 = .ok (.getfield 61, 3) := by decide +kernel
theorem md_M_slide_35 : decode mb_M_slide 35 = .ok (.ifCond .ne 72, 3) := by decide +kernel
theorem md_M_slide_38 : decode mb_M_slide 38 = .ok (.aload_n 0, 1) := by decide +kernel
theorem md_M_slide_39 : decode mb_M_slide 39 = .ok (.iload 4, 2) := by decide +kernel
theorem md_M_slide_41 : decode mb_M_slide 41 = .ok (.bipush 115, 2) := by decide +kernel
theorem md_M_slide_43 : decode mb_M_slide 43 = .ok (.invokevirtual 110, 3) := by decide +kernel
theorem md_M_slide_46 : decode mb_M_slide 46 = .ok (.ifCond .eq 19, 3) := by decide +kernel
theorem md_M_slide_49 : decode mb_M_slide 49 = .ok (.aload_n 0, 1) := by decide +kernel
theorem md_M_slide_50 : decode mb_M_slide 50 = .ok (.iload 4, 2) := by decide +kernel
theorem md_M_slide_52 : decode mb_M_slide 52 = .ok (.iconst 0, 1) := by decide +kernel
theorem md_M_slide_53 : decode mb_M_slide 53 = .ok (.invokevirtual 106, 3) := by decide +kernel
theorem md_M_slide_56 : decode mb_M_slide 56 = .ok (.lload_n 1, 1) := by decide +kernel
theorem md_M_slide_57 : decode mb_M_slide 57 = .ok (.lcmp, 1) := by decide +kernel
theorem md_M_slide_58 : decode mb_M_slide 58 = .ok (.ifCond .gt 7, 3) := by decide +kernel
theorem md_M_slide_61 : decode mb_M_slide 61 = .ok (.iconst 1, 1) := by decide +kernel
theorem md_M_slide_62 : decode mb_M_slide 62 = .ok (.goto 4, 3) := by decide +kernel
theorem md_M_slide_65 : decode mb_M_slide 65 = .ok (.iconst 0, 1) := by decide +kernel
theorem md_M_slide_66 : decode mb_M_slide 66 = .ok (.istore 5, 2) := by decide +kernel
theorem md_M_slide_68 : decode mb_M_slide 68 = .ok (.iload 5, 2) := by decide +kernel
theorem md_M_slide_70 : decode mb_M_slide 70 = .ok (.ifCond .eq 29, 3) := by decide +kernel
theorem md_M_slide_73 : decode mb_M_slide 73 = .ok (.iload_n 3, 1) := by decide +kernel
theorem md_M_slide_74 : decode mb_M_slide 74 = .ok (.ifCond .lt 20, 3) := by decide +kernel
theorem md_M_slide_77 : decode mb_M_slide 77 = .ok (.aload_n 0, 1) := by decide +kernel
theorem md_M_slide_78 : decode mb_M_slide 78 = .ok (.iload 4, 2) := by decide +kernel
theorem md_M_slide_80 : decode mb_M_slide 80 = .ok (.iconst 0, 1) := by decide +kernel
theorem md_M_slide_81 : decode mb_M_slide 81 = .ok (.invokevirtual 106, 3) := by decide +kernel
theorem md_M_slide_84 : decode mb_M_slide 84 = .ok (.aload_n 0, 1) := by decide +kernel
theorem md_M_slide_85 : decode mb_M_slide 85 = .ok (.iload_n 3, 1) := by decide +kernel
theorem md_M_slide_86 : decode mb_M_slide 86 = .ok (.iconst 0, 1) := by decide +kernel
theorem md_M_slide_87 : decode mb_M_slide 87 = .ok (.invokevirtual 106, 3) := by decide +kernel
theorem md_M_slide_90 : decode mb_M_slide 90 = .ok (.lcmp, 1) := by decide +kernel
theorem md_M_slide_91 : decode mb_M_slide 91 = .ok (.ifCond .lt 8, 3) := by decide +kernel
theorem md_M_slide_94 : decode mb_M_slide 94 = .ok (.iload 4, 2) := by decide +kernel
theorem md_M_slide_96 : decode mb_M_slide 96 = .ok (.goto 4, 3) := by decide +kernel
theorem md_M_slide_99 : decode mb_M_slide 99 = .ok (.iload_n 3, 1) := by decide +kernel
theorem md_M_slide_100 : decode mb_M_slide 100 = .ok (.istore_n 3, 1) := by decide +kernel
theorem md_M_slide_101 : decode mb_M_slide 101 = .ok (.iinc 4 (-1), 3) := by decide +kernel
theorem md_M_slide_104 : decode mb_M_slide 104 = .ok (.goto (-78), 3) := by decide +kernel
theorem md_M_slide_107 : decode mb_M_slide 107 = .ok (.aload_n 0, 1) := by decide +kernel
theorem md_M_slide_108 : decode mb_M_slide 108 = .ok (.getfield 61, 3) := by decide +kernel
theorem md_M_slide_111 : decode mb_M_slide 111 = .ok (.ifCond .le 7, 3) := by decide +kernel
theorem md_M_slide_114 : decode mb_M_slide 114 = .ok (.iconst 0, 1) := by decide +kernel
theorem md_M_slide_115 : decode mb_M_slide 115 = .ok (.goto 4, 3) := by decide +kernel
theorem md_M_slide_118 : decode mb_M_slide 118 = .ok (.iload_n 3, 1) := by decide +kernel
theorem md_M_slide_119 : decode mb_M_slide 119 = .ok (.ireturn, 1) := by decide +kernel
theorem md_M_weight_0 : decode mb_M_weight 0 = .ok (.aload_n 0, 1) := by decide +kernel
theorem md_M_weight_1 : decode mb_M_weight 1 = .ok (.iload_n 1, 1) := by decide +kernel
theorem md_M_weight_2 : decode mb_M_weight 2 = .ok (.ifCond .lt 8, 3) := by decide +kernel
theorem md_M_weight_5 : decode mb_M_weight 5 = .ok (.iload_n 1, 1) := by decide +kernel
theorem md_M_weight_6 : decode mb_M_weight 6 = .ok (.iconst 1, 1) := by decide +kernel
theorem md_M_weight_7 : decode mb_M_weight 7 = .ok (.if_icmp .le 7, 3) := by decide +kernel
theorem md_M_weight_10 : decode mb_M_weight 10 = .ok (.iconst 1, 1) := by decide +kernel
theorem md_M_weight_11 : decode mb_M_weight 11 = .ok (.goto 4, 3) := by decide +kernel
theorem md_M_weight_14 : decode mb_M_weight 14 = .ok (.iconst 0, 1) := by decide +kernel
theorem md_M_weight_15 : decode mb_M_weight 15 = .ok (.putfield 61, 3) := by decide +kernel
theorem md_M_weight_18 : decode mb_M_weight 18 = .ok (.aload_n 0, 1) := by decide +kernel
theorem md_M_weight_19 : decode mb_M_weight 19 = .ok (.getfield 61, 3) := by decide +kernel
theorem md_M_weight_22 : decode mb_M_weight 22 = .ok (.ifCond .le 7, 3) := by decide +kernel
theorem md_M_weight_25 : decode mb_M_weight 25 = .ok (.lconst 0, 1) := by decide +kernel
theorem md_M_weight_26 : decode mb_M_weight 26 = .ok (.goto 28, 3) := by decide +kernel
theorem md_M_weight_29 : decode mb_M_weight 29 = .ok (.iload_n 1, 1) := by decide +kernel
theorem md_M_weight_30 : decode mb_M_weight 30 = .ok (.ifCond .ne 10, 3) := by decide +kernel
theorem md_M_weight_33 : decode mb_M_weight 33 = .ok (.aload_n 0, 1) := by decide +kernel
theorem md_M_weight_34 : decode mb_M_weight 34 = .ok (.invokevirtual 123, 3) := by decide +kernel
theorem md_M_weight_37 : decode mb_M_weight 37 = .ok (.goto 6, 3) := by decide +kernel
theorem md_M_weight_40 : decode mb_M_weight 40 = .ok (.ldc2_w 127, 3) := by decide +kernel
theorem md_M_weight_43 : decode mb_M_weight 43 = .ok (.aload_n 0, 1) := by decide +kernel
theorem md_M_weight_44 : decode mb_M_weight 44 = .ok (.invokevirtual 123, 3) := by decide +kernel
theorem md_M_weight_47 : decode mb_M_weight 47 = .ok (.ldc2_w 127, 3) := by decide +kernel
theorem md_M_weight_50 : decode mb_M_weight 50 = .ok (.invokestatic 129, 3) := by decide +kernel
theorem md_M_weight_53 : decode mb_M_weight 53 = .ok (.ldiv, 1) := by decide +kernel
theorem md_M_weight_54 : decode mb_M_weight 54 = .ok (.lreturn, 1) := by decide +kernel
theorem md_M_place_0 : decode mb_M_place 0 = .ok (.aload_n 0, 1) := by decide +kernel
theorem md_M_place_1 : decode mb_M_place 1 = .ok (.invokevirtual 133, 3) := by decide +kernel
theorem md_M_place_4 : decode mb_M_place 4 = .ok (.istore_n 3, 1) := by decide +kernel
theorem md_M_place_5 : decode mb_M_place 5 = .ok (.aload_n 0, 1) := by decide +kernel
theorem md_M_place_6 : decode mb_M_place 6 = .ok (.aload_n 0, 1) := by decide +kernel
theorem md_M_place_7 : decode mb_M_place 7 = .ok (.getfield 98, 3) := by decide +kernel
theorem md_M_place_10 : decode mb_M_place 10 = .ok (.ifCond .eq 7, 3) := by decide +kernel
theorem md_M_place_13 : decode mb_M_place 13 = .ok (.iload_n 3, 1) := by decide +kernel
theorem md_M_place_14 : decode mb_M_place 14 = .ok (.ifCond .ge 7, 3) := by decide +kernel
theorem md_M_place_17 : decode mb_M_place 17 = .ok (.iconst 1, 1) := by decide +kernel
theorem md_M_place_18 : decode mb_M_place 18 = .ok (.goto 26, 3) := by decide +kernel
theorem md_M_place_21 : decode mb_M_place 21 = .ok (.iload_n 1, 1) := by decide +kernel
theorem md_M_place_22 : decode mb_M_place 22 = .ok (.ifCond .lt 17, 3) := by decide +kernel
theorem md_M_place_25 : decode mb_M_place 25 = .ok (.iload_n 1, 1) := by decide +kernel
theorem md_M_place_26 : decode mb_M_place 26 = .ok (.iload_n 3, 1) := by decide +kernel
theorem md_M_place_27 : decode mb_M_place 27 = .ok (.if_icmp .ge 12, 3) := by decide +kernel
theorem md_M_place_30 : decode mb_M_place 30 = .ok (.iload_n 2, 1) := by decide +kernel
theorem md_M_place_31 : decode mb_M_place 31 = .ok (.ifCond .lt 8, 3) := by decide +kernel
theorem md_M_place_34 : decode mb_M_place 34 = .ok (.iload_n 2, 1) := by decide +kernel
theorem md_M_place_35 : decode mb_M_place 35 = .ok (.iconst 1, 1) := by decide +kernel
theorem md_M_place_36 : decode mb_M_place 36 = .ok (.if_icmp .le 7, 3) := by decide +kernel
theorem md_M_place_39 : decode mb_M_place 39 = .ok (.iconst 2, 1) := by decide +kernel
theorem md_M_place_40 : decode mb_M_place 40 = .ok (.goto 4, 3) := by decide +kernel
theorem md_M_place_43 : decode mb_M_place 43 = .ok (.iconst 0, 1) := by decide +kernel
theorem md_M_place_44 : decode mb_M_place 44 = .ok (.putfield 61, 3) := by decide +kernel
theorem md_M_place_47 : decode mb_M_place 47 = .ok (.aload_n 0, 1) := by decide +kernel
theorem md_M_place_48 : decode mb_M_place 48 = .ok (.getfield 61, 3) := by decide +kernel
theorem md_M_place_51 : decode mb_M_place 51 = .ok (.ifCond .le 5, 3) := by decide +kernel
theorem md_M_place_54 : decode mb_M_place 54 = .ok (.lconst 0, 1) := by decide +kernel
theorem md_M_place_55 : decode mb_M_place 55 = .ok (.lreturn, 1) := by decide +kernel
theorem md_M_place_56 : decode mb_M_place 56 = .ok (.aload_n 0, 1) := by decide +kernel
theorem md_M_place_57 : decode mb_M_place 57 = .ok (.getfield 30, 3) := by decide +kernel
theorem md_M_place_60 : decode mb_M_place 60 = .ok (.ldc2_w 136, 3) := by decide +kernel
theorem md_M_place_63 : decode mb_M_place 63 = .ok (.lcmp, 1) := by decide +kernel
theorem md_M_place_64 : decode mb_M_place 64 = .ok (.ifCond .ge 10, 3) := by decide +kernel
theorem md_M_place_67 : decode mb_M_place 67 = .ok (.aload_n 0, 1) := by decide +kernel
theorem md_M_place_68 : decode mb_M_place 68 = .ok (.getfield 30, 3) := by decide +kernel
theorem md_M_place_71 : decode mb_M_place 71 = .ok (.goto 6, 3) := by decide +kernel
theorem md_M_place_74 : decode mb_M_place 74 = .ok (.ldc2_w 136, 3) := by decide +kernel
theorem md_M_place_77 : decode mb_M_place 77 = .ok (.lstore 4, 2) := by decide +kernel
theorem md_M_place_79 : decode mb_M_place 79 = .ok (.iload_n 3, 1) := by decide +kernel
theorem md_M_place_80 : decode mb_M_place 80 = .ok (.iconst 1, 1) := by decide +kernel
theorem md_M_place_81 : decode mb_M_place 81 = .ok (.if_icmp .ne 14, 3) := by decide +kernel
theorem md_M_place_84 : decode mb_M_place 84 = .ok (.ldc2_w 138, 3) := by decide +kernel
theorem md_M_place_87 : decode mb_M_place 87 = .ok (.aload_n 0, 1) := by decide +kernel
theorem md_M_place_88 : decode mb_M_place 88 = .ok (.getfield 30, 3) := by decide +kernel
theorem md_M_place_91 : decode mb_M_place 91 = .ok (.lmul, 1) := by decide +kernel
theorem md_M_place_92 : decode mb_M_place 92 = .ok (.goto 29, 3) := by decide +kernel
theorem md_M_place_95 : decode mb_M_place 95 = .ok (.lload 4, 2) := by decide +kernel
theorem md_M_place_97 : decode mb_M_place 97 = .ok (.iload_n 3, 1) := by decide +kernel
theorem md_M_place_98 : decode mb_M_place 98 = .ok (.iconst 1, 1) := by decide +kernel
theorem md_M_place_99 : decode mb_M_place 99 = .ok (.isub, 1) := by decide +kernel
theorem md_M_place_100 : decode mb_M_place 100 = .ok (.i2l, 1) := by decide +kernel
theorem md_M_place_101 : decode mb_M_place 101 = .ok (.lmul, 1) := by decide +kernel
theorem md_M_place_102 : decode mb_M_place 102 = .ok (.iload_n 1, 1) := by decide +kernel
theorem md_M_place_103 : decode mb_M_place 103 = .ok (.i2l, 1) := by decide +kernel
theorem md_M_place_104 : decode mb_M_place 104 = .ok (.ldc2_w 140, 3) := by decide +kernel
theorem md_M_place_107 : decode mb_M_place 107 = .ok (.aload_n 0, 1) := by decide +kernel
theorem md_M_place_108 : decode mb_M_place 108 = .ok (.getfield 30, 3) := by decide +kernel
theorem md_M_place_111 : decode mb_M_place 111 = .ok (.lmul, 1) := by decide +kernel
theorem md_M_place_112 : decode mb_M_place 112 = .ok (.ldc2_w 138, 3) := by decide +kernel
theorem md_M_place_115 : decode mb_M_place 115 = .ok (.lload 4, 2) := by decide +kernel
theorem md_M_place_117 : decode mb_M_place 117 = .ok (.lmul, 1) := by decide +kernel
theorem md_M_place_118 : decode mb_M_place 118 = .ok (.lsub, 1) := by decide +kernel
theorem md_M_place_119 : decode mb_M_place 119 = .ok (.lmul, 1) := by decide +kernel
theorem md_M_place_120 : decode mb_M_place 120 = .ok (.ladd, 1) := by decide +kernel
theorem md_M_place_121 : decode mb_M_place 121 = .ok (.lstore 6, 2) := by decide +kernel
theorem md_M_place_123 : decode mb_M_place 123 = .ok (.iload_n 3, 1) := by decide +kernel
theorem md_M_place_124 : decode mb_M_place 124 = .ok (.iconst 1, 1) := by decide +kernel
theorem md_M_place_125 : decode mb_M_place 125 = .ok (.if_icmp .ne 9, 3) := by decide +kernel
theorem md_M_place_128 : decode mb_M_place 128 = .ok (.ldc2_w 140, 3) := by decide +kernel
theorem md_M_place_131 : decode mb_M_place 131 = .ok (.goto 11, 3) := by decide +kernel
theorem md_M_place_134 : decode mb_M_place 134 = .ok (.ldc2_w 140, 3) := by decide +kernel
theorem md_M_place_137 : decode mb_M_place 137 = .ok (.iload_n 3, 1) := by decide +kernel
theorem md_M_place_138 : decode mb_M_place 138 = .ok (.iconst 1, 1) := by decide +kernel
theorem md_M_place_139 : decode mb_M_place 139 = .ok (.isub, 1) := by decide +kernel
theorem md_M_place_140 : decode mb_M_place 140 = .ok (.i2l, 1) := by decide +kernel
theorem md_M_place_141 : decode mb_M_place 141 = .ok (.lmul, 1) := by decide +kernel
theorem md_M_place_142 : decode mb_M_place 142 = .ok (.lstore 8, 2) := by decide +kernel
theorem md_M_place_144 : decode mb_M_place 144 = .ok (.lload 6, 2) := by decide +kernel
theorem md_M_place_146 : decode mb_M_place 146 = .ok (.lload 8, 2) := by decide +kernel
theorem md_M_place_148 : decode mb_M_place 148 = .ok (.invokestatic 129, 3) := by decide +kernel
theorem md_M_place_151 : decode mb_M_place 151 = .ok (.lstore 10, 2) := by decide +kernel
theorem md_M_place_153 : decode mb_M_place 153 = .ok (.iload_n 2, 1) := by decide +kernel
theorem md_M_place_154 : decode mb_M_place 154 = .ok (.ifCond .ne 11, 3) := by decide +kernel
theorem md_M_place_157 : decode mb_M_place 157 = .ok (.lload 6, 2) := by decide +kernel
theorem md_M_place_159 : decode mb_M_place 159 = .ok (.lload 10, 2) := by decide +kernel
theorem md_M_place_161 : decode mb_M_place 161 = .ok (.ldiv, 1) := by decide +kernel
theorem md_M_place_162 : decode mb_M_place 162 = .ok (.goto 8, 3) := by decide +kernel
theorem md_M_place_165 : decode mb_M_place 165 = .ok (.lload 8, 2) := by decide +kernel
theorem md_M_place_167 : decode mb_M_place 167 = .ok (.lload 10, 2) := by decide +kernel
theorem md_M_place_169 : decode mb_M_place 169 = .ok (.ldiv, 1) := by decide +kernel
theorem md_M_place_170 : decode mb_M_place 170 = .ok (.lreturn, 1) := by decide +kernel
theorem md_M_meet_0 : decode mb_M_meet 0 = .ok (.aload_n 0, 1) := by decide +kernel
theorem md_M_meet_1 : decode mb_M_meet 1 = .ok (.iload_n 1, 1) := by decide +kernel
theorem md_M_meet_2 : decode mb_M_meet 2 = .ok (.ifCond .lt 19, 3) := by decide +kernel
theorem md_M_meet_5 : decode mb_M_meet 5 = .ok (.iload_n 1, 1) := by decide +kernel
theorem md_M_meet_6 : decode mb_M_meet 6 = .ok (.bipush 16, 2) := by decide +kernel
theorem md_M_meet_8 : decode mb_M_meet 8 = .ok (.if_icmp .ge 13, 3) := by decide +kernel
theorem md_M_meet_11 : decode mb_M_meet 11 = .ok (.iload_n 2, 1) := by decide +kernel
theorem md_M_meet_12 : decode mb_M_meet 12 = .ok (.ifCond .lt 9, 3) := by decide +kernel
theorem md_M_meet_15 : decode mb_M_meet 15 = .ok (.iload_n 2, 1) := by decide +kernel
theorem md_M_meet_16 : decode mb_M_meet 16 = .ok (.bipush 16, 2) := by decide +kernel
theorem md_M_meet_18 : decode mb_M_meet 18 = .ok (.if_icmp .lt 7, 3) := by decide +kernel
theorem md_M_meet_21 : decode mb_M_meet 21 = .ok (.iconst 1, 1) := by decide +kernel
theorem md_M_meet_22 : decode mb_M_meet 22 = .ok (.goto 4, 3) := by decide +kernel
theorem md_M_meet_25 : decode mb_M_meet 25 = .ok (.iconst 0, 1) := by decide +kernel
theorem md_M_meet_26 : decode mb_M_meet 26 = .ok (.putfield 61, 3) := by decide +kernel
theorem md_M_meet_29 : decode mb_M_meet 29 = .ok (.aload_n 0, 1) := by decide +kernel
theorem md_M_meet_30 : decode mb_M_meet 30 = .ok (.getfield 61, 3) := by decide +kernel
theorem md_M_meet_33 : decode mb_M_meet 33 = .ok (.ifCond .ne 16, 3) := by decide +kernel
theorem md_M_meet_36 : decode mb_M_meet 36 = .ok (.aload_n 0, 1) := by decide +kernel
theorem md_M_meet_37 : decode mb_M_meet 37 = .ok (.iload_n 1, 1) := by decide +kernel
theorem md_M_meet_38 : decode mb_M_meet 38 = .ok (.iload_n 2, 1) := by decide +kernel
theorem md_M_meet_39 : decode mb_M_meet 39 = .ok (.invokevirtual 146, 3) := by decide +kernel
theorem md_M_meet_42 : decode mb_M_meet 42 = .ok (.ifCond .eq 7, 3) := by decide +kernel
theorem md_M_meet_45 : decode mb_M_meet 45 = .ok (.iconst 1, 1) := by decide +kernel
theorem md_M_meet_46 : decode mb_M_meet 46 = .ok (.goto 4, 3) := by decide +kernel
theorem md_M_meet_49 : decode mb_M_meet 49 = .ok (.iconst 0, 1) := by decide +kernel
theorem md_M_meet_50 : decode mb_M_meet 50 = .ok (.ireturn, 1) := by decide +kernel
theorem md_M_meets_0 : decode mb_M_meets 0 = .ok (.aload_n 0, 1) := by decide +kernel
theorem md_M_meets_1 : decode mb_M_meets 1 = .ok (.getfield 41, 3) := by decide +kernel
theorem md_M_meets_4 : decode mb_M_meets 4 = .ok (.iload_n 1, 1) := by decide +kernel
theorem md_M_meets_5 : decode mb_M_meets 5 = .ok (.laload, 1) := by decide +kernel
theorem md_M_meets_6 : decode mb_M_meets 6 = .ok (.aload_n 0, 1) := by decide +kernel
theorem md_M_meets_7 : decode mb_M_meets 7 = .ok (.getfield 41, 3) := by decide +kernel
theorem md_M_meets_10 : decode mb_M_meets 10 = .ok (.iload_n 2, 1) := by decide +kernel
theorem md_M_meets_11 : decode mb_M_meets 11 = .ok (.laload, 1) := by decide +kernel
theorem md_M_meets_12 : decode mb_M_meets 12 = .ok (.lsub, 1) := by decide +kernel
theorem md_M_meets_13 : decode mb_M_meets 13 = .ok (.lstore_n 3, 1) := by decide +kernel
theorem md_M_meets_14 : decode mb_M_meets 14 = .ok (.aload_n 0, 1) := by decide +kernel
theorem md_M_meets_15 : decode mb_M_meets 15 = .ok (.getfield 45, 3) := by decide +kernel
theorem md_M_meets_18 : decode mb_M_meets 18 = .ok (.iload_n 1, 1) := by decide +kernel
theorem md_M_meets_19 : decode mb_M_meets 19 = .ok (.laload, 1) := by decide +kernel
theorem md_M_meets_20 : decode mb_M_meets 20 = .ok (.aload_n 0, 1) := by decide +kernel
theorem md_M_meets_21 : decode mb_M_meets 21 = .ok (.getfield 45, 3) := by decide +kernel
theorem md_M_meets_24 : decode mb_M_meets 24 = .ok (.iload_n 2, 1) := by decide +kernel
theorem md_M_meets_25 : decode mb_M_meets 25 = .ok (.laload, 1) := by decide +kernel
theorem md_M_meets_26 : decode mb_M_meets 26 = .ok (.lsub, 1) := by decide +kernel
theorem md_M_meets_27 : decode mb_M_meets 27 = .ok (.lstore 5, 2) := by decide +kernel
theorem md_M_meets_29 : decode mb_M_meets 29 = .ok (.aload_n 0, 1) := by decide +kernel
theorem md_M_meets_30 : decode mb_M_meets 30 = .ok (.getfield 48, 3) := by decide +kernel
theorem md_M_meets_33 : decode mb_M_meets 33 = .ok (.iload_n 1, 1) := by decide +kernel
theorem md_M_meets_34 : decode mb_M_meets 34 = .ok (.laload, 1) := by decide +kernel
theorem md_M_meets_35 : decode mb_M_meets 35 = .ok (.aload_n 0, 1) := by decide +kernel
theorem md_M_meets_36 : decode mb_M_meets 36 = .ok (.getfield 48, 3) := by decide +kernel
theorem md_M_meets_39 : decode mb_M_meets 39 = .ok (.iload_n 2, 1) := by decide +kernel
theorem md_M_meets_40 : decode mb_M_meets 40 = .ok (.laload, 1) := by decide +kernel
theorem md_M_meets_41 : decode mb_M_meets 41 = .ok (.ladd, 1) := by decide +kernel
theorem md_M_meets_42 : decode mb_M_meets 42 = .ok (.lstore 7, 2) := by decide +kernel
theorem md_M_meets_44 : decode mb_M_meets 44 = .ok (.iload_n 1, 1) := by decide +kernel
theorem md_M_meets_45 : decode mb_M_meets 45 = .ok (.iload_n 2, 1) := by decide +kernel
theorem md_M_meets_46 : decode mb_M_meets 46 = .ok (.if_icmp .eq 47, 3) := by decide +kernel
theorem md_M_meets_49 : decode mb_M_meets 49 = .ok (.aload_n 0, 1) := by decide +kernel
theorem md_M_meets_50 : decode mb_M_meets 50 = .ok (.getfield 48, 3) := by decide +kernel
theorem md_M_meets_53 : decode mb_M_meets 53 = .ok (.iload_n 1, 1) := by decide +kernel
theorem md_M_meets_54 : decode mb_M_meets 54 = .ok (.laload, 1) := by decide +kernel
theorem md_M_meets_55 : decode mb_M_meets 55 = .ok (.lconst 0, 1) := by decide +kernel
theorem md_M_meets_56 : decode mb_M_meets 56 = .ok (.lcmp, 1) := by decide +kernel
theorem md_M_meets_57 : decode mb_M_meets 57 = .ok (.ifCond .le 36, 3) := by decide +kernel
theorem md_M_meets_60 : decode mb_M_meets 60 = .ok (.aload_n 0, 1) := by decide +kernel
theorem md_M_meets_61 : decode mb_M_meets 61 = .ok (.getfield 48, 3) := by decide +kernel
theorem md_M_meets_64 : decode mb_M_meets 64 = .ok (.iload_n 2, 1) := by decide +kernel
theorem md_M_meets_65 : decode mb_M_meets 65 = .ok (.laload, 1) := by decide +kernel
theorem md_M_meets_66 : decode mb_M_meets 66 = .ok (.lconst 0, 1) := by decide +kernel
theorem md_M_meets_67 : decode mb_M_meets 67 = .ok (.lcmp, 1) := by decide +kernel
theorem md_M_meets_68 : decode mb_M_meets 68 = .ok (.ifCond .le 25, 3) := by decide +kernel
theorem md_M_meets_71 : decode mb_M_meets 71 = .ok (.lload_n 3, 1) := by decide +kernel
theorem md_M_meets_72 : decode mb_M_meets 72 = .ok (.lload_n 3, 1) := by decide +kernel
theorem md_M_meets_73 : decode mb_M_meets 73 = .ok (.lmul, 1) := by decide +kernel
theorem md_M_meets_74 : decode mb_M_meets 74 = .ok (.lload 5, 2) := by decide +kernel
theorem md_M_meets_76 : decode mb_M_meets 76 = .ok (.lload 5, 2) := by decide +kernel
theorem md_M_meets_78 : decode mb_M_meets 78 = .ok (.lmul, 1) := by decide +kernel
theorem md_M_meets_79 : decode mb_M_meets 79 = .ok (.ladd, 1) := by decide +kernel
theorem md_M_meets_80 : decode mb_M_meets 80 = .ok (.lload 7, 2) := by decide +kernel
theorem md_M_meets_82 : decode mb_M_meets 82 = .ok (.lload 7, 2) := by decide +kernel
theorem md_M_meets_84 : decode mb_M_meets 84 = .ok (.lmul, 1) := by decide +kernel
theorem md_M_meets_85 : decode mb_M_meets 85 = .ok (.lcmp, 1) := by decide +kernel
theorem md_M_meets_86 : decode mb_M_meets 86 = .ok (.ifCond .ge 7, 3) := by decide +kernel
theorem md_M_meets_89 : decode mb_M_meets 89 = .ok (.iconst 1, 1) := by decide +kernel
theorem md_M_meets_90 : decode mb_M_meets 90 = .ok (.goto 4, 3) := by decide +kernel
theorem md_M_meets_93 : decode mb_M_meets 93 = .ok (.iconst 0, 1) := by decide +kernel
theorem md_M_meets_94 : decode mb_M_meets 94 = .ok (.ireturn, 1) := by decide +kernel
theorem md_M_pair_0 : decode mb_M_pair 0 = .ok (.aload_n 0, 1) := by decide +kernel
theorem md_M_pair_1 : decode mb_M_pair 1 = .ok (.iload_n 1, 1) := by decide +kernel
theorem md_M_pair_2 : decode mb_M_pair 2 = .ok (.ifCond .ge 7, 3) := by decide +kernel
theorem md_M_pair_5 : decode mb_M_pair 5 = .ok (.iconst 1, 1) := by decide +kernel
theorem md_M_pair_6 : decode mb_M_pair 6 = .ok (.goto 4, 3) := by decide +kernel
theorem md_M_pair_9 : decode mb_M_pair 9 = .ok (.iconst 0, 1) := by decide +kernel
theorem md_M_pair_10 : decode mb_M_pair 10 = .ok (.putfield 61, 3) := by decide +kernel
theorem md_M_pair_13 : decode mb_M_pair 13 = .ok (.iload_n 1, 1) := by decide +kernel
theorem md_M_pair_14 : decode mb_M_pair 14 = .ok (.istore_n 2, 1) := by decide +kernel
theorem md_M_pair_15 : decode mb_M_pair 15 = .ok (.iconst 0, 1) := by decide +kernel
theorem md_M_pair_16 : decode mb_M_pair 16 = .ok (.istore_n 3, 1) := by decide +kernel
theorem md_M_pair_17 : decode mb_M_pair 17 = .ok (.iload_n 3, 1) := by decide +kernel
theorem md_M_pair_18 : decode mb_M_pair 18 = .ok (.bipush 16, 2) := by decide +kernel
theorem md_M_pair_20 : decode mb_M_pair 20 = .ok (.if_icmp .ge 59, 3) := by decide +kernel
theorem md_M_pair_23 : decode mb_M_pair 23 = .ok (.aload_n 0, 1) := by decide +kernel
theorem md_M_pair_24 : decode mb_M_pair 24 = .ok (.getfield 61, 3) := by decide +kernel
theorem md_M_pair_27 : decode mb_M_pair 27 = .ok (.ifCond .ne 52, 3) := by decide +kernel
theorem md_M_pair_30 : decode mb_M_pair 30 = .ok (.iload_n 3, 1) := by decide +kernel
theorem md_M_pair_31 : decode mb_M_pair 31 = .ok (.iconst 1, 1) := by decide +kernel
theorem md_M_pair_32 : decode mb_M_pair 32 = .ok (.iadd, 1) := by decide +kernel
theorem md_M_pair_33 : decode mb_M_pair 33 = .ok (.istore 4, 2) := by decide +kernel
theorem md_M_pair_35 : decode mb_M_pair 35 = .ok (.iload 4, 2) := by decide +kernel
theorem md_M_pair_37 : decode mb_M_pair 37 = .ok (.bipush 16, 2) := by decide +kernel
theorem md_M_pair_39 : decode mb_M_pair 39 = .ok (.if_icmp .ge 34, 3) := by decide +kernel
theorem md_M_pair_42 : decode mb_M_pair 42 = .ok (.aload_n 0, 1) := by decide +kernel
theorem md_M_pair_43 : decode mb_M_pair 43 = .ok (.iload_n 3, 1) := by decide +kernel
theorem md_M_pair_44 : decode mb_M_pair 44 = .ok (.iload 4, 2) := by decide +kernel
theorem md_M_pair_46 : decode mb_M_pair 46 = .ok (.invokevirtual 146, 3) := by decide +kernel
theorem md_M_pair_49 : decode mb_M_pair 49 = .ok (.ifCond .eq 18, 3) := by decide +kernel
theorem md_M_pair_52 : decode mb_M_pair 52 = .ok (.iload_n 2, 1) := by decide +kernel
theorem md_M_pair_53 : decode mb_M_pair 53 = .ok (.ifCond .ne 11, 3) := by decide +kernel
theorem md_M_pair_56 : decode mb_M_pair 56 = .ok (.bipush 16, 2) := by decide +kernel
theorem md_M_pair_58 : decode mb_M_pair 58 = .ok (.iload_n 3, 1) := by decide +kernel
theorem md_M_pair_59 : decode mb_M_pair 59 = .ok (.imul, 1) := by decide +kernel
theorem md_M_pair_60 : decode mb_M_pair 60 = .ok (.iload 4, 2) := by decide +kernel
theorem md_M_pair_62 : decode mb_M_pair 62 = .ok (.iadd, 1) := by decide +kernel
theorem md_M_pair_63 : decode mb_M_pair 63 = .ok (.ireturn, 1) := by decide +kernel
theorem md_M_pair_64 : decode mb_M_pair 64 = .ok (.iinc 2 (-1), 3) := by decide +kernel
theorem md_M_pair_67 : decode mb_M_pair 67 = .ok (.iinc 4 1, 3) := by decide +kernel
theorem md_M_pair_70 : decode mb_M_pair 70 = .ok (.goto (-35), 3) := by decide +kernel
theorem md_M_pair_73 : decode mb_M_pair 73 = .ok (.iinc 3 1, 3) := by decide +kernel
theorem md_M_pair_76 : decode mb_M_pair 76 = .ok (.goto (-59), 3) := by decide +kernel
theorem md_M_pair_79 : decode mb_M_pair 79 = .ok (.aload_n 0, 1) := by decide +kernel
theorem md_M_pair_80 : decode mb_M_pair 80 = .ok (.getfield 61, 3) := by decide +kernel
theorem md_M_pair_83 : decode mb_M_pair 83 = .ok (.ifCond .le 7, 3) := by decide +kernel
theorem md_M_pair_86 : decode mb_M_pair 86 = .ok (.iconst 0, 1) := by decide +kernel
theorem md_M_pair_87 : decode mb_M_pair 87 = .ok (.goto 4, 3) := by decide +kernel
theorem md_M_pair_90 : decode mb_M_pair 90 = .ok (.iconst (-1), 1) := by decide +kernel
theorem md_M_pair_91 : decode mb_M_pair 91 = .ok (.ireturn, 1) := by decide +kernel
theorem md_M_placeOf_0 : decode mb_M_placeOf 0 = .ok (.iload_n 1, 1) := by decide +kernel
theorem md_M_placeOf_1 : decode mb_M_placeOf 1 = .ok (.iconst 1, 1) := by decide +kernel
theorem md_M_placeOf_2 : decode mb_M_placeOf 2 = .ok (.if_icmp .eq 8, 3) := by decide +kernel
theorem md_M_placeOf_5 : decode mb_M_placeOf 5 = .ok (.iload_n 1, 1) := by decide +kernel
theorem md_M_placeOf_6 : decode mb_M_placeOf 6 = .ok (.iconst 2, 1) := by decide +kernel
theorem md_M_placeOf_7 : decode mb_M_placeOf 7 = .ok (.if_icmp .ne 10, 3) := by decide +kernel
theorem md_M_placeOf_10 : decode mb_M_placeOf 10 = .ok (.aload_n 0, 1) := by decide +kernel
theorem md_M_placeOf_11 : decode mb_M_placeOf 11 = .ok (.getfield 24, 3) := by decide +kernel
theorem md_M_placeOf_14 : decode mb_M_placeOf 14 = .ok (.goto 4, 3) := by decide +kernel
theorem md_M_placeOf_17 : decode mb_M_placeOf 17 = .ok (.lconst 0, 1) := by decide +kernel
theorem md_M_placeOf_18 : decode mb_M_placeOf 18 = .ok (.lstore 4, 2) := by decide +kernel
theorem md_M_placeOf_20 : decode mb_M_placeOf 20 = .ok (.iload_n 1, 1) := by decide +kernel
theorem md_M_placeOf_21 : decode mb_M_placeOf 21 = .ok (.iconst 2, 1) := by decide +kernel
theorem md_M_placeOf_22 : decode mb_M_placeOf 22 = .ok (.if_icmp .lt 10, 3) := by decide +kernel
theorem md_M_placeOf_25 : decode mb_M_placeOf 25 = .ok (.aload_n 0, 1) := by decide +kernel
theorem md_M_placeOf_26 : decode mb_M_placeOf 26 = .ok (.getfield 35, 3) := by decide +kernel
theorem md_M_placeOf_29 : decode mb_M_placeOf 29 = .ok (.goto 4, 3) := by decide +kernel
theorem md_M_placeOf_32 : decode mb_M_placeOf 32 = .ok (.lconst 0, 1) := by decide +kernel
theorem md_M_placeOf_33 : decode mb_M_placeOf 33 = .ok (.lstore 6, 2) := by decide +kernel
theorem md_M_placeOf_35 : decode mb_M_placeOf 35 = .ok (.iload_n 3, 1) := by decide +kernel
theorem md_M_placeOf_36 : decode mb_M_placeOf 36 = .ok (.ifCond .ne 27, 3) := by decide +kernel
theorem md_M_placeOf_39 : decode mb_M_placeOf 39 = .ok (.lload 4, 2) := by decide +kernel
theorem md_M_placeOf_41 : decode mb_M_placeOf 41 = .ok (.aload_n 0, 1) := by decide +kernel
theorem md_M_placeOf_42 : decode mb_M_placeOf 42 = .ok (.getfield 51, 3) := by decide +kernel
theorem md_M_placeOf_45 : decode mb_M_placeOf 45 = .ok (.iload_n 2, 1) := by decide +kernel
theorem md_M_placeOf_46 : decode mb_M_placeOf 46 = .ok (.iaload, 1) := by decide +kernel
theorem md_M_placeOf_47 : decode mb_M_placeOf 47 = .ok (.i2l, 1) := by decide +kernel
theorem md_M_placeOf_48 : decode mb_M_placeOf 48 = .ok (.lmul, 1) := by decide +kernel
theorem md_M_placeOf_49 : decode mb_M_placeOf 49 = .ok (.lload 6, 2) := by decide +kernel
theorem md_M_placeOf_51 : decode mb_M_placeOf 51 = .ok (.aload_n 0, 1) := by decide +kernel
theorem md_M_placeOf_52 : decode mb_M_placeOf 52 = .ok (.getfield 54, 3) := by decide +kernel
theorem md_M_placeOf_55 : decode mb_M_placeOf 55 = .ok (.iload_n 2, 1) := by decide +kernel
theorem md_M_placeOf_56 : decode mb_M_placeOf 56 = .ok (.iaload, 1) := by decide +kernel
theorem md_M_placeOf_57 : decode mb_M_placeOf 57 = .ok (.i2l, 1) := by decide +kernel
theorem md_M_placeOf_58 : decode mb_M_placeOf 58 = .ok (.lmul, 1) := by decide +kernel
theorem md_M_placeOf_59 : decode mb_M_placeOf 59 = .ok (.lsub, 1) := by decide +kernel
theorem md_M_placeOf_60 : decode mb_M_placeOf 60 = .ok (.goto 24, 3) := by decide +kernel
theorem md_M_placeOf_63 : decode mb_M_placeOf 63 = .ok (.lload 4, 2) := by decide +kernel
theorem md_M_placeOf_65 : decode mb_M_placeOf 65 = .ok (.aload_n 0, 1) := by decide +kernel
theorem md_M_placeOf_66 : decode mb_M_placeOf 66 = .ok (.getfield 54, 3) := by decide +kernel
theorem md_M_placeOf_69 : decode mb_M_placeOf 69 = .ok (.iload_n 2, 1) := by decide +kernel
theorem md_M_placeOf_70 : decode mb_M_placeOf 70 = .ok (.iaload, 1) := by decide +kernel
theorem md_M_placeOf_71 : decode mb_M_placeOf 71 = .ok (.i2l, 1) := by decide +kernel
theorem md_M_placeOf_72 : decode mb_M_placeOf 72 = .ok (.lmul, 1) := by decide +kernel
theorem md_M_placeOf_73 : decode mb_M_placeOf 73 = .ok (.lload 6, 2) := by decide +kernel
theorem md_M_placeOf_75 : decode mb_M_placeOf 75 = .ok (.aload_n 0, 1) := by decide +kernel
theorem md_M_placeOf_76 : decode mb_M_placeOf 76 = .ok (.getfield 51, 3) := by decide +kernel
theorem md_M_placeOf_79 : decode mb_M_placeOf 79 = .ok (.iload_n 2, 1) := by decide +kernel
theorem md_M_placeOf_80 : decode mb_M_placeOf 80 = .ok (.iaload, 1) := by decide +kernel
theorem md_M_placeOf_81 : decode mb_M_placeOf 81 = .ok (.i2l, 1) := by decide +kernel
theorem md_M_placeOf_82 : decode mb_M_placeOf 82 = .ok (.lmul, 1) := by decide +kernel
theorem md_M_placeOf_83 : decode mb_M_placeOf 83 = .ok (.ladd, 1) := by decide +kernel
theorem md_M_placeOf_84 : decode mb_M_placeOf 84 = .ok (.lreturn, 1) := by decide +kernel
theorem md_M_wall_0 : decode mb_M_wall 0 = .ok (.aload_n 0, 1) := by decide +kernel
theorem md_M_wall_1 : decode mb_M_wall 1 = .ok (.lload_n 1, 1) := by decide +kernel
theorem md_M_wall_2 : decode mb_M_wall 2 = .ok (.ldc2_w 153, 3) := by decide +kernel
theorem md_M_wall_5 : decode mb_M_wall 5 = .ok (.ldc2_w 117, 3) := by decide +kernel
theorem md_M_wall_8 : decode mb_M_wall 8 = .ok (.invokestatic 91, 3) := by decide +kernel
theorem md_M_wall_11 : decode mb_M_wall 11 = .ok (.ifCond .eq 7, 3) := by decide +kernel
theorem md_M_wall_14 : decode mb_M_wall 14 = .ok (.iconst 0, 1) := by decide +kernel
theorem md_M_wall_15 : decode mb_M_wall 15 = .ok (.goto 4, 3) := by decide +kernel
theorem md_M_wall_18 : decode mb_M_wall 18 = .ok (.iconst 1, 1) := by decide +kernel
theorem md_M_wall_19 : decode mb_M_wall 19 = .ok (.putfield 61, 3) := by decide +kernel
theorem md_M_wall_22 : decode mb_M_wall 22 = .ok (.aload_n 0, 1) := by decide +kernel
theorem md_M_wall_23 : decode mb_M_wall 23 = .ok (.getfield 61, 3) := by decide +kernel
theorem md_M_wall_26 : decode mb_M_wall 26 = .ok (.ifCond .le 5, 3) := by decide +kernel
theorem md_M_wall_29 : decode mb_M_wall 29 = .ok (.iconst 0, 1) := by decide +kernel
theorem md_M_wall_30 : decode mb_M_wall 30 = .ok (.ireturn, 1) := by decide +kernel
theorem md_M_wall_31 : decode mb_M_wall 31 = .ok (.iconst 0, 1) := by decide +kernel
theorem md_M_wall_32 : decode mb_M_wall 32 = .ok (.istore_n 3, 1) := by decide +kernel
theorem md_M_wall_33 : decode mb_M_wall 33 = .ok (.iload_n 3, 1) := by decide +kernel
theorem md_M_wall_34 : decode mb_M_wall 34 = .ok (.bipush 9, 2) := by decide +kernel
theorem md_M_wall_36 : decode mb_M_wall 36 = .ok (.if_icmp .ge 45, 3) := by decide +kernel
theorem md_M_wall_39 : decode mb_M_wall 39 = .ok (.iconst 0, 1) := by decide +kernel
theorem md_M_wall_40 : decode mb_M_wall 40 = .ok (.istore 4, 2) := by decide +kernel
theorem md_M_wall_42 : decode mb_M_wall 42 = .ok (.iload 4, 2) := by decide +kernel
theorem md_M_wall_44 : decode mb_M_wall 44 = .ok (.iconst 4, 1) := by decide +kernel
theorem md_M_wall_45 : decode mb_M_wall 45 = .ok (.if_icmp .ge 30, 3) := by decide +kernel
theorem md_M_wall_48 : decode mb_M_wall 48 = .ok (.aload_n 0, 1) := by decide +kernel
theorem md_M_wall_49 : decode mb_M_wall 49 = .ok (.iload 4, 2) := by decide +kernel
theorem md_M_wall_51 : decode mb_M_wall 51 = .ok (.iload_n 3, 1) := by decide +kernel
theorem md_M_wall_52 : decode mb_M_wall 52 = .ok (.iconst 0, 1) := by decide +kernel
theorem md_M_wall_53 : decode mb_M_wall 53 = .ok (.invokevirtual 149, 3) := by decide +kernel
theorem md_M_wall_56 : decode mb_M_wall 56 = .ok (.ldc2_w 155, 3) := by decide +kernel
theorem md_M_wall_59 : decode mb_M_wall 59 = .ok (.lload_n 1, 1) := by decide +kernel
theorem md_M_wall_60 : decode mb_M_wall 60 = .ok (.lmul, 1) := by decide +kernel
theorem md_M_wall_61 : decode mb_M_wall 61 = .ok (.lcmp, 1) := by decide +kernel
theorem md_M_wall_62 : decode mb_M_wall 62 = .ok (.ifCond .ge 7, 3) := by decide +kernel
theorem md_M_wall_65 : decode mb_M_wall 65 = .ok (.iload_n 3, 1) := by decide +kernel
theorem md_M_wall_66 : decode mb_M_wall 66 = .ok (.iconst 1, 1) := by decide +kernel
theorem md_M_wall_67 : decode mb_M_wall 67 = .ok (.isub, 1) := by decide +kernel
theorem md_M_wall_68 : decode mb_M_wall 68 = .ok (.ireturn, 1) := by decide +kernel
theorem md_M_wall_69 : decode mb_M_wall 69 = .ok (.iinc 4 1, 3) := by decide +kernel
theorem md_M_wall_72 : decode mb_M_wall 72 = .ok (.goto (-30), 3) := by decide +kernel
theorem md_M_wall_75 : decode mb_M_wall 75 = .ok (.iinc 3 1, 3) := by decide +kernel
theorem md_M_wall_78 : decode mb_M_wall 78 = .ok (.goto (-45), 3) := by decide +kernel
theorem md_M_wall_81 : decode mb_M_wall 81 = .ok (.bipush 8, 2) := by decide +kernel
theorem md_M_wall_83 : decode mb_M_wall 83 = .ok (.ireturn, 1) := by decide +kernel
theorem md_M_rows32_0 : decode mb_M_rows32 0 = .ok (.aload_n 0, 1) := by decide +kernel
theorem md_M_rows32_1 : decode mb_M_rows32 1 = .ok (.lload_n 1, 1) := by decide +kernel
theorem md_M_rows32_2 : decode mb_M_rows32 2 = .ok (.lconst 1, 1) := by decide +kernel
theorem md_M_rows32_3 : decode mb_M_rows32 3 = .ok (.ldc2_w 144, 3) := by decide +kernel
theorem md_M_rows32_6 : decode mb_M_rows32 6 = .ok (.invokestatic 91, 3) := by decide +kernel
theorem md_M_rows32_9 : decode mb_M_rows32 9 = .ok (.ifCond .eq 12, 3) := by decide +kernel
theorem md_M_rows32_12 : decode mb_M_rows32 12 = .ok (.iload_n 3, 1) := by decide +kernel
theorem md_M_rows32_13 : decode mb_M_rows32 13 = .ok (.iconst (-1), 1) := by decide +kernel
theorem md_M_rows32_14 : decode mb_M_rows32 14 = .ok (.if_icmp .lt 7, 3) := by decide +kernel
theorem md_M_rows32_17 : decode mb_M_rows32 17 = .ok (.iconst 0, 1) := by decide +kernel
theorem md_M_rows32_18 : decode mb_M_rows32 18 = .ok (.goto 4, 3) := by decide +kernel
theorem md_M_rows32_21 : decode mb_M_rows32 21 = .ok (.iconst 1, 1) := by decide +kernel
theorem md_M_rows32_22 : decode mb_M_rows32 22 = .ok (.putfield 61, 3) := by decide +kernel
theorem md_M_rows32_25 : decode mb_M_rows32 25 = .ok (.aload_n 0, 1) := by decide +kernel
theorem md_M_rows32_26 : decode mb_M_rows32 26 = .ok (.getfield 61, 3) := by decide +kernel
theorem md_M_rows32_29 : decode mb_M_rows32 29 = .ok (.ifCond .le 5, 3) := by decide +kernel
theorem md_M_rows32_32 : decode mb_M_rows32 32 = .ok (.iconst 0, 1) := by decide +kernel
theorem md_M_rows32_33 : decode mb_M_rows32 33 = .ok (.ireturn, 1) := by decide +kernel
theorem md_M_rows32_34 : decode mb_M_rows32 34 = .ok (.iconst 0, 1) := by decide +kernel
theorem md_M_rows32_35 : decode mb_M_rows32 35 = .ok (.istore 4, 2) := by decide +kernel
theorem md_M_rows32_37 : decode mb_M_rows32 37 = .ok (.ldc2_w 157, 3) := by decide +kernel
theorem md_M_rows32_40 : decode mb_M_rows32 40 = .ok (.ldc2_w 159, 3) := by decide +kernel
theorem md_M_rows32_43 : decode mb_M_rows32 43 = .ok (.iload 4, 2) := by decide +kernel
theorem md_M_rows32_45 : decode mb_M_rows32 45 = .ok (.i2l, 1) := by decide +kernel
theorem md_M_rows32_46 : decode mb_M_rows32 46 = .ok (.lmul, 1) := by decide +kernel
theorem md_M_rows32_47 : decode mb_M_rows32 47 = .ok (.ladd, 1) := by decide +kernel
theorem md_M_rows32_48 : decode mb_M_rows32 48 = .ok (.lload_n 1, 1) := by decide +kernel
theorem md_M_rows32_49 : decode mb_M_rows32 49 = .ok (.ldc2_w 157, 3) := by decide +kernel
theorem md_M_rows32_52 : decode mb_M_rows32 52 = .ok (.lsub, 1) := by decide +kernel
theorem md_M_rows32_53 : decode mb_M_rows32 53 = .ok (.lcmp, 1) := by decide +kernel
theorem md_M_rows32_54 : decode mb_M_rows32 54 = .ok (.ifCond .gt 9, 3) := by decide +kernel
theorem md_M_rows32_57 : decode mb_M_rows32 57 = .ok (.iinc 4 1, 3) := by decide +kernel
theorem md_M_rows32_60 : decode mb_M_rows32 60 = .ok (.goto (-23), 3) := by decide +kernel
theorem md_M_rows32_63 : decode mb_M_rows32 63 = .ok (.iload_n 3, 1) := by decide +kernel
theorem md_M_rows32_64 : decode mb_M_rows32 64 = .ok (.iconst (-1), 1) := by decide +kernel
theorem md_M_rows32_65 : decode mb_M_rows32 65 = .ok (.if_icmp .ne 8, 3) := by decide +kernel
theorem md_M_rows32_68 : decode mb_M_rows32 68 = .ok (.iload 4, 2) := by decide +kernel
theorem md_M_rows32_70 : decode mb_M_rows32 70 = .ok (.goto 20, 3) := by decide +kernel
theorem md_M_rows32_73 : decode mb_M_rows32 73 = .ok (.iload_n 3, 1) := by decide +kernel
theorem md_M_rows32_74 : decode mb_M_rows32 74 = .ok (.iload 4, 2) := by decide +kernel
theorem md_M_rows32_76 : decode mb_M_rows32 76 = .ok (.if_icmp .ge 13, 3) := by decide +kernel
theorem md_M_rows32_79 : decode mb_M_rows32 79 = .ok (.bipush 37, 2) := by decide +kernel
theorem md_M_rows32_81 : decode mb_M_rows32 81 = .ok (.bipush 32, 2) := by decide +kernel
theorem md_M_rows32_83 : decode mb_M_rows32 83 = .ok (.iload_n 3, 1) := by decide +kernel
theorem md_M_rows32_84 : decode mb_M_rows32 84 = .ok (.imul, 1) := by decide +kernel
theorem md_M_rows32_85 : decode mb_M_rows32 85 = .ok (.iadd, 1) := by decide +kernel
theorem md_M_rows32_86 : decode mb_M_rows32 86 = .ok (.goto 4, 3) := by decide +kernel
theorem md_M_rows32_89 : decode mb_M_rows32 89 = .ok (.iconst (-1), 1) := by decide +kernel
theorem md_M_rows32_90 : decode mb_M_rows32 90 = .ok (.ireturn, 1) := by decide +kernel
end
section
section GWA
variable {R : Room} {s : State} {args : Array Value} {own C : String} {index maxL mc ms n : Nat} {y : MethodName} {bytes : ByteArray} {ret : Option FieldType} {rm : Room}
theorem gw_pay (hg : ∀ w ∈ gw_l, w.before args s = true) (hc : Cond.code y bytes maxL ret ∈ gw_l) : ∀ w ∈ (Cond.code y bytes maxL ret :: gw_l), ∀ (a' : Array Value) (U : State), s.WarmedH U.vm → w.before a' U = true := by
  intro w hw a' U hW
  have h1 : w ∈ gw_l := by
    rcases List.mem_cons.mp hw with h | h
    · rw [h]; exact hc
    · exact h
  exact word_at hW (good_of_word (List.mem_filter.mp h1).2) (hg w h1)
abbrev gw_D (y : MethodName) (n : Nat) : Prop := y.cls ≠ "java/lang/invoke/MethodHandle" ∧ y.cls ≠ "java/lang/invoke/VarHandle" ∧ (parseMethodDescriptor y.desc).map (fun d => d.parameters.length) = some n
theorem gw_len (h : gw_D y n) : ∀ sig, parseMethodDescriptor y.desc = some sig → n = sig.parameters.length := fun sig hs => by
  have h2 := h.2.2
  rw [hs] at h2
  exact (Option.some.inj h2).symm
/-- an instance method: its words -/
abbrev gw_V (y : MethodName) (bytes : ByteArray) (maxL : Nat) (ret : Option FieldType) (n : Nat) : Prop := Cond.instanceMethod y ∈ gw_l ∧ Cond.selects y.cls y y ∈ gw_l ∧ Cond.initialized y.cls ∈ gw_l ∧ Cond.code y bytes maxL ret ∈ gw_l ∧ gw_D y n
abbrev gw_S (y : MethodName) (bytes : ByteArray) (maxL : Nat) (ret : Option FieldType) (n : Nat) : Prop := Cond.static y ∈ gw_l ∧ Cond.initialized y.cls ∈ gw_l ∧ Cond.code y bytes maxL ret ∈ gw_l ∧ gw_D y n
abbrev gw_I (y : MethodName) (bytes : ByteArray) (maxL : Nat) (n : Nat) : Prop := Cond.instanceMethod y ∈ gw_l ∧ Cond.initialized y.cls ∈ gw_l ∧ Cond.code y bytes maxL none ∈ gw_l ∧ y.name = "<init>" ∧ gw_D y n
theorem gw_cwV (hg : ∀ w ∈ gw_l, w.before args s = true) (hl : Cond.methodLink own index y ∈ gw_l) (hv : gw_V y bytes maxL ret n) (hrc : rm.cells = mc) (hrs : rm.slots = ms) (hR : rm.frames + 1 ≤ R.frames ∧ 8 + (maxL + 11) + rm.locals ≤ R.locals) :
    CallW R s args own y.cls index y bytes maxL ret (Cond.code y bytes maxL ret :: gw_l) rm mc ms n :=
  ⟨⟨hrc, hrs, hR.1, hR.2, gw_pay hg hv.2.2.2.1, List.mem_cons_self, hg _ hv.2.2.2.1, hg _ hv.2.2.1, ⟨hv.2.2.2.2.1, hv.2.2.2.2.2.1⟩, gw_len hv.2.2.2.2, hg _ hl⟩, hg _ hv.1, hg _ hv.2.1⟩
theorem gw_cwS (hg : ∀ w ∈ gw_l, w.before args s = true) (hl : Cond.methodLink own index y ∈ gw_l) (hv : gw_S y bytes maxL ret n) (hrc : rm.cells = mc) (hrs : rm.slots = ms) (hR : rm.frames + 1 ≤ R.frames ∧ 8 + (maxL + 11) + rm.locals ≤ R.locals) :
    CallB R s args own index y bytes maxL ret (Cond.code y bytes maxL ret :: gw_l) rm mc ms n ∧ (Cond.static y).before args s = true :=
  ⟨⟨hrc, hrs, hR.1, hR.2, gw_pay hg hv.2.2.1, List.mem_cons_self, hg _ hv.2.2.1, hg _ hv.2.1, ⟨hv.2.2.2.1, hv.2.2.2.2.1⟩, gw_len hv.2.2.2, hg _ hl⟩, hg _ hv.1⟩
theorem gw_cwI (hg : ∀ w ∈ gw_l, w.before args s = true) (hl : Cond.methodLink own index y ∈ gw_l) (hv : gw_I y bytes maxL n) (hrc : rm.cells = mc) (hrs : rm.slots = ms) (hR : rm.frames + 1 ≤ R.frames ∧ 8 + (maxL + 11) + rm.locals ≤ R.locals) :
    CallB R s args own index y bytes maxL none (Cond.code y bytes maxL none :: gw_l) rm mc ms n ∧ y.name = "<init>" ∧ (Cond.instanceMethod y).before args s = true :=
  ⟨⟨hrc, hrs, hR.1, hR.2, gw_pay hg hv.2.2.1, List.mem_cons_self, hg _ hv.2.2.1, hg _ hv.2.1, ⟨hv.2.2.2.2.1, hv.2.2.2.2.2.1⟩, gw_len hv.2.2.2.2, hg _ hl⟩, hv.2.2.2.1, hg _ hv.1⟩
/-- nest mates: the link stands in the state, not among the good words -/
theorem gw_cnS {host : String} (hg : ∀ w ∈ gw_l, w.before args s = true) (hl : va_Nw (.methodLinkNest own index y host) s) (hv : gw_S y bytes maxL ret n) (hrc : rm.cells = mc) (hrs : rm.slots = ms) (hR : rm.frames + 1 ≤ R.frames ∧ 8 + (maxL + 11) + rm.locals ≤ R.locals) :
    va_CN R s args own index y host bytes maxL ret (Cond.code y bytes maxL ret :: gw_l) rm mc ms n ∧ (Cond.static y).before args s = true ∧ True :=
  ⟨⟨⟨hrc, hrs, hR.1, hR.2, gw_pay hg hv.2.2.1, List.mem_cons_self⟩, hg _ hv.2.2.1, hg _ hv.2.1, ⟨hv.2.2.2.1, hv.2.2.2.2.1⟩, gw_len hv.2.2.2, va_Nw.use rfl hl⟩, hg _ hv.1, trivial⟩
theorem gw_cnI {host : String} (hg : ∀ w ∈ gw_l, w.before args s = true) (hl : va_Nw (.methodLinkNest own index y host) s) (hv : gw_I y bytes maxL n) (hrc : rm.cells = mc) (hrs : rm.slots = ms) (hR : rm.frames + 1 ≤ R.frames ∧ 8 + (maxL + 11) + rm.locals ≤ R.locals) :
    va_CN R s args own index y host bytes maxL none (Cond.code y bytes maxL none :: gw_l) rm mc ms n ∧ y.name = "<init>" ∧ (Cond.instanceMethod y).before args s = true :=
  ⟨⟨⟨hrc, hrs, hR.1, hR.2, gw_pay hg hv.2.2.1, List.mem_cons_self⟩, hg _ hv.2.2.1, hg _ hv.2.1, ⟨hv.2.2.2.2.1, hv.2.2.2.2.2.1⟩, gw_len hv.2.2.2.2, va_Nw.use rfl hl⟩, hv.2.2.2.1, hg _ hv.1⟩
end GWA

theorem gu_D : ∀ w ∈ u_ws mR_D mT_D 4, w ∈ gw_l := by
  have e : u_ws mR_D mT_D 4 = [Cond.lays "HingeTables$Door" "HingeTables$Door" "width" "J", Cond.lays "HingeTables$Door" "HingeTables$Door" "height" "J", Cond.lays "HingeTables$Door" "HingeTables$Door" "thickness" "J", Cond.lays "HingeTables$Door" "HingeTables$Door" "heaviness" "J"] := by decide +kernel
  rw [e]
  intro w hw
  simp only [List.mem_cons, List.not_mem_nil, or_false] at hw
  rcases hw with rfl | rfl | rfl | rfl
  · exact wd_51
  · exact wd_53
  · exact wd_55
  · exact wd_57
theorem gu_H : ∀ w ∈ u_ws mR_H mT_H 3, w ∈ gw_l := by
  have e : u_ws mR_H mT_H 3 = [Cond.laysFinal "HingeTables$Holes" "HingeTables$Holes" "xs" "[I", Cond.laysFinal "HingeTables$Holes" "HingeTables$Holes" "ys" "[I", Cond.laysFinal "HingeTables$Holes" "HingeTables$Holes" "radii" "[I"] := by decide +kernel
  rw [e]
  intro w hw
  simp only [List.mem_cons, List.not_mem_nil, or_false] at hw
  rcases hw with rfl | rfl | rfl
  · exact wd_69
  · exact wd_71
  · exact wd_73
theorem gu_T : ∀ w ∈ u_ws mR_T mT_T 4, w ∈ gw_l := by
  have e : u_ws mR_T mT_T 4 = [Cond.laysFinal "HingeTables$Table" "HingeTables$Table" "letters" "[C", Cond.laysFinal "HingeTables$Table" "HingeTables$Table" "numbers" "[I", Cond.laysFinal "HingeTables$Table" "HingeTables$Table" "stocks" "[I", Cond.lays "HingeTables$Table" "HingeTables$Table" "size" "I"] := by decide +kernel
  rw [e]
  intro w hw
  simp only [List.mem_cons, List.not_mem_nil, or_false] at hw
  rcases hw with rfl | rfl | rfl | rfl
  · exact wd_88
  · exact wd_90
  · exact wd_92
  · exact wd_94
theorem gu_S : ∀ w ∈ u_ws mR_S mT_S 2, w ∈ gw_l := by
  have e : u_ws mR_S mT_S 2 = [Cond.laysFinal "HingeTables$Text" "HingeTables$Text" "characters" "[C", Cond.lays "HingeTables$Text" "HingeTables$Text" "length" "I"] := by decide +kernel
  rw [e]
  intro w hw
  simp only [List.mem_cons, List.not_mem_nil, or_false] at hw
  rcases hw with rfl | rfl
  · exact wd_30
  · exact wd_32
theorem gu_K : ∀ w ∈ u_ws mR_K mT_K 5, w ∈ gw_l := by
  have e : u_ws mR_K mT_K 5 = [Cond.laysFinal "HingeTables" "HingeTables" "text" "LHingeTables$Text;", Cond.laysFinal "HingeTables" "HingeTables" "ownDoor" "LHingeTables$Door;", Cond.laysFinal "HingeTables" "HingeTables" "holes" "LHingeTables$Holes;", Cond.lays "HingeTables" "HingeTables" "table" "LHingeTables$Table;", Cond.lays "HingeTables" "HingeTables" "spare" "LHingeTables$Table;"] := by decide +kernel
  rw [e]
  intro w hw
  simp only [List.mem_cons, List.not_mem_nil, or_false] at hw
  rcases hw with rfl | rfl | rfl | rfl | rfl
  · exact wd_102
  · exact wd_104
  · exact wd_106
  · exact wd_108
  · exact wd_110
theorem gu_M : ∀ w ∈ u_ws mR_M mT_M 18, w ∈ gw_l := by
  have e : u_ws mR_M mT_M 18 = [Cond.lays "HingeTablesModel" "HingeTablesModel" "code" "I", Cond.laysFinal "HingeTablesModel" "HingeTablesModel" "typed" "[I", Cond.lays "HingeTablesModel" "HingeTablesModel" "size" "I", Cond.lays "HingeTablesModel" "HingeTablesModel" "at" "I", Cond.lays "HingeTablesModel" "HingeTablesModel" "failed" "I", Cond.lays "HingeTablesModel" "HingeTablesModel" "rows" "I", Cond.laysFinal "HingeTablesModel" "HingeTablesModel" "told" "[I", Cond.laysFinal "HingeTablesModel" "HingeTablesModel" "draft" "[I", Cond.laysFinal "HingeTablesModel" "HingeTablesModel" "stocks" "[I", Cond.lays "HingeTablesModel" "HingeTablesModel" "width" "J", Cond.lays "HingeTablesModel" "HingeTablesModel" "height" "J", Cond.lays "HingeTablesModel" "HingeTablesModel" "thick" "J", Cond.lays "HingeTablesModel" "HingeTablesModel" "density" "J", Cond.laysFinal "HingeTablesModel" "HingeTablesModel" "xs" "[J", Cond.laysFinal "HingeTablesModel" "HingeTablesModel" "ys" "[J", Cond.laysFinal "HingeTablesModel" "HingeTablesModel" "radii" "[J", Cond.laysFinal "HingeTablesModel" "HingeTablesModel" "cosines" "[I", Cond.laysFinal "HingeTablesModel" "HingeTablesModel" "sines" "[I"] := by decide +kernel
  rw [e]
  intro w hw
  simp only [List.mem_cons, List.not_mem_nil, or_false] at hw
  rcases hw with rfl | rfl | rfl | rfl | rfl | rfl | rfl | rfl | rfl | rfl | rfl | rfl | rfl | rfl | rfl | rfl | rfl | rfl
  · exact wd_550
  · exact wd_552
  · exact wd_554
  · exact wd_556
  · exact wd_558
  · exact wd_560
  · exact wd_562
  · exact wd_564
  · exact wd_566
  · exact wd_568
  · exact wd_570
  · exact wd_572
  · exact wd_574
  · exact wd_576
  · exact wd_578
  · exact wd_580
  · exact wd_582
  · exact wd_584
theorem mv_K_init : gw_I my_K_init mb_K_init 1 0 := ⟨wd_17, wd_1, wd_18, rfl, by decide +kernel⟩
theorem mv_S_init : gw_I my_S_init mb_S_init 1 0 := ⟨wd_25, wd_2, wd_26, rfl, by decide +kernel⟩
theorem mv_D_init : gw_I my_D_init mb_D_init 1 0 := ⟨wd_39, wd_3, wd_40, rfl, by decide +kernel⟩
theorem mv_H_init : gw_I my_H_init mb_H_init 1 0 := ⟨wd_63, wd_4, wd_64, rfl, by decide +kernel⟩
theorem mv_T_init : gw_I my_T_init mb_T_init 1 0 := ⟨wd_80, wd_5, wd_81, rfl, by decide +kernel⟩
theorem mv_K_unit : gw_V my_K_unit mb_K_unit 2 (some .boolean) 1 := ⟨wd_114, wd_115, wd_1, wd_116, by decide +kernel⟩
theorem mv_S_add : gw_V my_S_add mb_S_add 2 (some .boolean) 1 := ⟨wd_118, wd_119, wd_2, wd_120, by decide +kernel⟩
theorem mv_K_read : gw_V my_K_read mb_K_read 3 (some .int) 0 := ⟨wd_122, wd_123, wd_1, wd_124, by decide +kernel⟩
theorem mv_T_fill : gw_V my_T_fill mb_T_fill 4 (some .int) 1 := ⟨wd_126, wd_127, wd_5, wd_128, by decide +kernel⟩
theorem mv_S_endsAt : gw_V my_S_endsAt mb_S_endsAt 2 (some .boolean) 1 := ⟨wd_130, wd_131, wd_2, wd_132, by decide +kernel⟩
theorem mv_T_finish : gw_V my_T_finish mb_T_finish 3 (some .int) 1 := ⟨wd_135, gw_p 0 (by decide +kernel) rfl, wd_5, wd_136, by decide +kernel⟩
theorem mv_S_at : gw_V my_S_at mb_S_at 2 (some .char) 1 := ⟨wd_138, wd_139, wd_2, wd_140, by decide +kernel⟩
theorem mv_T_fault : gw_S my_T_fault mb_T_fault 1 (some .int) 1 := ⟨wd_142, wd_5, wd_143, by decide +kernel⟩
theorem mv_T_fillRow : gw_V my_T_fillRow mb_T_fillRow 8 (some .int) 3 := ⟨wd_146, gw_p 1 (by decide +kernel) rfl, wd_5, wd_147, by decide +kernel⟩
theorem mv_K_numbersBehind : gw_S my_K_numbersBehind mb_K_numbersBehind 1 (some .int) 1 := ⟨wd_149, wd_1, wd_150, by decide +kernel⟩
theorem mv_T_fillNumber : gw_V my_T_fillNumber mb_T_fillNumber 8 (some .int) 4 := ⟨wd_153, gw_p 2 (by decide +kernel) rfl, wd_5, wd_154, by decide +kernel⟩
theorem mv_T_isDigit : gw_S my_T_isDigit mb_T_isDigit 1 (some .boolean) 1 := ⟨wd_156, wd_5, wd_157, by decide +kernel⟩
theorem mv_T_mayStand : gw_V my_T_mayStand mb_T_mayStand 4 (some .boolean) 3 := ⟨wd_160, gw_p 3 (by decide +kernel) rfl, wd_5, wd_161, by decide +kernel⟩
theorem mv_T_number : gw_V my_T_number mb_T_number 3 (some .int) 2 := ⟨wd_163, wd_164, wd_5, wd_165, by decide +kernel⟩
theorem mv_S_clear : gw_V my_S_clear mb_S_clear 1 none 0 := ⟨wd_167, wd_168, wd_2, wd_169, by decide +kernel⟩
theorem mv_K_row : gw_V my_K_row mb_K_row 3 (some .int) 2 := ⟨wd_176, wd_177, wd_1, wd_178, by decide +kernel⟩
theorem mv_K_needTable : gw_V my_K_needTable mb_K_needTable 1 none 0 := ⟨wd_181, gw_p 4 (by decide +kernel) rfl, wd_1, wd_182, by decide +kernel⟩
theorem mv_K_needRow : gw_V my_K_needRow mb_K_needRow 2 none 1 := ⟨wd_253, gw_p 6 (by decide +kernel) rfl, wd_1, wd_254, by decide +kernel⟩
theorem mv_T_letter : gw_V my_T_letter mb_T_letter 2 (some .char) 1 := ⟨wd_272, wd_273, wd_5, wd_274, by decide +kernel⟩
theorem mv_K_stock : gw_V my_K_stock mb_K_stock 3 (some .boolean) 2 := ⟨wd_283, wd_284, wd_1, wd_285, by decide +kernel⟩
theorem mv_T_changeStock : gw_V my_T_changeStock mb_T_changeStock 4 (some .boolean) 2 := ⟨wd_303, wd_304, wd_5, wd_305, by decide +kernel⟩
theorem mv_K_hinge : gw_V my_K_hinge mb_K_hinge 6 (some .int) 3 := ⟨wd_310, wd_311, wd_1, wd_312, by decide +kernel⟩
theorem mv_T_firstHinge : gw_V my_T_firstHinge mb_T_firstHinge 7 (some .int) 3 := ⟨wd_314, wd_315, wd_5, wd_316, by decide +kernel⟩
theorem mv_T_isStocked : gw_V my_T_isStocked mb_T_isStocked 3 (some .boolean) 2 := ⟨wd_319, gw_p 7 (by decide +kernel) rfl, wd_5, wd_320, by decide +kernel⟩
theorem mv_T_holds : gw_V my_T_holds mb_T_holds 7 (some .boolean) 4 := ⟨wd_323, gw_p 8 (by decide +kernel) rfl, wd_5, wd_324, by decide +kernel⟩
theorem mv_K_other : gw_V my_K_other mb_K_other 3 (some .int) 2 := ⟨wd_329, wd_330, wd_1, wd_331, by decide +kernel⟩
theorem mv_T_otherHinge : gw_V my_T_otherHinge mb_T_otherHinge 5 (some .int) 2 := ⟨wd_335, wd_336, wd_5, wd_337, by decide +kernel⟩
theorem mv_T_canReplace : gw_V my_T_canReplace mb_T_canReplace 3 (some .boolean) 2 := ⟨wd_340, gw_p 9 (by decide +kernel) rfl, wd_5, wd_341, by decide +kernel⟩
theorem mv_K_slide : gw_V my_K_slide mb_K_slide 3 (some .int) 1 := ⟨wd_346, wd_347, wd_1, wd_348, by decide +kernel⟩
theorem mv_T_longestSlide : gw_V my_T_longestSlide mb_T_longestSlide 5 (some .int) 1 := ⟨wd_350, wd_351, wd_5, wd_352, by decide +kernel⟩
theorem mv_K_door : gw_V my_K_door mb_K_door 9 (some .boolean) 4 := ⟨wd_357, wd_358, wd_1, wd_359, by decide +kernel⟩
theorem mv_K_isOfDoor : gw_S my_K_isOfDoor mb_K_isOfDoor 2 (some .boolean) 1 := ⟨wd_361, wd_1, wd_362, by decide +kernel⟩
theorem mv_K_isWithin : gw_S my_K_isWithin mb_K_isWithin 4 (some .boolean) 3 := ⟨wd_364, wd_1, wd_365, by decide +kernel⟩
theorem mv_D_change : gw_V my_D_change mb_D_change 10 (some .boolean) 4 := ⟨wd_368, wd_369, wd_3, wd_370, by decide +kernel⟩
theorem mv_K_weight : gw_V my_K_weight mb_K_weight 2 (some .long) 1 := ⟨wd_375, wd_376, wd_1, wd_377, by decide +kernel⟩
theorem mv_K_needPart : gw_S my_K_needPart mb_K_needPart 1 none 1 := ⟨wd_379, wd_1, wd_380, by decide +kernel⟩
theorem mv_D_millionWeights : gw_V my_D_millionWeights mb_D_millionWeights 1 (some .long) 0 := ⟨wd_383, wd_384, wd_3, wd_385, by decide +kernel⟩
theorem mv_K_partOfFraction : gw_S my_K_partOfFraction mb_K_partOfFraction 9 (some .long) 3 := ⟨wd_388, wd_1, wd_389, by decide +kernel⟩
theorem mv_K_commonDivisor : gw_S my_K_commonDivisor mb_K_commonDivisor 11 (some .long) 2 := ⟨wd_391, wd_1, wd_392, by decide +kernel⟩
theorem mv_K_count : gw_V my_K_count mb_K_count 1 (some .int) 0 := ⟨wd_397, wd_398, wd_1, wd_399, by decide +kernel⟩
theorem mv_T_hingesOf : gw_V my_T_hingesOf mb_T_hingesOf 3 (some .int) 1 := ⟨wd_401, wd_402, wd_5, wd_403, by decide +kernel⟩
theorem mv_K_place : gw_V my_K_place mb_K_place 4 (some .long) 2 := ⟨wd_411, wd_412, wd_1, wd_413, by decide +kernel⟩
theorem mv_D_placeNumerator : gw_V my_D_placeNumerator mb_D_placeNumerator 5 (some .long) 2 := ⟨wd_418, wd_419, wd_3, wd_420, by decide +kernel⟩
theorem mv_K_hole : gw_V my_K_hole mb_K_hole 8 (some .boolean) 4 := ⟨wd_432, wd_433, wd_1, wd_434, by decide +kernel⟩
theorem mv_K_needHole : gw_S my_K_needHole mb_K_needHole 1 none 1 := ⟨wd_436, wd_1, wd_437, by decide +kernel⟩
theorem mv_H_change : gw_V my_H_change mb_H_change 11 (some .boolean) 4 := ⟨wd_443, wd_444, wd_4, wd_445, by decide +kernel⟩
theorem mv_K_meet : gw_V my_K_meet mb_K_meet 3 (some .boolean) 2 := ⟨wd_450, wd_451, wd_1, wd_452, by decide +kernel⟩
theorem mv_H_overlap : gw_V my_H_overlap mb_H_overlap 9 (some .boolean) 2 := ⟨wd_454, wd_455, wd_4, wd_456, by decide +kernel⟩
theorem mv_K_pair : gw_V my_K_pair mb_K_pair 2 (some .int) 1 := ⟨wd_461, wd_462, wd_1, wd_463, by decide +kernel⟩
theorem mv_H_overlappingPair : gw_V my_H_overlappingPair mb_H_overlappingPair 5 (some .int) 1 := ⟨wd_465, wd_466, wd_4, wd_467, by decide +kernel⟩
theorem mv_K_wall : gw_V my_K_wall mb_K_wall 4 (some .int) 1 := ⟨wd_473, wd_474, wd_1, wd_475, by decide +kernel⟩
theorem mv_D_leastX : gw_V my_D_leastX mb_D_leastX 5 (some .long) 1 := ⟨wd_478, wd_479, wd_3, wd_480, by decide +kernel⟩
theorem mv_D_turnedX : gw_V my_D_turnedX mb_D_turnedX 3 (some .long) 2 := ⟨wd_482, wd_483, wd_3, wd_484, by decide +kernel⟩
theorem mv_D_shutX : gw_V my_D_shutX mb_D_shutX 2 (some .long) 1 := ⟨wd_487, gw_p 10 (by decide +kernel) rfl, wd_3, wd_488, by decide +kernel⟩
theorem mv_D_shutY : gw_V my_D_shutY mb_D_shutY 2 (some .long) 1 := ⟨wd_493, gw_p 11 (by decide +kernel) rfl, wd_3, wd_494, by decide +kernel⟩
theorem mv_K_corner : gw_V my_K_corner mb_K_corner 4 (some .long) 3 := ⟨wd_502, wd_503, wd_1, wd_504, by decide +kernel⟩
theorem mv_D_turnedY : gw_V my_D_turnedY mb_D_turnedY 3 (some .long) 2 := ⟨wd_508, wd_509, wd_3, wd_510, by decide +kernel⟩
theorem mv_K_rows32 : gw_V my_K_rows32 mb_K_rows32 6 (some .int) 2 := ⟨wd_515, wd_516, wd_1, wd_517, by decide +kernel⟩
theorem mv_M_init : gw_I my_M_init mb_M_init 2 0 := ⟨wd_522, wd_6, wd_523, rfl, by decide +kernel⟩
theorem mv_M_turn : gw_V my_M_turn mb_M_turn 4 none 3 := ⟨wd_530, gw_p 12 (by decide +kernel) rfl, wd_6, wd_531, by decide +kernel⟩
theorem mv_M_unit : gw_V my_M_unit mb_M_unit 3 (some .boolean) 1 := ⟨wd_589, wd_590, wd_6, wd_591, by decide +kernel⟩
theorem mv_M_read : gw_V my_M_read mb_M_read 3 (some .int) 0 := ⟨wd_593, wd_594, wd_6, wd_595, by decide +kernel⟩
theorem mv_M_readRow : gw_V my_M_readRow mb_M_readRow 8 none 1 := ⟨wd_598, gw_p 13 (by decide +kernel) rfl, wd_6, wd_599, by decide +kernel⟩
theorem mv_M_here : gw_V my_M_here mb_M_here 1 (some .int) 0 := ⟨wd_602, gw_p 14 (by decide +kernel) rfl, wd_6, wd_603, by decide +kernel⟩
theorem mv_M_sizeOf : gw_S my_M_sizeOf mb_M_sizeOf 1 (some .int) 1 := ⟨wd_605, wd_6, wd_606, by decide +kernel⟩
theorem mv_M_failAt : gw_V my_M_failAt mb_M_failAt 2 none 1 := ⟨wd_609, gw_p 15 (by decide +kernel) rfl, wd_6, wd_610, by decide +kernel⟩
theorem mv_M_readNumber : gw_V my_M_readNumber mb_M_readNumber 3 (some .int) 0 := ⟨wd_613, gw_p 16 (by decide +kernel) rfl, wd_6, wd_614, by decide +kernel⟩
theorem mv_M_isIn : gw_S my_M_isIn mb_M_isIn 6 (some .boolean) 3 := ⟨wd_617, wd_6, wd_618, by decide +kernel⟩
theorem mv_M_row : gw_V my_M_row mb_M_row 3 (some .int) 2 := ⟨wd_620, wd_621, wd_6, wd_622, by decide +kernel⟩
theorem mv_M_rowCode : gw_V my_M_rowCode mb_M_rowCode 2 (some .int) 1 := ⟨wd_625, gw_p 17 (by decide +kernel) rfl, wd_6, wd_626, by decide +kernel⟩
theorem mv_M_stock : gw_V my_M_stock mb_M_stock 3 (some .boolean) 2 := ⟨wd_628, wd_629, wd_6, wd_630, by decide +kernel⟩
theorem mv_M_hinge : gw_V my_M_hinge mb_M_hinge 9 (some .int) 3 := ⟨wd_633, wd_634, wd_6, wd_635, by decide +kernel⟩
theorem mv_M_number : gw_V my_M_number mb_M_number 3 (some .long) 2 := ⟨wd_638, gw_p 18 (by decide +kernel) rfl, wd_6, wd_639, by decide +kernel⟩
theorem mv_M_isThere : gw_V my_M_isThere mb_M_isThere 3 (some .boolean) 2 := ⟨wd_642, gw_p 19 (by decide +kernel) rfl, wd_6, wd_643, by decide +kernel⟩
theorem mv_M_other : gw_V my_M_other mb_M_other 5 (some .int) 2 := ⟨wd_645, wd_646, wd_6, wd_647, by decide +kernel⟩
theorem mv_M_replaces : gw_V my_M_replaces mb_M_replaces 4 (some .boolean) 2 := ⟨wd_650, gw_p 20 (by decide +kernel) rfl, wd_6, wd_651, by decide +kernel⟩
theorem mv_M_slide : gw_V my_M_slide mb_M_slide 6 (some .int) 1 := ⟨wd_653, wd_654, wd_6, wd_655, by decide +kernel⟩
theorem mv_M_door : gw_V my_M_door mb_M_door 9 (some .boolean) 4 := ⟨wd_657, wd_658, wd_6, wd_659, by decide +kernel⟩
theorem mv_M_isSize : gw_S my_M_isSize mb_M_isSize 2 (some .boolean) 1 := ⟨wd_661, wd_6, wd_662, by decide +kernel⟩
theorem mv_M_weight : gw_V my_M_weight mb_M_weight 2 (some .long) 1 := ⟨wd_665, wd_666, wd_6, wd_667, by decide +kernel⟩
theorem mv_M_grams : gw_V my_M_grams mb_M_grams 1 (some .long) 0 := ⟨wd_670, gw_p 21 (by decide +kernel) rfl, wd_6, wd_671, by decide +kernel⟩
theorem mv_M_common : gw_S my_M_common mb_M_common 10 (some .long) 2 := ⟨wd_674, wd_6, wd_675, by decide +kernel⟩
theorem mv_M_count : gw_V my_M_count mb_M_count 1 (some .int) 0 := ⟨wd_677, wd_678, wd_6, wd_679, by decide +kernel⟩
theorem mv_M_hinges : gw_V my_M_hinges mb_M_hinges 4 (some .int) 0 := ⟨wd_682, gw_p 22 (by decide +kernel) rfl, wd_6, wd_683, by decide +kernel⟩
theorem mv_M_place : gw_V my_M_place mb_M_place 12 (some .long) 2 := ⟨wd_685, wd_686, wd_6, wd_687, by decide +kernel⟩
theorem mv_M_hole : gw_V my_M_hole mb_M_hole 9 (some .boolean) 4 := ⟨wd_692, wd_693, wd_6, wd_694, by decide +kernel⟩
theorem mv_M_meet : gw_V my_M_meet mb_M_meet 3 (some .boolean) 2 := ⟨wd_698, wd_699, wd_6, wd_700, by decide +kernel⟩
theorem mv_M_meets : gw_V my_M_meets mb_M_meets 9 (some .boolean) 2 := ⟨wd_703, gw_p 23 (by decide +kernel) rfl, wd_6, wd_704, by decide +kernel⟩
theorem mv_M_pair : gw_V my_M_pair mb_M_pair 5 (some .int) 1 := ⟨wd_706, wd_707, wd_6, wd_708, by decide +kernel⟩
theorem mv_M_corner : gw_V my_M_corner mb_M_corner 4 (some .long) 3 := ⟨wd_710, wd_711, wd_6, wd_712, by decide +kernel⟩
theorem mv_M_placeOf : gw_V my_M_placeOf mb_M_placeOf 8 (some .long) 3 := ⟨wd_715, gw_p 24 (by decide +kernel) rfl, wd_6, wd_716, by decide +kernel⟩
theorem mv_M_wall : gw_V my_M_wall mb_M_wall 5 (some .int) 1 := ⟨wd_718, wd_719, wd_6, wd_720, by decide +kernel⟩
theorem mv_M_rows32 : gw_V my_M_rows32 mb_M_rows32 5 (some .int) 2 := ⟨wd_724, wd_725, wd_6, wd_726, by decide +kernel⟩
end
section
/-! METHODS THAT WRITE INTO CELLS THAT ARE THERE, and make none -/
def mu_A (ws : va_W) : Nat → Prop := fun q => ∃ (k : Nat) (e : va_E), ws[k]? = some (q, e)
def mu_Pc (D : va_G) (cl : List vw_C) (tys : List (ClassId × FieldType)) (ws : va_W) (Ex : State → Prop) (av : List Value) : Array Value → State → Prop := fun v U => v = av.toArray ∧ va_P D cl ws U.heap ∧ va_K D cl tys U ∧ va_D (fun _ => True) ws ∧ Ex U
theorem mu_self {ws : va_W} {A : Nat → Prop} (h : va_D A ws) : va_D (mu_A ws) ws := ⟨h.1, fun k q hk => ⟨k, q.2, hk⟩⟩
theorem mu_D {A : Nat → Prop} {ws ws' : va_W} (h : ws'.map Prod.fst = ws.map Prod.fst) (hD : va_D A ws) : va_D A ws' := by
  have key : ∀ (i : Nat) (q : Nat × va_E), ws'[i]? = some q → ∃ q', ws[i]? = some q' ∧ q'.1 = q.1 := by
    intro i q hq
    have h1 : (ws'.map Prod.fst)[i]? = some q.1 := by rw [List.getElem?_map, hq]; rfl
    rw [h, List.getElem?_map] at h1
    cases h2 : ws[i]? with
    | none => rw [h2] at h1; cases h1
    | some q' =>
      rw [h2] at h1
      exact ⟨q', rfl, Option.some.inj h1⟩
  refine ⟨fun i j p q hp hq hpq => ?_, fun k q hk => ?_⟩
  · obtain ⟨p', hp', ep⟩ := key i p hp
    obtain ⟨q', hq', eq⟩ := key j q hq
    exact hD.1 i j p' q' hp' hq' (by rw [ep, eq, hpq])
  · obtain ⟨q', hq', eq⟩ := key k q hk
    have h9 := hD.2 k q' hq'
    rw [eq] at h9
    exact h9
theorem mu_free {A : Nat → Prop} {ws wc : va_W} (hD : va_D A ws) (isC : List Nat) (hC : isC.map (fun i => ws[i]?) = wc.map some) : ∀ q, mu_A wc q → A q := by
  rintro q ⟨k, e, hk⟩
  have h1 : (wc.map some)[k]? = some (some (q, e)) := by rw [List.getElem?_map, hk]; rfl
  rw [← hC, List.getElem?_map] at h1
  cases h2 : isC[k]? with
  | none => rw [h2] at h1; cases h1
  | some i =>
    rw [h2] at h1
    exact hD.2 i (q, e) (Option.some.inj h1)
def mu_src (w1 ws : va_W) (x : Nat ⊕ Nat) : Option (Nat × va_E) := match x with
  | .inl k => w1[k]?
  | .inr i => ws[i]?
/-- behind a call: what came back, each cell at its place -/
theorem mu_join {A : Nat → Prop} {D : va_G} {cl : List vw_C} {ws wc w1 ws' : va_W} {H H1 : Heap} (hP : va_P D cl ws H) (hD : va_D A ws) (isC : List Nat) (src : List (Nat ⊕ Nat)) (hC : isC.map (fun i => ws[i]?) = wc.map some)
    (hs : src.map (mu_src w1 ws) = ws'.map some) (hdis : src.all (fun x => match x with | .inl _ => true | .inr i => !(isC.contains i)) = true)
    (hk : ∀ q : Nat, q < H.size → ¬ mu_A wc q → H1[q]? = H[q]?) (hP1 : va_P D cl w1 H1) : va_P D cl ws' H1 := by
  intro i q hq
  have h1 : (ws'.map some)[i]? = some (some q) := by rw [List.getElem?_map, hq]; rfl
  rw [← hs, List.getElem?_map] at h1
  cases h2 : src[i]? with
  | none => rw [h2] at h1; cases h1
  | some x =>
    rw [h2] at h1
    have h3 : mu_src w1 ws x = some q := Option.some.inj h1
    cases x with
    | inl k => exact hP1 k q h3
    | inr j =>
      have h4 : ws[j]? = some q := h3
      have h5 : j ∉ isC := by
        have h6 := List.all_eq_true.mp hdis (.inr j) (List.mem_of_getElem? h2)
        simpa using h6
      refine (hP j q h4).kept (hk q.1 (va_at.lt (hP j q h4)) ?_)
      rintro ⟨k, e, hke⟩
      have h7 : (wc.map some)[k]? = some (some (q.1, e)) := by rw [List.getElem?_map, hke]; rfl
      rw [← hC, List.getElem?_map] at h7
      cases h8 : isC[k]? with
      | none => rw [h8] at h7; cases h7
      | some j2 =>
        rw [h8] at h7
        have h9 : ws[j2]? = some (q.1, e) := Option.some.inj h7
        have h10 := hD.1 j j2 q (q.1, e) h4 h9 rfl
        subst h10
        exact h5 (List.mem_of_getElem? h8)
theorem mu_blind {D : va_G} {cl : List vw_C} {tys : List (ClassId × FieldType)} {ws : va_W} {Ex : State → Prop} {av : List Value} (hbl : pu_bl Ex) : FrameBlind (mu_Pc D cl tys ws Ex av) := by
  intro a U g mk q
  obtain ⟨q0, qP, qK, qD, qE⟩ := q
  exact ⟨q0, qP, va_K.moved (u := U) (U := U.calling g mk a) (Vm.Alike.refl U.vm) qK, qD, hbl U (U.calling g mk a) rfl (State.WarmedH.refl U) qE⟩
section MUA
variable {s : State} {H : Heap} {C : String} {b : Addr} {As : List Value} {D : va_G} {cl : List vw_C} {tys : List (ClassId × FieldType)} {wc : va_W} {A : Nat → Prop} {Ex : State → Prop}
theorem mu_preV {ci q0 : Nat} {fs : List Value} {T : u_T} {N : Nat} (hbl : pu_bl Ex) (hK : va_K D cl tys s) (hP : va_P D cl wc H) (hD : va_D A wc) (hE : ∀ U : State, U.heap = H → s.WarmedH U.vm → Ex U) (hc : cl[ci]? = some (C, T, N)) (he : wc[q0]? = some (b, .inr (ci, fs))) : PreV s H C b (mu_Pc D cl tys wc Ex (.ref b :: As)) As :=
  ⟨mu_blind hbl, va_recv hK hP hc he, fun U hU hW => ⟨rfl, by rw [hU]; exact hP, va_K.moved hW.alike hK, hD.weaken (fun _ _ _ _ => trivial), hE U hU hW⟩⟩
theorem mu_preS (hbl : pu_bl Ex) (hK : va_K D cl tys s) (hP : va_P D cl wc H) (hD : va_D A wc) (hE : ∀ U : State, U.heap = H → s.WarmedH U.vm → Ex U) : PreS s H (mu_Pc D cl tys wc Ex As) As :=
  ⟨mu_blind hbl, fun U hU hW => ⟨rfl, by rw [hU]; exact hP, va_K.moved hW.alike hK, hD.weaken (fun _ _ _ _ => trivial), hE U hU hW⟩⟩
/-- nothing old has changed: the world stands -/
theorem tx_P {ws : va_W} {H1 : Heap} (hP : va_P D cl ws H) (hk : ∀ q, q < H.size → H1[q]? = H[q]?) : va_P D cl ws H1 := fun k q h => (hP k q h).kept (hk q.1 (va_at.lt (hP k q h)))
theorem tx_S {H0 H1 : Heap} {locs : List Loc} (hS : va_S A H0 H locs) (hz : H.size ≤ H1.size) (hk : ∀ q, q < H.size → H1[q]? = H[q]?) : va_S A H0 H1 locs :=
  ⟨Nat.le_trans hS.1 hz, fun q h1 h2 => by rw [hk q (Nat.lt_of_lt_of_le h1 hS.1)]; exact hS.2.1 q h1 h2, hS.2.2⟩
end MUA
end
section
def nw_all (U : State) : Prop := va_Nw (.methodLinkNest "HingeTables" 9 my_S_init "HingeTables") U ∧ va_Nw (.methodLinkNest "HingeTables" 18 my_D_init "HingeTables") U ∧ va_Nw (.fieldLinkNest "HingeTables" 135 "HingeTables$Door" "height" "J" "HingeTables") U ∧ va_Nw (.fieldLinkNest "HingeTables$Table" 79 "HingeTables$Door" "height" "J" "HingeTables") U ∧ va_Nw (.methodLinkNest "HingeTables" 25 my_H_init "HingeTables") U ∧ va_Nw (.methodLinkNest "HingeTables" 32 my_T_init "HingeTables") U ∧ va_Nw (.fieldLinkNest "HingeTables" 186 "HingeTables$Table" "size" "I" "HingeTables") U ∧ va_Nw (.methodLinkNest "HingeTables$Table" 47 my_K_numbersBehind "HingeTables") U ∧ va_Nw (.fieldLinkNest "HingeTables$Door" 46 "HingeTables" "COSINES" "[I" "HingeTables") U ∧ va_Nw (.fieldLinkNest "HingeTables$Door" 53 "HingeTables" "SINES" "[I" "HingeTables") U
theorem nw_24 {U : State} (h : nw_all U) : va_Nw (.methodLinkNest "HingeTables" 9 my_S_init "HingeTables") U := h.1
theorem nw_38 {U : State} (h : nw_all U) : va_Nw (.methodLinkNest "HingeTables" 18 my_D_init "HingeTables") U := h.2.1
theorem nw_47 {U : State} (h : nw_all U) : va_Nw (.fieldLinkNest "HingeTables" 135 "HingeTables$Door" "height" "J" "HingeTables") U := h.2.2.1
theorem nw_48 {U : State} (h : nw_all U) : va_Nw (.fieldLinkNest "HingeTables$Table" 79 "HingeTables$Door" "height" "J" "HingeTables") U := h.2.2.2.1
theorem nw_62 {U : State} (h : nw_all U) : va_Nw (.methodLinkNest "HingeTables" 25 my_H_init "HingeTables") U := h.2.2.2.2.1
theorem nw_79 {U : State} (h : nw_all U) : va_Nw (.methodLinkNest "HingeTables" 32 my_T_init "HingeTables") U := h.2.2.2.2.2.1
theorem nw_87 {U : State} (h : nw_all U) : va_Nw (.fieldLinkNest "HingeTables" 186 "HingeTables$Table" "size" "I" "HingeTables") U := h.2.2.2.2.2.2.1
theorem nw_148 {U : State} (h : nw_all U) : va_Nw (.methodLinkNest "HingeTables$Table" 47 my_K_numbersBehind "HingeTables") U := h.2.2.2.2.2.2.2.1
theorem nw_489 {U : State} (h : nw_all U) : va_Nw (.fieldLinkNest "HingeTables$Door" 46 "HingeTables" "COSINES" "[I" "HingeTables") U := h.2.2.2.2.2.2.2.2.1
theorem nw_495 {U : State} (h : nw_all U) : va_Nw (.fieldLinkNest "HingeTables$Door" 53 "HingeTables" "SINES" "[I" "HingeTables") U := h.2.2.2.2.2.2.2.2.2
theorem nw_warm {s U : State} (hW : s.WarmedH U.vm) (h : nw_all s) : nw_all U := ⟨va_Nw.warmM hW (nw_24 h), va_Nw.warmM hW (nw_38 h), va_Nw.warmF hW (nw_47 h), va_Nw.warmF hW (nw_48 h), va_Nw.warmM hW (nw_62 h), va_Nw.warmM hW (nw_79 h), va_Nw.warmF hW (nw_87 h), va_Nw.warmM hW (nw_148 h), va_Nw.warmF hW (nw_489 h), va_Nw.warmF hW (nw_495 h)⟩
theorem nw_all_bl : pu_bl nw_all := fun _ _ _ hW h => nw_warm hW h
def cs_C (j : Nat) : Int32 := [65, 60, 52, 39, 25, 0, -25, -39, -52].getD j 0
def cs_S (j : Nat) : Int32 := [0, 25, 39, 52, 60, 65, 60, 52, 39].getD j 0
/-- the links of nest mates, and the two tables of the turns -/
def am_S (t1 t2 : Nat) (U : State) : Prop := nw_all U ∧ (va_Z "HingeTables" "COSINES" "[I" (.ref t1) (fun _ => False) U U.heap ∧ va_T .int t1 9 (fun j => .int (cs_C j)) (fun _ => False) U U.heap) ∧ (va_Z "HingeTables" "SINES" "[I" (.ref t2) (fun _ => False) U U.heap ∧ va_T .int t2 9 (fun j => .int (cs_S j)) (fun _ => False) U U.heap)
theorem am_S_bl {t1 t2 : Nat} : pu_bl (am_S t1 t2) := by
  intro U V hH hW h
  obtain ⟨h1, ⟨h2, h3⟩, h4, h5⟩ := h
  refine ⟨nw_warm hW h1, ⟨?_, ?_⟩, ?_, ?_⟩
  · rw [hH]; exact va_Z.moved hW.alike h2
  · rw [hH]; exact va_T.moved hW.alike h3
  · rw [hH]; exact va_Z.moved hW.alike h4
  · rw [hH]; exact va_T.moved hW.alike h5
/-- .. and what a throw wants: two statics of Throwable, the texts -/
def am_K (t1 t2 : Nat) (qs : Nat → Nat) (U : State) : Prop := am_S t1 t2 U ∧ (vx_Zq Bundle.tN "UNASSIGNED_STACK" Bundle.steD (fun _ => False) U U.heap ∧ vx_Zq Bundle.tN "SUPPRESSED_SENTINEL" Bundle.listD (fun _ => False) U U.heap) ∧ vk_R "HingeTables" 190 "no table was read" (qs 0) U ∧ vk_R "HingeTables" 192 "no such row" (qs 1) U ∧ vk_R "HingeTables" 68 "no such number" (qs 2) U ∧ vk_R "HingeTables" 79 "no such stock" (qs 3) U ∧ vk_R "HingeTables" 90 "k is below 0" (qs 4) U ∧ vk_R "HingeTables" 92 "not a row of a hinge" (qs 5) U ∧ vk_R "HingeTables" 105 "no such door" (qs 6) U ∧ vk_R "HingeTables" 196 "no such part" (qs 7) U ∧ vk_R "HingeTables" 130 "the door is beyond the table" (qs 8) U ∧ vk_R "HingeTables" 133 "no such hinge" (qs 9) U ∧ vk_R "HingeTables" 194 "no such hole" (qs 10) U ∧ vk_R "HingeTables" 156 "no such hole can be made" (qs 11) U ∧ vk_R "HingeTables" 168 "no such distance" (qs 12) U ∧ vk_R "HingeTables" 176 "no such corner, turn or axis" (qs 13) U ∧ vk_R "HingeTables" 184 "no such height or row of holes" (qs 14) U
theorem ak_190 {t1 t2 : Nat} {qs : Nat → Nat} {U : State} (h : am_K t1 t2 qs U) : vk_R "HingeTables" 190 "no table was read" (qs 0) U := h.2.2.1
theorem ak_192 {t1 t2 : Nat} {qs : Nat → Nat} {U : State} (h : am_K t1 t2 qs U) : vk_R "HingeTables" 192 "no such row" (qs 1) U := h.2.2.2.1
theorem ak_68 {t1 t2 : Nat} {qs : Nat → Nat} {U : State} (h : am_K t1 t2 qs U) : vk_R "HingeTables" 68 "no such number" (qs 2) U := h.2.2.2.2.1
theorem ak_79 {t1 t2 : Nat} {qs : Nat → Nat} {U : State} (h : am_K t1 t2 qs U) : vk_R "HingeTables" 79 "no such stock" (qs 3) U := h.2.2.2.2.2.1
theorem ak_90 {t1 t2 : Nat} {qs : Nat → Nat} {U : State} (h : am_K t1 t2 qs U) : vk_R "HingeTables" 90 "k is below 0" (qs 4) U := h.2.2.2.2.2.2.1
theorem ak_92 {t1 t2 : Nat} {qs : Nat → Nat} {U : State} (h : am_K t1 t2 qs U) : vk_R "HingeTables" 92 "not a row of a hinge" (qs 5) U := h.2.2.2.2.2.2.2.1
theorem ak_105 {t1 t2 : Nat} {qs : Nat → Nat} {U : State} (h : am_K t1 t2 qs U) : vk_R "HingeTables" 105 "no such door" (qs 6) U := h.2.2.2.2.2.2.2.2.1
theorem ak_196 {t1 t2 : Nat} {qs : Nat → Nat} {U : State} (h : am_K t1 t2 qs U) : vk_R "HingeTables" 196 "no such part" (qs 7) U := h.2.2.2.2.2.2.2.2.2.1
theorem ak_130 {t1 t2 : Nat} {qs : Nat → Nat} {U : State} (h : am_K t1 t2 qs U) : vk_R "HingeTables" 130 "the door is beyond the table" (qs 8) U := h.2.2.2.2.2.2.2.2.2.2.1
theorem ak_133 {t1 t2 : Nat} {qs : Nat → Nat} {U : State} (h : am_K t1 t2 qs U) : vk_R "HingeTables" 133 "no such hinge" (qs 9) U := h.2.2.2.2.2.2.2.2.2.2.2.1
theorem ak_194 {t1 t2 : Nat} {qs : Nat → Nat} {U : State} (h : am_K t1 t2 qs U) : vk_R "HingeTables" 194 "no such hole" (qs 10) U := h.2.2.2.2.2.2.2.2.2.2.2.2.1
theorem ak_156 {t1 t2 : Nat} {qs : Nat → Nat} {U : State} (h : am_K t1 t2 qs U) : vk_R "HingeTables" 156 "no such hole can be made" (qs 11) U := h.2.2.2.2.2.2.2.2.2.2.2.2.2.1
theorem ak_168 {t1 t2 : Nat} {qs : Nat → Nat} {U : State} (h : am_K t1 t2 qs U) : vk_R "HingeTables" 168 "no such distance" (qs 12) U := h.2.2.2.2.2.2.2.2.2.2.2.2.2.2.1
theorem ak_176 {t1 t2 : Nat} {qs : Nat → Nat} {U : State} (h : am_K t1 t2 qs U) : vk_R "HingeTables" 176 "no such corner, turn or axis" (qs 13) U := h.2.2.2.2.2.2.2.2.2.2.2.2.2.2.2.1
theorem ak_184 {t1 t2 : Nat} {qs : Nat → Nat} {U : State} (h : am_K t1 t2 qs U) : vk_R "HingeTables" 184 "no such height or row of holes" (qs 14) U := h.2.2.2.2.2.2.2.2.2.2.2.2.2.2.2.2
theorem am_K_bl {t1 t2 : Nat} {qs : Nat → Nat} : pu_bl (am_K t1 t2 qs) := by
  intro U V hH hW h
  refine ⟨am_S_bl U V hH hW h.1, ⟨?_, ?_⟩, vk_R.warm hW (ak_190 h), vk_R.warm hW (ak_192 h), vk_R.warm hW (ak_68 h), vk_R.warm hW (ak_79 h), vk_R.warm hW (ak_90 h), vk_R.warm hW (ak_92 h), vk_R.warm hW (ak_105 h), vk_R.warm hW (ak_196 h), vk_R.warm hW (ak_130 h), vk_R.warm hW (ak_133 h), vk_R.warm hW (ak_194 h), vk_R.warm hW (ak_156 h), vk_R.warm hW (ak_168 h), vk_R.warm hW (ak_176 h), vk_R.warm hW (ak_184 h)⟩
  · rw [hH]; exact vx_Zq.moved hW.alike h.2.1.1
  · rw [hH]; exact vx_Zq.moved hW.alike h.2.1.2
end
section
def fT_fault (place : Int32) : Int32 := (-1) - place
set_option maxHeartbeats 1000000 in
set_option maxRecDepth 100000 in
theorem ct_T_fault (l : Launch) (dC : Nat → ClassId) (dI : Nat → Nat → Nat) (cC cI cJ : ClassId)  (place : Int32)  : Met l my_T_fault (.code my_T_fault mb_T_fault 1 (some .int) :: gw_l) ({ frames := 0, cells := 0, slots := 0, locals := 0 }) (pu_Pc (dC, dI) mC [(cC, .char), (cI, .int), (cJ, .long)] [] (fun _ => True) [.int place]) (vp_Si (fun r => r = fT_fault place)) 0 0 (fun _ => False) := by
  refine Met.ofW (cc := mb_T_fault) (maxL := 1) (ret := (some .int)) (by decide) rfl ?_
  intro p e s m args below meth c s₁ B hml hv
  obtain ⟨rfl, hP, hK, hE⟩ := hv
  have hx := B.exec
  have hb := B.bytes
  have hr := B.returns
  have hts := atoms_spec (ws := (.code my_T_fault mb_T_fault 1 (some .int) :: gw_l)) B.pre
  have hg : ∀ w ∈ gw_l, w.before _ s = true := fun w h => hts w (List.mem_cons_of_mem _ h)
  have hown : s.vm.findClass mR_T = some m.cls := findClass_of_methodNamed B.named
  have hlocks := B.notSynchronized
  have hl := lv_entry ([.int place]) (n := 1) (Nat.le_of_ble_eq_true rfl)
  rw [lg_entry_eq]
  generalize (lg_sl ([.int place]) ++ List.replicate (1 - (lg_sl ([.int place])).length) Slot.unset).toArray = ls at hl ⊢
  have hl : lv_has ls 1 [(0, .int place)] := hl
  refine lv_iconst (v := (-1)) hx hb md_T_fault_0 (by decide) ?_
  refine lv_iload_n hx hb md_T_fault_1 rfl (lv_at hl 0 rfl) ?_
  refine lv_isub hx hb md_T_fault_2 ?_
  exact pu_iret hx hb hr hlocks md_T_fault_3 rfl

def fT_isDigit (c0 : Int32) : Int32 := if c0 < 48 then 0 else (if 57 < c0 then 0 else 1)
theorem zT_isDigit (c0 : Int32) : narrow .boolean (.int (fT_isDigit c0)) = .int (fT_isDigit c0) := by
  unfold fT_isDigit
  repeat' split
  all_goals first | rfl | exact zK_isWithin _ _ _
set_option maxHeartbeats 1000000 in
set_option maxRecDepth 100000 in
theorem ct_T_isDigit (l : Launch) (dC : Nat → ClassId) (dI : Nat → Nat → Nat) (cC cI cJ : ClassId)  (c0 : Int32)  : Met l my_T_isDigit (.code my_T_isDigit mb_T_isDigit 1 (some .boolean) :: gw_l) ({ frames := 0, cells := 0, slots := 0, locals := 0 }) (pu_Pc (dC, dI) mC [(cC, .char), (cI, .int), (cJ, .long)] [] (fun _ => True) [.int c0]) (vp_Si (fun r => r = fT_isDigit c0)) 0 0 (fun _ => False) := by
  refine Met.ofW (cc := mb_T_isDigit) (maxL := 1) (ret := (some .boolean)) (by decide) rfl ?_
  intro p e s m args below meth c s₁ B hml hv
  obtain ⟨rfl, hP, hK, hE⟩ := hv
  have hx := B.exec
  have hb := B.bytes
  have hr := B.returns
  have hts := atoms_spec (ws := (.code my_T_isDigit mb_T_isDigit 1 (some .boolean) :: gw_l)) B.pre
  have hg : ∀ w ∈ gw_l, w.before _ s = true := fun w h => hts w (List.mem_cons_of_mem _ h)
  have hown : s.vm.findClass mR_T = some m.cls := findClass_of_methodNamed B.named
  have hlocks := B.notSynchronized
  have hl := lv_entry ([.int c0]) (n := 1) (Nat.le_of_ble_eq_true rfl)
  rw [lg_entry_eq]
  generalize (lg_sl ([.int c0]) ++ List.replicate (1 - (lg_sl ([.int c0])).length) Slot.unset).toArray = ls at hl ⊢
  have hl : lv_has ls 1 [(0, .int c0)] := hl
  refine lv_iload_n hx hb md_T_isDigit_0 rfl (lv_at hl 0 rfl) ?_
  refine lv_bipush (v := 48) hx hb md_T_isDigit_1 (by decide) ?_
  refine lv_icmp_lt (tgt := 16) hx hb md_T_isDigit_3 (by decide) (fun c1 => ?_) (fun c1 => ?_)
  · refine lv_iconst (v := 0) hx hb md_T_isDigit_16 (by decide) ?_
    exact pu_zret hx hb hr hlocks rfl md_T_isDigit_17 (by rw [fT_isDigit, if_pos c1])
  · refine lv_iload_n hx hb md_T_isDigit_6 rfl (lv_at hl 0 rfl) ?_
    refine lv_bipush (v := 57) hx hb md_T_isDigit_7 (by decide) ?_
    refine lv_icmp_gt (tgt := 16) hx hb md_T_isDigit_9 (by decide) (fun c2 => ?_) (fun c2 => ?_)
    · refine lv_iconst (v := 0) hx hb md_T_isDigit_16 (by decide) ?_
      exact pu_zret hx hb hr hlocks rfl md_T_isDigit_17 (by rw [fT_isDigit, if_neg c1, if_pos c2])
    · refine lv_iconst (v := 1) hx hb md_T_isDigit_12 (by decide) ?_
      refine lv_goto (tgt := 17) hx hb md_T_isDigit_13 (by decide) ?_
      exact pu_zret hx hb hr hlocks rfl md_T_isDigit_17 (by rw [fT_isDigit, if_neg c1, if_neg c2])

def fK_numbersBehind (c0 : Int32) : Int32 := if c0 = 104 then 6 else (if c0 = 115 then 2 else (if c0 = 99 then 3 else 0))
set_option maxHeartbeats 1000000 in
set_option maxRecDepth 100000 in
theorem ct_K_numbersBehind (l : Launch) (dC : Nat → ClassId) (dI : Nat → Nat → Nat) (cC cI cJ : ClassId)  (c0 : Int32)  : Met l my_K_numbersBehind (.code my_K_numbersBehind mb_K_numbersBehind 1 (some .int) :: gw_l) ({ frames := 0, cells := 0, slots := 0, locals := 0 }) (pu_Pc (dC, dI) mC [(cC, .char), (cI, .int), (cJ, .long)] [] (fun _ => True) [.int c0]) (vp_Si (fun r => r = fK_numbersBehind c0)) 0 0 (fun _ => False) := by
  refine Met.ofW (cc := mb_K_numbersBehind) (maxL := 1) (ret := (some .int)) (by decide) rfl ?_
  intro p e s m args below meth c s₁ B hml hv
  obtain ⟨rfl, hP, hK, hE⟩ := hv
  have hx := B.exec
  have hb := B.bytes
  have hr := B.returns
  have hts := atoms_spec (ws := (.code my_K_numbersBehind mb_K_numbersBehind 1 (some .int) :: gw_l)) B.pre
  have hg : ∀ w ∈ gw_l, w.before _ s = true := fun w h => hts w (List.mem_cons_of_mem _ h)
  have hown : s.vm.findClass mR_K = some m.cls := findClass_of_methodNamed B.named
  have hlocks := B.notSynchronized
  have hl := lv_entry ([.int c0]) (n := 1) (Nat.le_of_ble_eq_true rfl)
  rw [lg_entry_eq]
  generalize (lg_sl ([.int c0]) ++ List.replicate (1 - (lg_sl ([.int c0])).length) Slot.unset).toArray = ls at hl ⊢
  have hl : lv_has ls 1 [(0, .int c0)] := hl
  refine lv_iload_n hx hb md_K_numbersBehind_0 rfl (lv_at hl 0 rfl) ?_
  refine lv_bipush (v := 104) hx hb md_K_numbersBehind_1 (by decide) ?_
  refine lv_icmp_ne (tgt := 9) hx hb md_K_numbersBehind_3 (by decide) (fun c1 => ?_) (fun c1 => ?_)
  · refine lv_iload_n hx hb md_K_numbersBehind_9 rfl (lv_at hl 0 rfl) ?_
    refine lv_bipush (v := 115) hx hb md_K_numbersBehind_10 (by decide) ?_
    refine lv_icmp_ne (tgt := 17) hx hb md_K_numbersBehind_12 (by decide) (fun c2 => ?_) (fun c2 => ?_)
    · refine lv_iload_n hx hb md_K_numbersBehind_17 rfl (lv_at hl 0 rfl) ?_
      refine lv_bipush (v := 99) hx hb md_K_numbersBehind_18 (by decide) ?_
      refine lv_icmp_ne (tgt := 27) hx hb md_K_numbersBehind_20 (by decide) (fun c3 => ?_) (fun c3 => ?_)
      · refine lv_iconst (v := 0) hx hb md_K_numbersBehind_27 (by decide) ?_
        exact pu_iret hx hb hr hlocks md_K_numbersBehind_28 (by rw [fK_numbersBehind, if_neg c1, if_neg c2, if_neg c3])
      · refine lv_iconst (v := 3) hx hb md_K_numbersBehind_23 (by decide) ?_
        refine lv_goto (tgt := 28) hx hb md_K_numbersBehind_24 (by decide) ?_
        exact pu_iret hx hb hr hlocks md_K_numbersBehind_28 (by rw [fK_numbersBehind, if_neg c1, if_neg c2, if_pos c3])
    · refine lv_iconst (v := 2) hx hb md_K_numbersBehind_15 (by decide) ?_
      exact pu_iret hx hb hr hlocks md_K_numbersBehind_16 (by rw [fK_numbersBehind, if_neg c1, if_pos c2])
  · refine lv_bipush (v := 6) hx hb md_K_numbersBehind_6 (by decide) ?_
    exact pu_iret hx hb hr hlocks md_K_numbersBehind_8 (by rw [fK_numbersBehind, if_pos c1])

def fK_isWithin (n0 : Int64) (lo : Int32) (hi : Int32) : Int32 := if n0 < (Int32.toInt64 lo) then 0 else (if (Int32.toInt64 hi) < n0 then 0 else 1)
theorem zK_isWithin (n0 : Int64) (lo : Int32) (hi : Int32) : narrow .boolean (.int (fK_isWithin n0 lo hi)) = .int (fK_isWithin n0 lo hi) := by
  unfold fK_isWithin
  repeat' split
  all_goals first | rfl | exact zK_isWithin _ _ _
set_option maxHeartbeats 1000000 in
set_option maxRecDepth 100000 in
theorem ct_K_isWithin (l : Launch) (dC : Nat → ClassId) (dI : Nat → Nat → Nat) (cC cI cJ : ClassId)  (n0 : Int64) (lo : Int32) (hi : Int32)  : Met l my_K_isWithin (.code my_K_isWithin mb_K_isWithin 4 (some .boolean) :: gw_l) ({ frames := 0, cells := 0, slots := 0, locals := 0 }) (pu_Pc (dC, dI) mC [(cC, .char), (cI, .int), (cJ, .long)] [] (fun _ => True) [.long n0, .int lo, .int hi]) (vp_Si (fun r => r = fK_isWithin n0 lo hi)) 0 0 (fun _ => False) := by
  refine Met.ofW (cc := mb_K_isWithin) (maxL := 4) (ret := (some .boolean)) (by decide) rfl ?_
  intro p e s m args below meth c s₁ B hml hv
  obtain ⟨rfl, hP, hK, hE⟩ := hv
  have hx := B.exec
  have hb := B.bytes
  have hr := B.returns
  have hts := atoms_spec (ws := (.code my_K_isWithin mb_K_isWithin 4 (some .boolean) :: gw_l)) B.pre
  have hg : ∀ w ∈ gw_l, w.before _ s = true := fun w h => hts w (List.mem_cons_of_mem _ h)
  have hown : s.vm.findClass mR_K = some m.cls := findClass_of_methodNamed B.named
  have hlocks := B.notSynchronized
  have hl := lv_entry ([.long n0, .int lo, .int hi]) (n := 4) (Nat.le_of_ble_eq_true rfl)
  rw [lg_entry_eq]
  generalize (lg_sl ([.long n0, .int lo, .int hi]) ++ List.replicate (4 - (lg_sl ([.long n0, .int lo, .int hi])).length) Slot.unset).toArray = ls at hl ⊢
  have hl : lv_has ls 4 [(0, .long n0), (2, .int lo), (3, .int hi)] := hl
  refine lv_lload_n hx hb md_K_isWithin_0 rfl (lv_at hl 0 rfl) ?_
  refine lv_iload_n hx hb md_K_isWithin_1 rfl (lv_at hl 1 rfl) ?_
  refine lv_i2l (v := Int32.toInt64 lo) hx hb md_K_isWithin_2 rfl ?_
  refine lx_lt (tgt := 18) hx hb md_K_isWithin_3 md_K_isWithin_4 (by decide) (fun c1 => ?_) (fun c1 => ?_)
  · refine lv_iconst (v := 0) hx hb md_K_isWithin_18 (by decide) ?_
    exact pu_zret hx hb hr hlocks rfl md_K_isWithin_19 (by rw [fK_isWithin, if_pos c1])
  · refine lv_lload_n hx hb md_K_isWithin_7 rfl (lv_at hl 0 rfl) ?_
    refine lv_iload_n hx hb md_K_isWithin_8 rfl (lv_at hl 2 rfl) ?_
    refine lv_i2l (v := Int32.toInt64 hi) hx hb md_K_isWithin_9 rfl ?_
    refine lx_gt (tgt := 18) hx hb md_K_isWithin_10 md_K_isWithin_11 (by decide) (fun c2 => ?_) (fun c2 => ?_)
    · refine lv_iconst (v := 0) hx hb md_K_isWithin_18 (by decide) ?_
      exact pu_zret hx hb hr hlocks rfl md_K_isWithin_19 (by rw [fK_isWithin, if_neg c1, if_pos c2])
    · refine lv_iconst (v := 1) hx hb md_K_isWithin_14 (by decide) ?_
      refine lv_goto (tgt := 19) hx hb md_K_isWithin_15 (by decide) ?_
      exact pu_zret hx hb hr hlocks rfl md_K_isWithin_19 (by rw [fK_isWithin, if_neg c1, if_neg c2])

def fK_isOfDoor (n0 : Int64) : Int32 := fK_isWithin n0 1 10000
theorem zK_isOfDoor (n0 : Int64) : narrow .boolean (.int (fK_isOfDoor n0)) = .int (fK_isOfDoor n0) := by
  unfold fK_isOfDoor
  repeat' split
  all_goals first | rfl | exact zK_isWithin _ _ _
set_option maxHeartbeats 1000000 in
set_option maxRecDepth 100000 in
theorem ct_K_isOfDoor (l : Launch) (dC : Nat → ClassId) (dI : Nat → Nat → Nat) (cC cI cJ : ClassId)  (n0 : Int64)  : Met l my_K_isOfDoor (.code my_K_isOfDoor mb_K_isOfDoor 2 (some .boolean) :: gw_l) ({ frames := 1, cells := 0, slots := 0, locals := 23 }) (pu_Pc (dC, dI) mC [(cC, .char), (cI, .int), (cJ, .long)] [] (fun _ => True) [.long n0]) (vp_Si (fun r => r = fK_isOfDoor n0)) 0 0 (fun _ => False) := by
  refine Met.ofW (cc := mb_K_isOfDoor) (maxL := 2) (ret := (some .boolean)) (by decide) rfl ?_
  intro p e s m args below meth c s₁ B hml hv
  obtain ⟨rfl, hP, hK, hE⟩ := hv
  have hx := B.exec
  have hb := B.bytes
  have hr := B.returns
  have hts := atoms_spec (ws := (.code my_K_isOfDoor mb_K_isOfDoor 2 (some .boolean) :: gw_l)) B.pre
  have hg : ∀ w ∈ gw_l, w.before _ s = true := fun w h => hts w (List.mem_cons_of_mem _ h)
  have hown : s.vm.findClass mR_K = some m.cls := findClass_of_methodNamed B.named
  have hlocks := B.notSynchronized
  have hl := lv_entry ([.long n0]) (n := 2) (Nat.le_of_ble_eq_true rfl)
  rw [lg_entry_eq]
  generalize (lg_sl ([.long n0]) ++ List.replicate (2 - (lg_sl ([.long n0])).length) Slot.unset).toArray = ls at hl ⊢
  have hl : lv_has ls 2 [(0, .long n0)] := hl
  refine lv_lload_n hx hb md_K_isOfDoor_0 rfl (lv_at hl 0 rfl) ?_
  refine lv_iconst (v := 1) hx hb md_K_isOfDoor_1 (by decide) ?_
  refine lv_sipush (v := 10000) hx hb md_K_isOfDoor_2 (by decide) ?_
  have hPc1 := hP.sub (ws' := []) [] rfl
  refine pu_i (W.runS (As := [.long n0, .int 1, .int 10000]) (rest := []) ⟨hx, hb, hml, hown, hg⟩ (ct_K_isWithin l dC dI cC cI cJ n0 1 10000) (gw_cwS hg wd_363 mv_K_isWithin rfl rfl ⟨Nat.le_of_ble_eq_true rfl, Nat.le_of_ble_eq_true rfl⟩) (pu_preS pu_blT hK hPc1 pu_e1) rfl rfl hl.1 rfl (lv_room (Nat.le_of_ble_eq_true rfl)) md_K_isOfDoor_5 ⟨Nat.zero_le _, Nat.zero_le _⟩) ?_
  exact pu_zret hx hb hr hlocks (zK_isWithin _ _ _) md_K_isOfDoor_8 rfl

def fS_endsAt (xz : Int32) (place : Int32) : Int32 := if place = xz then 1 else 0
theorem zS_endsAt (xz : Int32) (place : Int32) : narrow .boolean (.int (fS_endsAt xz place)) = .int (fS_endsAt xz place) := by
  unfold fS_endsAt
  repeat' split
  all_goals first | rfl | exact zK_isWithin _ _ _
set_option maxHeartbeats 1000000 in
set_option maxRecDepth 100000 in
theorem ct_S_endsAt (l : Launch) (dC : Nat → ClassId) (dI : Nat → Nat → Nat) (cC cI cJ : ClassId) (xA : Nat) (xL : Nat) (xl : Nat → Int32) (xz : Int32) (place : Int32)  : Met l my_S_endsAt (.code my_S_endsAt mb_S_endsAt 2 (some .boolean) :: gw_l) ({ frames := 0, cells := 0, slots := 0, locals := 0 }) (pu_Pc (dC, dI) mC [(cC, .char), (cI, .int), (cJ, .long)] [(xA, .inr (3, [.ref xL, .int xz])), (xL, .inl (cC, 300, .inl xl))] (fun _ => True) [.ref xA, .int place]) (vp_Si (fun r => r = fS_endsAt xz place)) 0 0 (fun _ => False) := by
  refine Met.ofW (cc := mb_S_endsAt) (maxL := 2) (ret := (some .boolean)) (by decide) rfl ?_
  intro p e s m args below meth c s₁ B hml hv
  obtain ⟨rfl, hP, hK, hE⟩ := hv
  have hx := B.exec
  have hb := B.bytes
  have hr := B.returns
  have hts := atoms_spec (ws := (.code my_S_endsAt mb_S_endsAt 2 (some .boolean) :: gw_l)) B.pre
  have hg : ∀ w ∈ gw_l, w.before _ s = true := fun w h => hts w (List.mem_cons_of_mem _ h)
  have hown : s.vm.findClass mR_S = some m.cls := findClass_of_methodNamed B.named
  have hlocks := B.notSynchronized
  have hl := lv_entry ([.ref xA, .int place]) (n := 2) (Nat.le_of_ble_eq_true rfl)
  rw [lg_entry_eq]
  generalize (lg_sl ([.ref xA, .int place]) ++ List.replicate (2 - (lg_sl ([.ref xA, .int place])).length) Slot.unset).toArray = ls at hl ⊢
  have hl : lv_has ls 2 [(0, .ref xA), (1, .int place)] := hl
  refine lv_iload_n hx hb md_S_endsAt_0 rfl (lv_at hl 1 rfl) ?_
  refine lv_aload_n hx hb md_S_endsAt_1 rfl (lv_at hl 0 rfl) ?_
  refine va_get (D := (dC, dI)) (ci := 3) (v := .int xz) (C := mR_S) (T := mT_S) (N := 2) hx hb hg gu_S hown hK hP 0 rfl rfl 1 (by decide) (hg _ wd_29) (fun _ h9 => h9) rfl md_S_endsAt_2 ?_
  refine lv_icmp_ne (tgt := 12) hx hb md_S_endsAt_5 (by decide) (fun c1 => ?_) (fun c1 => ?_)
  · refine lv_iconst (v := 0) hx hb md_S_endsAt_12 (by decide) ?_
    exact pu_zret hx hb hr hlocks rfl md_S_endsAt_13 (by rw [fS_endsAt, if_neg c1])
  · refine lv_iconst (v := 1) hx hb md_S_endsAt_8 (by decide) ?_
    refine lv_goto (tgt := 13) hx hb md_S_endsAt_9 (by decide) ?_
    exact pu_zret hx hb hr hlocks rfl md_S_endsAt_13 (by rw [fS_endsAt, if_pos c1])

def fS_at (xl : Nat → Int32) (xz : Int32) (place : Int32) : Int32 := if place < 0 then 0 else (if xz ≤ place then 0 else (xl (Int32.toNatClampNeg place)))
set_option maxHeartbeats 1000000 in
set_option maxRecDepth 100000 in
theorem ct_S_at (l : Launch) (dC : Nat → ClassId) (dI : Nat → Nat → Nat) (cC cI cJ : ClassId) (xA : Nat) (xL : Nat) (xl : Nat → Int32) (xz : Int32) (place : Int32) (hin : ¬ place < 0 → ¬ xz ≤ place → vp_in place 300) (hch : ∀ j, narrow .char (.int (xl j)) = .int (xl j)) : Met l my_S_at (.code my_S_at mb_S_at 2 (some .char) :: gw_l) ({ frames := 0, cells := 0, slots := 0, locals := 0 }) (pu_Pc (dC, dI) mC [(cC, .char), (cI, .int), (cJ, .long)] [(xA, .inr (3, [.ref xL, .int xz])), (xL, .inl (cC, 300, .inl xl))] (fun _ => True) [.ref xA, .int place]) (vp_Si (fun r => r = fS_at xl xz place)) 0 0 (fun _ => False) := by
  refine Met.ofW (cc := mb_S_at) (maxL := 2) (ret := (some .char)) (by decide) rfl ?_
  intro p e s m args below meth c s₁ B hml hv
  obtain ⟨rfl, hP, hK, hE⟩ := hv
  have hx := B.exec
  have hb := B.bytes
  have hr := B.returns
  have hts := atoms_spec (ws := (.code my_S_at mb_S_at 2 (some .char) :: gw_l)) B.pre
  have hg : ∀ w ∈ gw_l, w.before _ s = true := fun w h => hts w (List.mem_cons_of_mem _ h)
  have hown : s.vm.findClass mR_S = some m.cls := findClass_of_methodNamed B.named
  have hlocks := B.notSynchronized
  have hl := lv_entry ([.ref xA, .int place]) (n := 2) (Nat.le_of_ble_eq_true rfl)
  rw [lg_entry_eq]
  generalize (lg_sl ([.ref xA, .int place]) ++ List.replicate (2 - (lg_sl ([.ref xA, .int place])).length) Slot.unset).toArray = ls at hl ⊢
  have hl : lv_has ls 2 [(0, .ref xA), (1, .int place)] := hl
  refine lv_iload_n hx hb md_S_at_0 rfl (lv_at hl 1 rfl) ?_
  refine lv_if_lt (tgt := 21) hx hb md_S_at_1 (by decide) (fun c1 => ?_) (fun c1 => ?_)
  · refine lv_iconst (v := 0) hx hb md_S_at_21 (by decide) ?_
    exact pu_zret hx hb hr hlocks rfl md_S_at_22 (by rw [fS_at, if_pos c1])
  · refine lv_iload_n hx hb md_S_at_4 rfl (lv_at hl 1 rfl) ?_
    refine lv_aload_n hx hb md_S_at_5 rfl (lv_at hl 0 rfl) ?_
    refine va_get (D := (dC, dI)) (ci := 3) (v := .int xz) (C := mR_S) (T := mT_S) (N := 2) hx hb hg gu_S hown hK hP 0 rfl rfl 1 (by decide) (hg _ wd_29) (fun _ h9 => h9) rfl md_S_at_6 ?_
    refine lv_icmp_ge (tgt := 21) hx hb md_S_at_9 (by decide) (fun c2 => ?_) (fun c2 => ?_)
    · refine lv_iconst (v := 0) hx hb md_S_at_21 (by decide) ?_
      exact pu_zret hx hb hr hlocks rfl md_S_at_22 (by rw [fS_at, if_neg c1, if_pos c2])
    · refine lv_aload_n hx hb md_S_at_12 rfl (lv_at hl 0 rfl) ?_
      refine va_get (D := (dC, dI)) (ci := 3) (v := .ref xL) (C := mR_S) (T := mT_S) (N := 2) hx hb hg gu_S hown hK hP 0 rfl rfl 0 (by decide) (hg _ wd_28) (fun _ h9 => h9) rfl md_S_at_13 ?_
      refine lv_iload_n hx hb md_S_at_16 rfl (lv_at hl 1 rfl) ?_
      refine va_cald hx hb hK hP 1 0 rfl rfl (hin c1 c2) md_S_at_17 ?_
      refine lv_goto (tgt := 22) hx hb md_S_at_18 (by decide) ?_
      exact pu_zret hx hb hr hlocks (hch _) md_S_at_22 (by rw [fS_at, if_neg c1, if_neg c2])

def fD_millionWeights (dw : Int64) (dh : Int64) (dt : Int64) (dd : Int64) : Int64 := ((dw * dh) * dt) * dd
set_option maxHeartbeats 1000000 in
set_option maxRecDepth 100000 in
theorem ct_D_millionWeights (l : Launch) (dC : Nat → ClassId) (dI : Nat → Nat → Nat) (cC cI cJ : ClassId) (dA : Nat) (dw : Int64) (dh : Int64) (dt : Int64) (dd : Int64)   : Met l my_D_millionWeights (.code my_D_millionWeights mb_D_millionWeights 1 (some .long) :: gw_l) ({ frames := 0, cells := 0, slots := 0, locals := 0 }) (pu_Pc (dC, dI) mC [(cC, .char), (cI, .int), (cJ, .long)] [(dA, .inr (0, [.long dw, .long dh, .long dt, .long dd]))] (fun _ => True) [.ref dA]) (vp_Sl (fun r => r = fD_millionWeights dw dh dt dd)) 0 0 (fun _ => False) := by
  refine Met.ofW (cc := mb_D_millionWeights) (maxL := 1) (ret := (some .long)) (by decide) rfl ?_
  intro p e s m args below meth c s₁ B hml hv
  obtain ⟨rfl, hP, hK, hE⟩ := hv
  have hx := B.exec
  have hb := B.bytes
  have hr := B.returns
  have hts := atoms_spec (ws := (.code my_D_millionWeights mb_D_millionWeights 1 (some .long) :: gw_l)) B.pre
  have hg : ∀ w ∈ gw_l, w.before _ s = true := fun w h => hts w (List.mem_cons_of_mem _ h)
  have hown : s.vm.findClass mR_D = some m.cls := findClass_of_methodNamed B.named
  have hlocks := B.notSynchronized
  have hl := lv_entry ([.ref dA]) (n := 1) (Nat.le_of_ble_eq_true rfl)
  rw [lg_entry_eq]
  generalize (lg_sl ([.ref dA]) ++ List.replicate (1 - (lg_sl ([.ref dA])).length) Slot.unset).toArray = ls at hl ⊢
  have hl : lv_has ls 1 [(0, .ref dA)] := hl
  refine lv_aload_n hx hb md_D_millionWeights_0 rfl (lv_at hl 0 rfl) ?_
  refine va_get (D := (dC, dI)) (ci := 0) (v := .long dw) (C := mR_D) (T := mT_D) (N := 4) hx hb hg gu_D hown hK hP 0 rfl rfl 0 (by decide) (hg _ wd_45) (fun _ h9 => h9) rfl md_D_millionWeights_1 ?_
  refine lv_aload_n hx hb md_D_millionWeights_4 rfl (lv_at hl 0 rfl) ?_
  refine va_get (D := (dC, dI)) (ci := 0) (v := .long dh) (C := mR_D) (T := mT_D) (N := 4) hx hb hg gu_D hown hK hP 0 rfl rfl 1 (by decide) (hg _ wd_46) (fun _ h9 => h9) rfl md_D_millionWeights_5 ?_
  refine lv_lmul hx hb md_D_millionWeights_8 ?_
  refine lv_aload_n hx hb md_D_millionWeights_9 rfl (lv_at hl 0 rfl) ?_
  refine va_get (D := (dC, dI)) (ci := 0) (v := .long dt) (C := mR_D) (T := mT_D) (N := 4) hx hb hg gu_D hown hK hP 0 rfl rfl 2 (by decide) (hg _ wd_49) (fun _ h9 => h9) rfl md_D_millionWeights_10 ?_
  refine lv_lmul hx hb md_D_millionWeights_13 ?_
  refine lv_aload_n hx hb md_D_millionWeights_14 rfl (lv_at hl 0 rfl) ?_
  refine va_get (D := (dC, dI)) (ci := 0) (v := .long dd) (C := mR_D) (T := mT_D) (N := 4) hx hb hg gu_D hown hK hP 0 rfl rfl 3 (by decide) (hg _ wd_50) (fun _ h9 => h9) rfl md_D_millionWeights_15 ?_
  refine lv_lmul hx hb md_D_millionWeights_18 ?_
  exact pu_lret hx hb hr hlocks md_D_millionWeights_19 rfl

def fD_shutX (dw : Int64) (corner : Int32) : Int64 := if corner = 1 then dw else (if corner = 2 then dw else 0)
set_option maxHeartbeats 1000000 in
set_option maxRecDepth 100000 in
theorem ct_D_shutX (l : Launch) (dC : Nat → ClassId) (dI : Nat → Nat → Nat) (cC cI cJ : ClassId) (dA : Nat) (dw : Int64) (dh : Int64) (dt : Int64) (dd : Int64) (corner : Int32)  : Met l my_D_shutX (.code my_D_shutX mb_D_shutX 2 (some .long) :: gw_l) ({ frames := 0, cells := 0, slots := 0, locals := 0 }) (pu_Pc (dC, dI) mC [(cC, .char), (cI, .int), (cJ, .long)] [(dA, .inr (0, [.long dw, .long dh, .long dt, .long dd]))] (fun _ => True) [.ref dA, .int corner]) (vp_Sl (fun r => r = fD_shutX dw corner)) 0 0 (fun _ => False) := by
  refine Met.ofW (cc := mb_D_shutX) (maxL := 2) (ret := (some .long)) (by decide) rfl ?_
  intro p e s m args below meth c s₁ B hml hv
  obtain ⟨rfl, hP, hK, hE⟩ := hv
  have hx := B.exec
  have hb := B.bytes
  have hr := B.returns
  have hts := atoms_spec (ws := (.code my_D_shutX mb_D_shutX 2 (some .long) :: gw_l)) B.pre
  have hg : ∀ w ∈ gw_l, w.before _ s = true := fun w h => hts w (List.mem_cons_of_mem _ h)
  have hown : s.vm.findClass mR_D = some m.cls := findClass_of_methodNamed B.named
  have hlocks := B.notSynchronized
  have hl := lv_entry ([.ref dA, .int corner]) (n := 2) (Nat.le_of_ble_eq_true rfl)
  rw [lg_entry_eq]
  generalize (lg_sl ([.ref dA, .int corner]) ++ List.replicate (2 - (lg_sl ([.ref dA, .int corner])).length) Slot.unset).toArray = ls at hl ⊢
  have hl : lv_has ls 2 [(0, .ref dA), (1, .int corner)] := hl
  refine lv_iload_n hx hb md_D_shutX_0 rfl (lv_at hl 1 rfl) ?_
  refine lv_iconst (v := 1) hx hb md_D_shutX_1 (by decide) ?_
  refine lv_icmp_eq (tgt := 10) hx hb md_D_shutX_2 (by decide) (fun c1 => ?_) (fun c1 => ?_)
  · refine lv_aload_n hx hb md_D_shutX_10 rfl (lv_at hl 0 rfl) ?_
    refine va_get (D := (dC, dI)) (ci := 0) (v := .long dw) (C := mR_D) (T := mT_D) (N := 4) hx hb hg gu_D hown hK hP 0 rfl rfl 0 (by decide) (hg _ wd_45) (fun _ h9 => h9) rfl md_D_shutX_11 ?_
    refine lv_goto (tgt := 18) hx hb md_D_shutX_14 (by decide) ?_
    exact pu_lret hx hb hr hlocks md_D_shutX_18 (by rw [fD_shutX, if_pos c1])
  · refine lv_iload_n hx hb md_D_shutX_5 rfl (lv_at hl 1 rfl) ?_
    refine lv_iconst (v := 2) hx hb md_D_shutX_6 (by decide) ?_
    refine lv_icmp_ne (tgt := 17) hx hb md_D_shutX_7 (by decide) (fun c2 => ?_) (fun c2 => ?_)
    · refine lv_lconst (v := 0) hx hb md_D_shutX_17 (by decide) ?_
      exact pu_lret hx hb hr hlocks md_D_shutX_18 (by rw [fD_shutX, if_neg c1, if_neg c2])
    · refine lv_aload_n hx hb md_D_shutX_10 rfl (lv_at hl 0 rfl) ?_
      refine va_get (D := (dC, dI)) (ci := 0) (v := .long dw) (C := mR_D) (T := mT_D) (N := 4) hx hb hg gu_D hown hK hP 0 rfl rfl 0 (by decide) (hg _ wd_45) (fun _ h9 => h9) rfl md_D_shutX_11 ?_
      refine lv_goto (tgt := 18) hx hb md_D_shutX_14 (by decide) ?_
      exact pu_lret hx hb hr hlocks md_D_shutX_18 (by rw [fD_shutX, if_neg c1, if_pos c2])

def fD_shutY (dt : Int64) (corner : Int32) : Int64 := if corner < 2 then 0 else dt
set_option maxHeartbeats 1000000 in
set_option maxRecDepth 100000 in
theorem ct_D_shutY (l : Launch) (dC : Nat → ClassId) (dI : Nat → Nat → Nat) (cC cI cJ : ClassId) (dA : Nat) (dw : Int64) (dh : Int64) (dt : Int64) (dd : Int64) (corner : Int32)  : Met l my_D_shutY (.code my_D_shutY mb_D_shutY 2 (some .long) :: gw_l) ({ frames := 0, cells := 0, slots := 0, locals := 0 }) (pu_Pc (dC, dI) mC [(cC, .char), (cI, .int), (cJ, .long)] [(dA, .inr (0, [.long dw, .long dh, .long dt, .long dd]))] (fun _ => True) [.ref dA, .int corner]) (vp_Sl (fun r => r = fD_shutY dt corner)) 0 0 (fun _ => False) := by
  refine Met.ofW (cc := mb_D_shutY) (maxL := 2) (ret := (some .long)) (by decide) rfl ?_
  intro p e s m args below meth c s₁ B hml hv
  obtain ⟨rfl, hP, hK, hE⟩ := hv
  have hx := B.exec
  have hb := B.bytes
  have hr := B.returns
  have hts := atoms_spec (ws := (.code my_D_shutY mb_D_shutY 2 (some .long) :: gw_l)) B.pre
  have hg : ∀ w ∈ gw_l, w.before _ s = true := fun w h => hts w (List.mem_cons_of_mem _ h)
  have hown : s.vm.findClass mR_D = some m.cls := findClass_of_methodNamed B.named
  have hlocks := B.notSynchronized
  have hl := lv_entry ([.ref dA, .int corner]) (n := 2) (Nat.le_of_ble_eq_true rfl)
  rw [lg_entry_eq]
  generalize (lg_sl ([.ref dA, .int corner]) ++ List.replicate (2 - (lg_sl ([.ref dA, .int corner])).length) Slot.unset).toArray = ls at hl ⊢
  have hl : lv_has ls 2 [(0, .ref dA), (1, .int corner)] := hl
  refine lv_iload_n hx hb md_D_shutY_0 rfl (lv_at hl 1 rfl) ?_
  refine lv_iconst (v := 2) hx hb md_D_shutY_1 (by decide) ?_
  refine lv_icmp_lt (tgt := 12) hx hb md_D_shutY_2 (by decide) (fun c1 => ?_) (fun c1 => ?_)
  · refine lv_lconst (v := 0) hx hb md_D_shutY_12 (by decide) ?_
    exact pu_lret hx hb hr hlocks md_D_shutY_13 (by rw [fD_shutY, if_pos c1])
  · refine lv_aload_n hx hb md_D_shutY_5 rfl (lv_at hl 0 rfl) ?_
    refine va_get (D := (dC, dI)) (ci := 0) (v := .long dt) (C := mR_D) (T := mT_D) (N := 4) hx hb hg gu_D hown hK hP 0 rfl rfl 2 (by decide) (hg _ wd_49) (fun _ h9 => h9) rfl md_D_shutY_6 ?_
    refine lv_goto (tgt := 13) hx hb md_D_shutY_9 (by decide) ?_
    exact pu_lret hx hb hr hlocks md_D_shutY_13 (by rw [fD_shutY, if_neg c1])

theorem gw_min : Cond.code Lib.MathLoose.min_long.x Lib.MathLoose.min_long.code 4 (some .long) ∈ gw_l := gw_t 424 (by decide +kernel) rfl

def fD_placeNumerator (dh : Int64) (k : Int32) (hinges : Int32) : Int64 := ((if 320 < dh then 320 else dh) * (Int32.toInt64 (hinges - 1))) + ((Int32.toInt64 k) * ((4 * dh) - (2 * (if 320 < dh then 320 else dh))))
set_option maxHeartbeats 1000000 in
set_option maxRecDepth 100000 in
theorem ct_D_placeNumerator (l : Launch) (dC : Nat → ClassId) (dI : Nat → Nat → Nat) (cC cI cJ : ClassId) (dA : Nat) (dw : Int64) (dh : Int64) (dt : Int64) (dd : Int64) (k : Int32) (hinges : Int32)  : Met l my_D_placeNumerator (.code my_D_placeNumerator mb_D_placeNumerator 5 (some .long) :: gw_l) ({ frames := 1, cells := 0, slots := 0, locals := 40 }) (pu_Pc (dC, dI) mC [(cC, .char), (cI, .int), (cJ, .long)] [(dA, .inr (0, [.long dw, .long dh, .long dt, .long dd]))] (fun _ => True) [.ref dA, .int k, .int hinges]) (vp_Sl (fun r => r = fD_placeNumerator dh k hinges)) 0 0 (fun _ => False) := by
  refine Met.ofW (cc := mb_D_placeNumerator) (maxL := 5) (ret := (some .long)) (by decide) rfl ?_
  intro p e s m args below meth c s₁ B hml hv
  obtain ⟨rfl, hP, hK, hE⟩ := hv
  have hx := B.exec
  have hb := B.bytes
  have hr := B.returns
  have hts := atoms_spec (ws := (.code my_D_placeNumerator mb_D_placeNumerator 5 (some .long) :: gw_l)) B.pre
  have hg : ∀ w ∈ gw_l, w.before _ s = true := fun w h => hts w (List.mem_cons_of_mem _ h)
  have hown : s.vm.findClass mR_D = some m.cls := findClass_of_methodNamed B.named
  have hlocks := B.notSynchronized
  have hl := lv_entry ([.ref dA, .int k, .int hinges]) (n := 5) (Nat.le_of_ble_eq_true rfl)
  rw [lg_entry_eq]
  generalize (lg_sl ([.ref dA, .int k, .int hinges]) ++ List.replicate (5 - (lg_sl ([.ref dA, .int k, .int hinges])).length) Slot.unset).toArray = ls at hl ⊢
  have hl : lv_has ls 5 [(0, .ref dA), (1, .int k), (2, .int hinges)] := hl
  refine lv_aload_n hx hb md_D_placeNumerator_0 rfl (lv_at hl 0 rfl) ?_
  refine va_get (D := (dC, dI)) (ci := 0) (v := .long dh) (C := mR_D) (T := mT_D) (N := 4) hx hb hg gu_D hown hK hP 0 rfl rfl 1 (by decide) (hg _ wd_46) (fun _ h9 => h9) rfl md_D_placeNumerator_1 ?_
  refine lv_ldc2 hx hb hown (hg _ wd_421) md_D_placeNumerator_4 ?_
  refine va_mmin_long hx hb (hml.trans hl.1.symm) hown (hg _ wd_422) (hg _ wd_423) (hg _ wd_13) (hg _ gw_min) (Nat.le_of_ble_eq_true rfl) (Nat.le_of_ble_eq_true rfl) (Nat.zero_le _) (Nat.zero_le _) md_D_placeNumerator_7 ?_
  refine lv_lstore_n (lv' := [(3, .long (if 320 < dh then 320 else dh)), (0, .ref dA), (1, .int k), (2, .int hinges)]) hx hb md_D_placeNumerator_10 rfl hl (by decide) rfl (fun ls hl => ?_)
  refine lv_lload_n hx hb md_D_placeNumerator_11 rfl (lv_at hl 0 rfl) ?_
  refine lv_iload_n hx hb md_D_placeNumerator_12 rfl (lv_at hl 3 rfl) ?_
  refine lv_iconst (v := 1) hx hb md_D_placeNumerator_13 (by decide) ?_
  refine lv_isub hx hb md_D_placeNumerator_14 ?_
  refine lv_i2l (v := Int32.toInt64 (hinges - 1)) hx hb md_D_placeNumerator_15 rfl ?_
  refine lv_lmul hx hb md_D_placeNumerator_16 ?_
  refine lv_iload_n hx hb md_D_placeNumerator_17 rfl (lv_at hl 2 rfl) ?_
  refine lv_i2l (v := Int32.toInt64 k) hx hb md_D_placeNumerator_18 rfl ?_
  refine lv_ldc2 hx hb hown (hg _ wd_425) md_D_placeNumerator_19 ?_
  refine lv_aload_n hx hb md_D_placeNumerator_22 rfl (lv_at hl 1 rfl) ?_
  refine va_get (D := (dC, dI)) (ci := 0) (v := .long dh) (C := mR_D) (T := mT_D) (N := 4) hx hb hg gu_D hown hK hP 0 rfl rfl 1 (by decide) (hg _ wd_46) (fun _ h9 => h9) rfl md_D_placeNumerator_23 ?_
  refine lv_lmul hx hb md_D_placeNumerator_26 ?_
  refine lv_ldc2 hx hb hown (hg _ wd_426) md_D_placeNumerator_27 ?_
  refine lv_lload_n hx hb md_D_placeNumerator_30 rfl (lv_at hl 0 rfl) ?_
  refine lv_lmul hx hb md_D_placeNumerator_31 ?_
  refine lv_lsub hx hb md_D_placeNumerator_32 ?_
  refine lv_lmul hx hb md_D_placeNumerator_33 ?_
  refine lv_ladd hx hb md_D_placeNumerator_34 ?_
  exact pu_lret hx hb hr hlocks md_D_placeNumerator_35 rfl

def fT_letter (tl : Nat → Int32) (row : Int32) : Int32 := tl (Int32.toNatClampNeg row)
set_option maxHeartbeats 1000000 in
set_option maxRecDepth 100000 in
theorem ct_T_letter (l : Launch) (dC : Nat → ClassId) (dI : Nat → Nat → Nat) (cC cI cJ : ClassId) (tA : Nat) (tL : Nat) (tN : Nat) (tS : Nat) (tl : Nat → Int32) (tn : Nat → Int32) (ts : Nat → Int32) (tz : Int32) (row : Int32) (hrow : vp_in row 16) (hch : ∀ j, narrow .char (.int (tl j)) = .int (tl j)) : Met l my_T_letter (.code my_T_letter mb_T_letter 2 (some .char) :: gw_l) ({ frames := 0, cells := 0, slots := 0, locals := 0 }) (pu_Pc (dC, dI) mC [(cC, .char), (cI, .int), (cJ, .long)] [(tA, .inr (2, [.ref tL, .ref tN, .ref tS, .int tz])), (tL, .inl (cC, 16, .inl tl)), (tN, .inl (cI, 96, .inl tn)), (tS, .inl (cI, 16, .inl ts))] (fun _ => True) [.ref tA, .int row]) (vp_Si (fun r => r = fT_letter tl row)) 0 0 (fun _ => False) := by
  refine Met.ofW (cc := mb_T_letter) (maxL := 2) (ret := (some .char)) (by decide) rfl ?_
  intro p e s m args below meth c s₁ B hml hv
  obtain ⟨rfl, hP, hK, hE⟩ := hv
  have hx := B.exec
  have hb := B.bytes
  have hr := B.returns
  have hts := atoms_spec (ws := (.code my_T_letter mb_T_letter 2 (some .char) :: gw_l)) B.pre
  have hg : ∀ w ∈ gw_l, w.before _ s = true := fun w h => hts w (List.mem_cons_of_mem _ h)
  have hown : s.vm.findClass mR_T = some m.cls := findClass_of_methodNamed B.named
  have hlocks := B.notSynchronized
  have hl := lv_entry ([.ref tA, .int row]) (n := 2) (Nat.le_of_ble_eq_true rfl)
  rw [lg_entry_eq]
  generalize (lg_sl ([.ref tA, .int row]) ++ List.replicate (2 - (lg_sl ([.ref tA, .int row])).length) Slot.unset).toArray = ls at hl ⊢
  have hl : lv_has ls 2 [(0, .ref tA), (1, .int row)] := hl
  refine lv_aload_n hx hb md_T_letter_0 rfl (lv_at hl 0 rfl) ?_
  refine va_get (D := (dC, dI)) (ci := 2) (v := .ref tL) (C := mR_T) (T := mT_T) (N := 4) hx hb hg gu_T hown hK hP 0 rfl rfl 0 (by decide) (hg _ wd_83) (fun _ h9 => h9) rfl md_T_letter_1 ?_
  refine lv_iload_n hx hb md_T_letter_4 rfl (lv_at hl 1 rfl) ?_
  refine va_cald hx hb hK hP 1 0 rfl rfl hrow md_T_letter_5 ?_
  exact pu_zret hx hb hr hlocks (hch _) md_T_letter_6 rfl

def fT_number (tn : Nat → Int32) (row : Int32) (k : Int32) : Int32 := tn (Int32.toNatClampNeg ((row * 6) + k))
set_option maxHeartbeats 1000000 in
set_option maxRecDepth 100000 in
theorem ct_T_number (l : Launch) (dC : Nat → ClassId) (dI : Nat → Nat → Nat) (cC cI cJ : ClassId) (tA : Nat) (tL : Nat) (tN : Nat) (tS : Nat) (tl : Nat → Int32) (tn : Nat → Int32) (ts : Nat → Int32) (tz : Int32) (row : Int32) (k : Int32) (hi : vp_in (row * 6 + k) 96) : Met l my_T_number (.code my_T_number mb_T_number 3 (some .int) :: gw_l) ({ frames := 0, cells := 0, slots := 0, locals := 0 }) (pu_Pc (dC, dI) mC [(cC, .char), (cI, .int), (cJ, .long)] [(tA, .inr (2, [.ref tL, .ref tN, .ref tS, .int tz])), (tL, .inl (cC, 16, .inl tl)), (tN, .inl (cI, 96, .inl tn)), (tS, .inl (cI, 16, .inl ts))] (fun _ => True) [.ref tA, .int row, .int k]) (vp_Si (fun r => r = fT_number tn row k)) 0 0 (fun _ => False) := by
  refine Met.ofW (cc := mb_T_number) (maxL := 3) (ret := (some .int)) (by decide) rfl ?_
  intro p e s m args below meth c s₁ B hml hv
  obtain ⟨rfl, hP, hK, hE⟩ := hv
  have hx := B.exec
  have hb := B.bytes
  have hr := B.returns
  have hts := atoms_spec (ws := (.code my_T_number mb_T_number 3 (some .int) :: gw_l)) B.pre
  have hg : ∀ w ∈ gw_l, w.before _ s = true := fun w h => hts w (List.mem_cons_of_mem _ h)
  have hown : s.vm.findClass mR_T = some m.cls := findClass_of_methodNamed B.named
  have hlocks := B.notSynchronized
  have hl := lv_entry ([.ref tA, .int row, .int k]) (n := 3) (Nat.le_of_ble_eq_true rfl)
  rw [lg_entry_eq]
  generalize (lg_sl ([.ref tA, .int row, .int k]) ++ List.replicate (3 - (lg_sl ([.ref tA, .int row, .int k])).length) Slot.unset).toArray = ls at hl ⊢
  have hl : lv_has ls 3 [(0, .ref tA), (1, .int row), (2, .int k)] := hl
  refine lv_aload_n hx hb md_T_number_0 rfl (lv_at hl 0 rfl) ?_
  refine va_get (D := (dC, dI)) (ci := 2) (v := .ref tN) (C := mR_T) (T := mT_T) (N := 4) hx hb hg gu_T hown hK hP 0 rfl rfl 1 (by decide) (hg _ wd_84) (fun _ h9 => h9) rfl md_T_number_1 ?_
  refine lv_iload_n hx hb md_T_number_4 rfl (lv_at hl 1 rfl) ?_
  refine lv_bipush (v := 6) hx hb md_T_number_5 (by decide) ?_
  refine lv_imul hx hb md_T_number_7 ?_
  refine lv_iload_n hx hb md_T_number_8 rfl (lv_at hl 2 rfl) ?_
  refine lv_iadd hx hb md_T_number_9 ?_
  refine va_iald hx hb hK hP 2 1 rfl rfl hi md_T_number_10 ?_
  exact pu_iret hx hb hr hlocks md_T_number_11 rfl

def fH_overlap (ox : Nat → Int32) (oy : Nat → Int32) (oq : Nat → Int32) (a : Int32) (b : Int32) : Int32 := if a = b then 0 else (if (oq (Int32.toNatClampNeg a)) = 0 then 0 else (if (oq (Int32.toNatClampNeg b)) = 0 then 0 else (if (((Int32.toInt64 (oq (Int32.toNatClampNeg a))) + (Int32.toInt64 (oq (Int32.toNatClampNeg b)))) * ((Int32.toInt64 (oq (Int32.toNatClampNeg a))) + (Int32.toInt64 (oq (Int32.toNatClampNeg b))))) ≤ ((((Int32.toInt64 (ox (Int32.toNatClampNeg a))) - (Int32.toInt64 (ox (Int32.toNatClampNeg b)))) * ((Int32.toInt64 (ox (Int32.toNatClampNeg a))) - (Int32.toInt64 (ox (Int32.toNatClampNeg b))))) + (((Int32.toInt64 (oy (Int32.toNatClampNeg a))) - (Int32.toInt64 (oy (Int32.toNatClampNeg b)))) * ((Int32.toInt64 (oy (Int32.toNatClampNeg a))) - (Int32.toInt64 (oy (Int32.toNatClampNeg b)))))) then 0 else 1)))
theorem zH_overlap (ox : Nat → Int32) (oy : Nat → Int32) (oq : Nat → Int32) (a : Int32) (b : Int32) : narrow .boolean (.int (fH_overlap ox oy oq a b)) = .int (fH_overlap ox oy oq a b) := by
  unfold fH_overlap
  repeat' split
  all_goals first | rfl | exact zK_isWithin _ _ _
set_option maxHeartbeats 1000000 in
set_option maxRecDepth 100000 in
theorem ct_H_overlap (l : Launch) (dC : Nat → ClassId) (dI : Nat → Nat → Nat) (cC cI cJ : ClassId) (oA : Nat) (oX : Nat) (oY : Nat) (oR : Nat) (ox : Nat → Int32) (oy : Nat → Int32) (oq : Nat → Int32) (a : Int32) (b : Int32) (ha : vp_in a 16) (hb9 : vp_in b 16) : Met l my_H_overlap (.code my_H_overlap mb_H_overlap 9 (some .boolean) :: gw_l) ({ frames := 0, cells := 0, slots := 0, locals := 0 }) (pu_Pc (dC, dI) mC [(cC, .char), (cI, .int), (cJ, .long)] [(oA, .inr (1, [.ref oX, .ref oY, .ref oR])), (oX, .inl (cI, 16, .inl ox)), (oY, .inl (cI, 16, .inl oy)), (oR, .inl (cI, 16, .inl oq))] (fun _ => True) [.ref oA, .int a, .int b]) (vp_Si (fun r => r = fH_overlap ox oy oq a b)) 0 0 (fun _ => False) := by
  refine Met.ofW (cc := mb_H_overlap) (maxL := 9) (ret := (some .boolean)) (by decide) rfl ?_
  intro p e s m args below meth c s₁ B hml hv
  obtain ⟨rfl, hP, hK, hE⟩ := hv
  have hx := B.exec
  have hb := B.bytes
  have hr := B.returns
  have hts := atoms_spec (ws := (.code my_H_overlap mb_H_overlap 9 (some .boolean) :: gw_l)) B.pre
  have hg : ∀ w ∈ gw_l, w.before _ s = true := fun w h => hts w (List.mem_cons_of_mem _ h)
  have hown : s.vm.findClass mR_H = some m.cls := findClass_of_methodNamed B.named
  have hlocks := B.notSynchronized
  have hl := lv_entry ([.ref oA, .int a, .int b]) (n := 9) (Nat.le_of_ble_eq_true rfl)
  rw [lg_entry_eq]
  generalize (lg_sl ([.ref oA, .int a, .int b]) ++ List.replicate (9 - (lg_sl ([.ref oA, .int a, .int b])).length) Slot.unset).toArray = ls at hl ⊢
  have hl : lv_has ls 9 [(0, .ref oA), (1, .int a), (2, .int b)] := hl
  refine lv_iload_n hx hb md_H_overlap_0 rfl (lv_at hl 1 rfl) ?_
  refine lv_iload_n hx hb md_H_overlap_1 rfl (lv_at hl 2 rfl) ?_
  refine lv_icmp_eq (tgt := 23) hx hb md_H_overlap_2 (by decide) (fun c1 => ?_) (fun c1 => ?_)
  · refine lv_iconst (v := 0) hx hb md_H_overlap_23 (by decide) ?_
    exact pu_zret hx hb hr hlocks rfl md_H_overlap_24 (by rw [fH_overlap, if_pos c1])
  · refine lv_aload_n hx hb md_H_overlap_5 rfl (lv_at hl 0 rfl) ?_
    refine va_get (D := (dC, dI)) (ci := 1) (v := .ref oR) (C := mR_H) (T := mT_H) (N := 3) hx hb hg gu_H hown hK hP 0 rfl rfl 2 (by decide) (hg _ wd_68) (fun _ h9 => h9) rfl md_H_overlap_6 ?_
    refine lv_iload_n hx hb md_H_overlap_9 rfl (lv_at hl 1 rfl) ?_
    refine va_iald hx hb hK hP 3 1 rfl rfl ha md_H_overlap_10 ?_
    refine lv_if_eq (tgt := 23) hx hb md_H_overlap_11 (by decide) (fun c2 => ?_) (fun c2 => ?_)
    · refine lv_iconst (v := 0) hx hb md_H_overlap_23 (by decide) ?_
      exact pu_zret hx hb hr hlocks rfl md_H_overlap_24 (by rw [fH_overlap, if_neg c1, if_pos c2])
    · refine lv_aload_n hx hb md_H_overlap_14 rfl (lv_at hl 0 rfl) ?_
      refine va_get (D := (dC, dI)) (ci := 1) (v := .ref oR) (C := mR_H) (T := mT_H) (N := 3) hx hb hg gu_H hown hK hP 0 rfl rfl 2 (by decide) (hg _ wd_68) (fun _ h9 => h9) rfl md_H_overlap_15 ?_
      refine lv_iload_n hx hb md_H_overlap_18 rfl (lv_at hl 2 rfl) ?_
      refine va_iald hx hb hK hP 3 1 rfl rfl hb9 md_H_overlap_19 ?_
      refine lv_if_ne (tgt := 25) hx hb md_H_overlap_20 (by decide) (fun c3 => ?_) (fun c3 => ?_)
      · refine lv_aload_n hx hb md_H_overlap_25 rfl (lv_at hl 0 rfl) ?_
        refine va_get (D := (dC, dI)) (ci := 1) (v := .ref oX) (C := mR_H) (T := mT_H) (N := 3) hx hb hg gu_H hown hK hP 0 rfl rfl 0 (by decide) (hg _ wd_66) (fun _ h9 => h9) rfl md_H_overlap_26 ?_
        refine lv_iload_n hx hb md_H_overlap_29 rfl (lv_at hl 1 rfl) ?_
        refine va_iald hx hb hK hP 1 1 rfl rfl ha md_H_overlap_30 ?_
        refine lv_i2l (v := Int32.toInt64 (ox (Int32.toNatClampNeg a))) hx hb md_H_overlap_31 rfl ?_
        refine lv_aload_n hx hb md_H_overlap_32 rfl (lv_at hl 0 rfl) ?_
        refine va_get (D := (dC, dI)) (ci := 1) (v := .ref oX) (C := mR_H) (T := mT_H) (N := 3) hx hb hg gu_H hown hK hP 0 rfl rfl 0 (by decide) (hg _ wd_66) (fun _ h9 => h9) rfl md_H_overlap_33 ?_
        refine lv_iload_n hx hb md_H_overlap_36 rfl (lv_at hl 2 rfl) ?_
        refine va_iald hx hb hK hP 1 1 rfl rfl hb9 md_H_overlap_37 ?_
        refine lv_i2l (v := Int32.toInt64 (ox (Int32.toNatClampNeg b))) hx hb md_H_overlap_38 rfl ?_
        refine lv_lsub hx hb md_H_overlap_39 ?_
        refine lv_lstore_n (lv' := [(3, .long ((Int32.toInt64 (ox (Int32.toNatClampNeg a))) - (Int32.toInt64 (ox (Int32.toNatClampNeg b))))), (0, .ref oA), (1, .int a), (2, .int b)]) hx hb md_H_overlap_40 rfl hl (by decide) rfl (fun ls hl => ?_)
        refine lv_aload_n hx hb md_H_overlap_41 rfl (lv_at hl 1 rfl) ?_
        refine va_get (D := (dC, dI)) (ci := 1) (v := .ref oY) (C := mR_H) (T := mT_H) (N := 3) hx hb hg gu_H hown hK hP 0 rfl rfl 1 (by decide) (hg _ wd_67) (fun _ h9 => h9) rfl md_H_overlap_42 ?_
        refine lv_iload_n hx hb md_H_overlap_45 rfl (lv_at hl 2 rfl) ?_
        refine va_iald hx hb hK hP 2 1 rfl rfl ha md_H_overlap_46 ?_
        refine lv_i2l (v := Int32.toInt64 (oy (Int32.toNatClampNeg a))) hx hb md_H_overlap_47 rfl ?_
        refine lv_aload_n hx hb md_H_overlap_48 rfl (lv_at hl 1 rfl) ?_
        refine va_get (D := (dC, dI)) (ci := 1) (v := .ref oY) (C := mR_H) (T := mT_H) (N := 3) hx hb hg gu_H hown hK hP 0 rfl rfl 1 (by decide) (hg _ wd_67) (fun _ h9 => h9) rfl md_H_overlap_49 ?_
        refine lv_iload_n hx hb md_H_overlap_52 rfl (lv_at hl 3 rfl) ?_
        refine va_iald hx hb hK hP 2 1 rfl rfl hb9 md_H_overlap_53 ?_
        refine lv_i2l (v := Int32.toInt64 (oy (Int32.toNatClampNeg b))) hx hb md_H_overlap_54 rfl ?_
        refine lv_lsub hx hb md_H_overlap_55 ?_
        refine lv_lstore (lv' := [(5, .long ((Int32.toInt64 (oy (Int32.toNatClampNeg a))) - (Int32.toInt64 (oy (Int32.toNatClampNeg b))))), (3, .long ((Int32.toInt64 (ox (Int32.toNatClampNeg a))) - (Int32.toInt64 (ox (Int32.toNatClampNeg b))))), (0, .ref oA), (1, .int a), (2, .int b)]) hx hb md_H_overlap_56 hl (by decide) rfl (fun ls hl => ?_)
        refine lv_aload_n hx hb md_H_overlap_58 rfl (lv_at hl 2 rfl) ?_
        refine va_get (D := (dC, dI)) (ci := 1) (v := .ref oR) (C := mR_H) (T := mT_H) (N := 3) hx hb hg gu_H hown hK hP 0 rfl rfl 2 (by decide) (hg _ wd_68) (fun _ h9 => h9) rfl md_H_overlap_59 ?_
        refine lv_iload_n hx hb md_H_overlap_62 rfl (lv_at hl 3 rfl) ?_
        refine va_iald hx hb hK hP 3 1 rfl rfl ha md_H_overlap_63 ?_
        refine lv_i2l (v := Int32.toInt64 (oq (Int32.toNatClampNeg a))) hx hb md_H_overlap_64 rfl ?_
        refine lv_aload_n hx hb md_H_overlap_65 rfl (lv_at hl 2 rfl) ?_
        refine va_get (D := (dC, dI)) (ci := 1) (v := .ref oR) (C := mR_H) (T := mT_H) (N := 3) hx hb hg gu_H hown hK hP 0 rfl rfl 2 (by decide) (hg _ wd_68) (fun _ h9 => h9) rfl md_H_overlap_66 ?_
        refine lv_iload_n hx hb md_H_overlap_69 rfl (lv_at hl 4 rfl) ?_
        refine va_iald hx hb hK hP 3 1 rfl rfl hb9 md_H_overlap_70 ?_
        refine lv_i2l (v := Int32.toInt64 (oq (Int32.toNatClampNeg b))) hx hb md_H_overlap_71 rfl ?_
        refine lv_ladd hx hb md_H_overlap_72 ?_
        refine lv_lstore (lv' := [(7, .long ((Int32.toInt64 (oq (Int32.toNatClampNeg a))) + (Int32.toInt64 (oq (Int32.toNatClampNeg b))))), (5, .long ((Int32.toInt64 (oy (Int32.toNatClampNeg a))) - (Int32.toInt64 (oy (Int32.toNatClampNeg b))))), (3, .long ((Int32.toInt64 (ox (Int32.toNatClampNeg a))) - (Int32.toInt64 (ox (Int32.toNatClampNeg b))))), (0, .ref oA), (1, .int a), (2, .int b)]) hx hb md_H_overlap_73 hl (by decide) rfl (fun ls hl => ?_)
        refine lv_lload_n hx hb md_H_overlap_75 rfl (lv_at hl 2 rfl) ?_
        refine lv_lload_n hx hb md_H_overlap_76 rfl (lv_at hl 2 rfl) ?_
        refine lv_lmul hx hb md_H_overlap_77 ?_
        refine lv_lload hx hb md_H_overlap_78 (lv_at hl 1 rfl) ?_
        refine lv_lload hx hb md_H_overlap_80 (lv_at hl 1 rfl) ?_
        refine lv_lmul hx hb md_H_overlap_82 ?_
        refine lv_ladd hx hb md_H_overlap_83 ?_
        refine lv_lload hx hb md_H_overlap_84 (lv_at hl 0 rfl) ?_
        refine lv_lload hx hb md_H_overlap_86 (lv_at hl 0 rfl) ?_
        refine lv_lmul hx hb md_H_overlap_88 ?_
        refine lx_ge (tgt := 97) hx hb md_H_overlap_89 md_H_overlap_90 (by decide) (fun c4 => ?_) (fun c4 => ?_)
        · refine lv_iconst (v := 0) hx hb md_H_overlap_97 (by decide) ?_
          exact pu_zret hx hb hr hlocks rfl md_H_overlap_98 (by rw [fH_overlap, if_neg c1, if_neg c2, if_neg c3, if_pos c4])
        · refine lv_iconst (v := 1) hx hb md_H_overlap_93 (by decide) ?_
          refine lv_goto (tgt := 98) hx hb md_H_overlap_94 (by decide) ?_
          exact pu_zret hx hb hr hlocks rfl md_H_overlap_98 (by rw [fH_overlap, if_neg c1, if_neg c2, if_neg c3, if_neg c4])
      · refine lv_iconst (v := 0) hx hb md_H_overlap_23 (by decide) ?_
        exact pu_zret hx hb hr hlocks rfl md_H_overlap_24 (by rw [fH_overlap, if_neg c1, if_neg c2, if_pos c3])

def fT_isStocked (tl : Nat → Int32) (ts : Nat → Int32) (row : Int32) (letter : Int32) : Int32 := if (tl (Int32.toNatClampNeg row)) = letter then (if (ts (Int32.toNatClampNeg row)) ≤ 0 then 0 else 1) else 0
theorem zT_isStocked (tl : Nat → Int32) (ts : Nat → Int32) (row : Int32) (letter : Int32) : narrow .boolean (.int (fT_isStocked tl ts row letter)) = .int (fT_isStocked tl ts row letter) := by
  unfold fT_isStocked
  repeat' split
  all_goals first | rfl | exact zK_isWithin _ _ _
set_option maxHeartbeats 1000000 in
set_option maxRecDepth 100000 in
theorem ct_T_isStocked (l : Launch) (dC : Nat → ClassId) (dI : Nat → Nat → Nat) (cC cI cJ : ClassId) (tA : Nat) (tL : Nat) (tN : Nat) (tS : Nat) (tl : Nat → Int32) (tn : Nat → Int32) (ts : Nat → Int32) (tz : Int32) (row : Int32) (letter : Int32) (hrow : vp_in row 16) : Met l my_T_isStocked (.code my_T_isStocked mb_T_isStocked 3 (some .boolean) :: gw_l) ({ frames := 0, cells := 0, slots := 0, locals := 0 }) (pu_Pc (dC, dI) mC [(cC, .char), (cI, .int), (cJ, .long)] [(tA, .inr (2, [.ref tL, .ref tN, .ref tS, .int tz])), (tL, .inl (cC, 16, .inl tl)), (tN, .inl (cI, 96, .inl tn)), (tS, .inl (cI, 16, .inl ts))] (fun _ => True) [.ref tA, .int row, .int letter]) (vp_Si (fun r => r = fT_isStocked tl ts row letter)) 0 0 (fun _ => False) := by
  refine Met.ofW (cc := mb_T_isStocked) (maxL := 3) (ret := (some .boolean)) (by decide) rfl ?_
  intro p e s m args below meth c s₁ B hml hv
  obtain ⟨rfl, hP, hK, hE⟩ := hv
  have hx := B.exec
  have hb := B.bytes
  have hr := B.returns
  have hts := atoms_spec (ws := (.code my_T_isStocked mb_T_isStocked 3 (some .boolean) :: gw_l)) B.pre
  have hg : ∀ w ∈ gw_l, w.before _ s = true := fun w h => hts w (List.mem_cons_of_mem _ h)
  have hown : s.vm.findClass mR_T = some m.cls := findClass_of_methodNamed B.named
  have hlocks := B.notSynchronized
  have hl := lv_entry ([.ref tA, .int row, .int letter]) (n := 3) (Nat.le_of_ble_eq_true rfl)
  rw [lg_entry_eq]
  generalize (lg_sl ([.ref tA, .int row, .int letter]) ++ List.replicate (3 - (lg_sl ([.ref tA, .int row, .int letter])).length) Slot.unset).toArray = ls at hl ⊢
  have hl : lv_has ls 3 [(0, .ref tA), (1, .int row), (2, .int letter)] := hl
  refine lv_aload_n hx hb md_T_isStocked_0 rfl (lv_at hl 0 rfl) ?_
  refine va_get (D := (dC, dI)) (ci := 2) (v := .ref tL) (C := mR_T) (T := mT_T) (N := 4) hx hb hg gu_T hown hK hP 0 rfl rfl 0 (by decide) (hg _ wd_83) (fun _ h9 => h9) rfl md_T_isStocked_1 ?_
  refine lv_iload_n hx hb md_T_isStocked_4 rfl (lv_at hl 1 rfl) ?_
  refine va_cald hx hb hK hP 1 0 rfl rfl hrow md_T_isStocked_5 ?_
  refine lv_iload_n hx hb md_T_isStocked_6 rfl (lv_at hl 2 rfl) ?_
  refine lv_icmp_ne (tgt := 23) hx hb md_T_isStocked_7 (by decide) (fun c1 => ?_) (fun c1 => ?_)
  · refine lv_iconst (v := 0) hx hb md_T_isStocked_23 (by decide) ?_
    exact pu_zret hx hb hr hlocks rfl md_T_isStocked_24 (by rw [fT_isStocked, if_neg c1])
  · refine lv_aload_n hx hb md_T_isStocked_10 rfl (lv_at hl 0 rfl) ?_
    refine va_get (D := (dC, dI)) (ci := 2) (v := .ref tS) (C := mR_T) (T := mT_T) (N := 4) hx hb hg gu_T hown hK hP 0 rfl rfl 2 (by decide) (hg _ wd_85) (fun _ h9 => h9) rfl md_T_isStocked_11 ?_
    refine lv_iload_n hx hb md_T_isStocked_14 rfl (lv_at hl 1 rfl) ?_
    refine va_iald hx hb hK hP 3 1 rfl rfl hrow md_T_isStocked_15 ?_
    refine lv_if_le (tgt := 23) hx hb md_T_isStocked_16 (by decide) (fun c2 => ?_) (fun c2 => ?_)
    · refine lv_iconst (v := 0) hx hb md_T_isStocked_23 (by decide) ?_
      exact pu_zret hx hb hr hlocks rfl md_T_isStocked_24 (by rw [fT_isStocked, if_pos c1, if_pos c2])
    · refine lv_iconst (v := 1) hx hb md_T_isStocked_19 (by decide) ?_
      refine lv_goto (tgt := 24) hx hb md_T_isStocked_20 (by decide) ?_
      exact pu_zret hx hb hr hlocks rfl md_T_isStocked_24 (by rw [fT_isStocked, if_pos c1, if_neg c2])

def fT_holds (tn : Nat → Int32) (row : Int32) (k : Int32) (least : Int64) (greatest : Int64) : Int32 := if least < (Int32.toInt64 (fT_number tn row k)) then 0 else (if (Int32.toInt64 (fT_number tn row (k + 1))) < greatest then 0 else 1)
theorem zT_holds (tn : Nat → Int32) (row : Int32) (k : Int32) (least : Int64) (greatest : Int64) : narrow .boolean (.int (fT_holds tn row k least greatest)) = .int (fT_holds tn row k least greatest) := by
  unfold fT_holds
  repeat' split
  all_goals first | rfl | exact zK_isWithin _ _ _
set_option maxHeartbeats 1000000 in
set_option maxRecDepth 100000 in
theorem ct_T_holds (l : Launch) (dC : Nat → ClassId) (dI : Nat → Nat → Nat) (cC cI cJ : ClassId) (tA : Nat) (tL : Nat) (tN : Nat) (tS : Nat) (tl : Nat → Int32) (tn : Nat → Int32) (ts : Nat → Int32) (tz : Int32) (row : Int32) (k : Int32) (least : Int64) (greatest : Int64) (h1 : vp_in (row * 6 + k) 96) (h2 : vp_in (row * 6 + (k + 1)) 96) : Met l my_T_holds (.code my_T_holds mb_T_holds 7 (some .boolean) :: gw_l) ({ frames := 1, cells := 0, slots := 0, locals := 22 }) (pu_Pc (dC, dI) mC [(cC, .char), (cI, .int), (cJ, .long)] [(tA, .inr (2, [.ref tL, .ref tN, .ref tS, .int tz])), (tL, .inl (cC, 16, .inl tl)), (tN, .inl (cI, 96, .inl tn)), (tS, .inl (cI, 16, .inl ts))] (fun _ => True) [.ref tA, .int row, .int k, .long least, .long greatest]) (vp_Si (fun r => r = fT_holds tn row k least greatest)) 0 0 (fun _ => False) := by
  refine Met.ofW (cc := mb_T_holds) (maxL := 7) (ret := (some .boolean)) (by decide) rfl ?_
  intro p e s m args below meth c s₁ B hml hv
  obtain ⟨rfl, hP, hK, hE⟩ := hv
  have hx := B.exec
  have hb := B.bytes
  have hr := B.returns
  have hts := atoms_spec (ws := (.code my_T_holds mb_T_holds 7 (some .boolean) :: gw_l)) B.pre
  have hg : ∀ w ∈ gw_l, w.before _ s = true := fun w h => hts w (List.mem_cons_of_mem _ h)
  have hown : s.vm.findClass mR_T = some m.cls := findClass_of_methodNamed B.named
  have hlocks := B.notSynchronized
  have hl := lv_entry ([.ref tA, .int row, .int k, .long least, .long greatest]) (n := 7) (Nat.le_of_ble_eq_true rfl)
  rw [lg_entry_eq]
  generalize (lg_sl ([.ref tA, .int row, .int k, .long least, .long greatest]) ++ List.replicate (7 - (lg_sl ([.ref tA, .int row, .int k, .long least, .long greatest])).length) Slot.unset).toArray = ls at hl ⊢
  have hl : lv_has ls 7 [(0, .ref tA), (1, .int row), (2, .int k), (3, .long least), (5, .long greatest)] := hl
  refine lv_aload_n hx hb md_T_holds_0 rfl (lv_at hl 0 rfl) ?_
  refine lv_iload_n hx hb md_T_holds_1 rfl (lv_at hl 1 rfl) ?_
  refine lv_iload_n hx hb md_T_holds_2 rfl (lv_at hl 2 rfl) ?_
  have hPc1 := hP.sub (ws' := [(tA, .inr (2, [.ref tL, .ref tN, .ref tS, .int tz])), (tL, .inl (cC, 16, .inl tl)), (tN, .inl (cI, 96, .inl tn)), (tS, .inl (cI, 16, .inl ts))]) [0, 1, 2, 3] rfl
  refine pu_i (W.runV (As := [.int row, .int k]) (rest := []) ⟨hx, hb, hml, hown, hg⟩ (ct_T_number l dC dI cC cI cJ tA tL tN tS tl tn ts tz row k h1) (gw_cwV hg wd_162 mv_T_number rfl rfl ⟨Nat.le_of_ble_eq_true rfl, Nat.le_of_ble_eq_true rfl⟩) (pu_preV (ci := 2) (q0 := 0) pu_blT hK hPc1 pu_e1 rfl rfl) rfl rfl hl.1 rfl (lv_room (Nat.le_of_ble_eq_true rfl)) md_T_holds_3 ⟨Nat.zero_le _, Nat.zero_le _⟩) ?_
  refine lv_i2l (v := Int32.toInt64 (fT_number tn row k)) hx hb md_T_holds_6 rfl ?_
  refine lv_lload_n hx hb md_T_holds_7 rfl (lv_at hl 3 rfl) ?_
  refine lx_gt (tgt := 31) hx hb md_T_holds_8 md_T_holds_9 (by decide) (fun c2 => ?_) (fun c2 => ?_)
  · refine lv_iconst (v := 0) hx hb md_T_holds_31 (by decide) ?_
    exact pu_zret hx hb hr hlocks rfl md_T_holds_32 (by rw [fT_holds, if_pos c2])
  · refine lv_lload hx hb md_T_holds_12 (lv_at hl 4 rfl) ?_
    refine lv_aload_n hx hb md_T_holds_14 rfl (lv_at hl 0 rfl) ?_
    refine lv_iload_n hx hb md_T_holds_15 rfl (lv_at hl 1 rfl) ?_
    refine lv_iload_n hx hb md_T_holds_16 rfl (lv_at hl 2 rfl) ?_
    refine lv_iconst (v := 1) hx hb md_T_holds_17 (by decide) ?_
    refine lv_iadd hx hb md_T_holds_18 ?_
    have hPc3 := hP.sub (ws' := [(tA, .inr (2, [.ref tL, .ref tN, .ref tS, .int tz])), (tL, .inl (cC, 16, .inl tl)), (tN, .inl (cI, 96, .inl tn)), (tS, .inl (cI, 16, .inl ts))]) [0, 1, 2, 3] rfl
    refine pu_i (W.runV (As := [.int row, .int (k + 1)]) (rest := [.long greatest]) ⟨hx, hb, hml, hown, hg⟩ (ct_T_number l dC dI cC cI cJ tA tL tN tS tl tn ts tz row (k + 1) h2) (gw_cwV hg wd_162 mv_T_number rfl rfl ⟨Nat.le_of_ble_eq_true rfl, Nat.le_of_ble_eq_true rfl⟩) (pu_preV (ci := 2) (q0 := 0) pu_blT hK hPc3 pu_e1 rfl rfl) rfl rfl hl.1 rfl (lv_room (Nat.le_of_ble_eq_true rfl)) md_T_holds_19 ⟨Nat.zero_le _, Nat.zero_le _⟩) ?_
    refine lv_i2l (v := Int32.toInt64 (fT_number tn row (k + 1))) hx hb md_T_holds_22 rfl ?_
    refine lx_gt (tgt := 31) hx hb md_T_holds_23 md_T_holds_24 (by decide) (fun c4 => ?_) (fun c4 => ?_)
    · refine lv_iconst (v := 0) hx hb md_T_holds_31 (by decide) ?_
      exact pu_zret hx hb hr hlocks rfl md_T_holds_32 (by rw [fT_holds, if_neg c2, if_pos c4])
    · refine lv_iconst (v := 1) hx hb md_T_holds_27 (by decide) ?_
      refine lv_goto (tgt := 32) hx hb md_T_holds_28 (by decide) ?_
      exact pu_zret hx hb hr hlocks rfl md_T_holds_32 (by rw [fT_holds, if_neg c2, if_neg c4])

def fT_mayStand (tl : Nat → Int32) (tn : Nat → Int32) (row : Int32) (k : Int32) (value : Int32) : Int32 := if (tl (Int32.toNatClampNeg row)) = 104 then (if k = 1 then (if value < (fT_number tn row (k - 1)) then 0 else 1) else (if k = 3 then (if value < (fT_number tn row (k - 1)) then 0 else 1) else (if (tl (Int32.toNatClampNeg row)) = 99 then (if k = 2 then (if value < 1 then 0 else (if 9 < value then 0 else 1)) else 1) else 1))) else (if (tl (Int32.toNatClampNeg row)) = 99 then (if k = 2 then (if value < 1 then 0 else (if 9 < value then 0 else 1)) else 1) else 1)
theorem zT_mayStand (tl : Nat → Int32) (tn : Nat → Int32) (row : Int32) (k : Int32) (value : Int32) : narrow .boolean (.int (fT_mayStand tl tn row k value)) = .int (fT_mayStand tl tn row k value) := by
  unfold fT_mayStand
  repeat' split
  all_goals first | rfl | exact zK_isWithin _ _ _
set_option maxHeartbeats 1000000 in
set_option maxRecDepth 100000 in
theorem ct_T_mayStand (l : Launch) (dC : Nat → ClassId) (dI : Nat → Nat → Nat) (cC cI cJ : ClassId) (tA : Nat) (tL : Nat) (tN : Nat) (tS : Nat) (tl : Nat → Int32) (tn : Nat → Int32) (ts : Nat → Int32) (tz : Int32) (row : Int32) (k : Int32) (value : Int32) (hrow : vp_in row 16) (h1 : k = 1 ∨ k = 3 → vp_in (row * 6 + (k - 1)) 96) : Met l my_T_mayStand (.code my_T_mayStand mb_T_mayStand 4 (some .boolean) :: gw_l) ({ frames := 1, cells := 0, slots := 0, locals := 22 }) (pu_Pc (dC, dI) mC [(cC, .char), (cI, .int), (cJ, .long)] [(tA, .inr (2, [.ref tL, .ref tN, .ref tS, .int tz])), (tL, .inl (cC, 16, .inl tl)), (tN, .inl (cI, 96, .inl tn)), (tS, .inl (cI, 16, .inl ts))] (fun _ => True) [.ref tA, .int row, .int k, .int value]) (vp_Si (fun r => r = fT_mayStand tl tn row k value)) 0 0 (fun _ => False) := by
  refine Met.ofW (cc := mb_T_mayStand) (maxL := 4) (ret := (some .boolean)) (by decide) rfl ?_
  intro p e s m args below meth c s₁ B hml hv
  obtain ⟨rfl, hP, hK, hE⟩ := hv
  have hx := B.exec
  have hb := B.bytes
  have hr := B.returns
  have hts := atoms_spec (ws := (.code my_T_mayStand mb_T_mayStand 4 (some .boolean) :: gw_l)) B.pre
  have hg : ∀ w ∈ gw_l, w.before _ s = true := fun w h => hts w (List.mem_cons_of_mem _ h)
  have hown : s.vm.findClass mR_T = some m.cls := findClass_of_methodNamed B.named
  have hlocks := B.notSynchronized
  have hl := lv_entry ([.ref tA, .int row, .int k, .int value]) (n := 4) (Nat.le_of_ble_eq_true rfl)
  rw [lg_entry_eq]
  generalize (lg_sl ([.ref tA, .int row, .int k, .int value]) ++ List.replicate (4 - (lg_sl ([.ref tA, .int row, .int k, .int value])).length) Slot.unset).toArray = ls at hl ⊢
  have hl : lv_has ls 4 [(0, .ref tA), (1, .int row), (2, .int k), (3, .int value)] := hl
  refine lv_aload_n hx hb md_T_mayStand_0 rfl (lv_at hl 0 rfl) ?_
  refine va_get (D := (dC, dI)) (ci := 2) (v := .ref tL) (C := mR_T) (T := mT_T) (N := 4) hx hb hg gu_T hown hK hP 0 rfl rfl 0 (by decide) (hg _ wd_83) (fun _ h9 => h9) rfl md_T_mayStand_1 ?_
  refine lv_iload_n hx hb md_T_mayStand_4 rfl (lv_at hl 1 rfl) ?_
  refine va_cald hx hb hK hP 1 0 rfl rfl hrow md_T_mayStand_5 ?_
  refine lv_bipush (v := 104) hx hb md_T_mayStand_6 (by decide) ?_
  refine lv_icmp_ne (tgt := 39) hx hb md_T_mayStand_8 (by decide) (fun c1 => ?_) (fun c1 => ?_)
  · refine lv_aload_n hx hb md_T_mayStand_39 rfl (lv_at hl 0 rfl) ?_
    refine va_get (D := (dC, dI)) (ci := 2) (v := .ref tL) (C := mR_T) (T := mT_T) (N := 4) hx hb hg gu_T hown hK hP 0 rfl rfl 0 (by decide) (hg _ wd_83) (fun _ h9 => h9) rfl md_T_mayStand_40 ?_
    refine lv_iload_n hx hb md_T_mayStand_43 rfl (lv_at hl 1 rfl) ?_
    refine va_cald hx hb hK hP 1 0 rfl rfl hrow md_T_mayStand_44 ?_
    refine lv_bipush (v := 99) hx hb md_T_mayStand_45 (by decide) ?_
    refine lv_icmp_ne (tgt := 72) hx hb md_T_mayStand_47 (by decide) (fun c2 => ?_) (fun c2 => ?_)
    · refine lv_iconst (v := 1) hx hb md_T_mayStand_72 (by decide) ?_
      exact pu_zret hx hb hr hlocks rfl md_T_mayStand_73 (by rw [fT_mayStand, if_neg c1, if_neg c2])
    · refine lv_iload_n hx hb md_T_mayStand_50 rfl (lv_at hl 2 rfl) ?_
      refine lv_iconst (v := 2) hx hb md_T_mayStand_51 (by decide) ?_
      refine lv_icmp_ne (tgt := 72) hx hb md_T_mayStand_52 (by decide) (fun c3 => ?_) (fun c3 => ?_)
      · refine lv_iconst (v := 1) hx hb md_T_mayStand_72 (by decide) ?_
        exact pu_zret hx hb hr hlocks rfl md_T_mayStand_73 (by rw [fT_mayStand, if_neg c1, if_pos c2, if_neg c3])
      · refine lv_iload_n hx hb md_T_mayStand_55 rfl (lv_at hl 3 rfl) ?_
        refine lv_iconst (v := 1) hx hb md_T_mayStand_56 (by decide) ?_
        refine lv_icmp_lt (tgt := 70) hx hb md_T_mayStand_57 (by decide) (fun c4 => ?_) (fun c4 => ?_)
        · refine lv_iconst (v := 0) hx hb md_T_mayStand_70 (by decide) ?_
          exact pu_zret hx hb hr hlocks rfl md_T_mayStand_71 (by rw [fT_mayStand, if_neg c1, if_pos c2, if_pos c3, if_pos c4])
        · refine lv_iload_n hx hb md_T_mayStand_60 rfl (lv_at hl 3 rfl) ?_
          refine lv_bipush (v := 9) hx hb md_T_mayStand_61 (by decide) ?_
          refine lv_icmp_gt (tgt := 70) hx hb md_T_mayStand_63 (by decide) (fun c5 => ?_) (fun c5 => ?_)
          · refine lv_iconst (v := 0) hx hb md_T_mayStand_70 (by decide) ?_
            exact pu_zret hx hb hr hlocks rfl md_T_mayStand_71 (by rw [fT_mayStand, if_neg c1, if_pos c2, if_pos c3, if_neg c4, if_pos c5])
          · refine lv_iconst (v := 1) hx hb md_T_mayStand_66 (by decide) ?_
            refine lv_goto (tgt := 71) hx hb md_T_mayStand_67 (by decide) ?_
            exact pu_zret hx hb hr hlocks rfl md_T_mayStand_71 (by rw [fT_mayStand, if_neg c1, if_pos c2, if_pos c3, if_neg c4, if_neg c5])
  · refine lv_iload_n hx hb md_T_mayStand_11 rfl (lv_at hl 2 rfl) ?_
    refine lv_iconst (v := 1) hx hb md_T_mayStand_12 (by decide) ?_
    refine lv_icmp_eq (tgt := 21) hx hb md_T_mayStand_13 (by decide) (fun c6 => ?_) (fun c6 => ?_)
    · refine lv_iload_n hx hb md_T_mayStand_21 rfl (lv_at hl 3 rfl) ?_
      refine lv_aload_n hx hb md_T_mayStand_22 rfl (lv_at hl 0 rfl) ?_
      refine lv_iload_n hx hb md_T_mayStand_23 rfl (lv_at hl 1 rfl) ?_
      refine lv_iload_n hx hb md_T_mayStand_24 rfl (lv_at hl 2 rfl) ?_
      refine lv_iconst (v := 1) hx hb md_T_mayStand_25 (by decide) ?_
      refine lv_isub hx hb md_T_mayStand_26 ?_
      have hPc7 := hP.sub (ws' := [(tA, .inr (2, [.ref tL, .ref tN, .ref tS, .int tz])), (tL, .inl (cC, 16, .inl tl)), (tN, .inl (cI, 96, .inl tn)), (tS, .inl (cI, 16, .inl ts))]) [0, 1, 2, 3] rfl
      refine pu_i (W.runV (As := [.int row, .int (k - 1)]) (rest := [.int value]) ⟨hx, hb, hml, hown, hg⟩ (ct_T_number l dC dI cC cI cJ tA tL tN tS tl tn ts tz row (k - 1) (h1 (Or.inl c6))) (gw_cwV hg wd_162 mv_T_number rfl rfl ⟨Nat.le_of_ble_eq_true rfl, Nat.le_of_ble_eq_true rfl⟩) (pu_preV (ci := 2) (q0 := 0) pu_blT hK hPc7 pu_e1 rfl rfl) rfl rfl hl.1 rfl (lv_room (Nat.le_of_ble_eq_true rfl)) md_T_mayStand_27 ⟨Nat.zero_le _, Nat.zero_le _⟩) ?_
      refine lv_icmp_lt (tgt := 37) hx hb md_T_mayStand_30 (by decide) (fun c8 => ?_) (fun c8 => ?_)
      · refine lv_iconst (v := 0) hx hb md_T_mayStand_37 (by decide) ?_
        exact pu_zret hx hb hr hlocks rfl md_T_mayStand_38 (by rw [fT_mayStand, if_pos c1, if_pos c6, if_pos c8])
      · refine lv_iconst (v := 1) hx hb md_T_mayStand_33 (by decide) ?_
        refine lv_goto (tgt := 38) hx hb md_T_mayStand_34 (by decide) ?_
        exact pu_zret hx hb hr hlocks rfl md_T_mayStand_38 (by rw [fT_mayStand, if_pos c1, if_pos c6, if_neg c8])
    · refine lv_iload_n hx hb md_T_mayStand_16 rfl (lv_at hl 2 rfl) ?_
      refine lv_iconst (v := 3) hx hb md_T_mayStand_17 (by decide) ?_
      refine lv_icmp_ne (tgt := 39) hx hb md_T_mayStand_18 (by decide) (fun c9 => ?_) (fun c9 => ?_)
      · refine lv_aload_n hx hb md_T_mayStand_39 rfl (lv_at hl 0 rfl) ?_
        refine va_get (D := (dC, dI)) (ci := 2) (v := .ref tL) (C := mR_T) (T := mT_T) (N := 4) hx hb hg gu_T hown hK hP 0 rfl rfl 0 (by decide) (hg _ wd_83) (fun _ h9 => h9) rfl md_T_mayStand_40 ?_
        refine lv_iload_n hx hb md_T_mayStand_43 rfl (lv_at hl 1 rfl) ?_
        refine va_cald hx hb hK hP 1 0 rfl rfl hrow md_T_mayStand_44 ?_
        refine lv_bipush (v := 99) hx hb md_T_mayStand_45 (by decide) ?_
        refine lv_icmp_ne (tgt := 72) hx hb md_T_mayStand_47 (by decide) (fun c10 => ?_) (fun c10 => ?_)
        · refine lv_iconst (v := 1) hx hb md_T_mayStand_72 (by decide) ?_
          exact pu_zret hx hb hr hlocks rfl md_T_mayStand_73 (by rw [fT_mayStand, if_pos c1, if_neg c6, if_neg c9, if_neg c10])
        · refine lv_iload_n hx hb md_T_mayStand_50 rfl (lv_at hl 2 rfl) ?_
          refine lv_iconst (v := 2) hx hb md_T_mayStand_51 (by decide) ?_
          refine lv_icmp_ne (tgt := 72) hx hb md_T_mayStand_52 (by decide) (fun c11 => ?_) (fun c11 => ?_)
          · refine lv_iconst (v := 1) hx hb md_T_mayStand_72 (by decide) ?_
            exact pu_zret hx hb hr hlocks rfl md_T_mayStand_73 (by rw [fT_mayStand, if_pos c1, if_neg c6, if_neg c9, if_pos c10, if_neg c11])
          · refine lv_iload_n hx hb md_T_mayStand_55 rfl (lv_at hl 3 rfl) ?_
            refine lv_iconst (v := 1) hx hb md_T_mayStand_56 (by decide) ?_
            refine lv_icmp_lt (tgt := 70) hx hb md_T_mayStand_57 (by decide) (fun c12 => ?_) (fun c12 => ?_)
            · refine lv_iconst (v := 0) hx hb md_T_mayStand_70 (by decide) ?_
              exact pu_zret hx hb hr hlocks rfl md_T_mayStand_71 (by rw [fT_mayStand, if_pos c1, if_neg c6, if_neg c9, if_pos c10, if_pos c11, if_pos c12])
            · refine lv_iload_n hx hb md_T_mayStand_60 rfl (lv_at hl 3 rfl) ?_
              refine lv_bipush (v := 9) hx hb md_T_mayStand_61 (by decide) ?_
              refine lv_icmp_gt (tgt := 70) hx hb md_T_mayStand_63 (by decide) (fun c13 => ?_) (fun c13 => ?_)
              · refine lv_iconst (v := 0) hx hb md_T_mayStand_70 (by decide) ?_
                exact pu_zret hx hb hr hlocks rfl md_T_mayStand_71 (by rw [fT_mayStand, if_pos c1, if_neg c6, if_neg c9, if_pos c10, if_pos c11, if_neg c12, if_pos c13])
              · refine lv_iconst (v := 1) hx hb md_T_mayStand_66 (by decide) ?_
                refine lv_goto (tgt := 71) hx hb md_T_mayStand_67 (by decide) ?_
                exact pu_zret hx hb hr hlocks rfl md_T_mayStand_71 (by rw [fT_mayStand, if_pos c1, if_neg c6, if_neg c9, if_pos c10, if_pos c11, if_neg c12, if_neg c13])
      · refine lv_iload_n hx hb md_T_mayStand_21 rfl (lv_at hl 3 rfl) ?_
        refine lv_aload_n hx hb md_T_mayStand_22 rfl (lv_at hl 0 rfl) ?_
        refine lv_iload_n hx hb md_T_mayStand_23 rfl (lv_at hl 1 rfl) ?_
        refine lv_iload_n hx hb md_T_mayStand_24 rfl (lv_at hl 2 rfl) ?_
        refine lv_iconst (v := 1) hx hb md_T_mayStand_25 (by decide) ?_
        refine lv_isub hx hb md_T_mayStand_26 ?_
        have hPc14 := hP.sub (ws' := [(tA, .inr (2, [.ref tL, .ref tN, .ref tS, .int tz])), (tL, .inl (cC, 16, .inl tl)), (tN, .inl (cI, 96, .inl tn)), (tS, .inl (cI, 16, .inl ts))]) [0, 1, 2, 3] rfl
        refine pu_i (W.runV (As := [.int row, .int (k - 1)]) (rest := [.int value]) ⟨hx, hb, hml, hown, hg⟩ (ct_T_number l dC dI cC cI cJ tA tL tN tS tl tn ts tz row (k - 1) (h1 (Or.inr c9))) (gw_cwV hg wd_162 mv_T_number rfl rfl ⟨Nat.le_of_ble_eq_true rfl, Nat.le_of_ble_eq_true rfl⟩) (pu_preV (ci := 2) (q0 := 0) pu_blT hK hPc14 pu_e1 rfl rfl) rfl rfl hl.1 rfl (lv_room (Nat.le_of_ble_eq_true rfl)) md_T_mayStand_27 ⟨Nat.zero_le _, Nat.zero_le _⟩) ?_
        refine lv_icmp_lt (tgt := 37) hx hb md_T_mayStand_30 (by decide) (fun c15 => ?_) (fun c15 => ?_)
        · refine lv_iconst (v := 0) hx hb md_T_mayStand_37 (by decide) ?_
          exact pu_zret hx hb hr hlocks rfl md_T_mayStand_38 (by rw [fT_mayStand, if_pos c1, if_neg c6, if_pos c9, if_pos c15])
        · refine lv_iconst (v := 1) hx hb md_T_mayStand_33 (by decide) ?_
          refine lv_goto (tgt := 38) hx hb md_T_mayStand_34 (by decide) ?_
          exact pu_zret hx hb hr hlocks rfl md_T_mayStand_38 (by rw [fT_mayStand, if_pos c1, if_neg c6, if_pos c9, if_neg c15])
end
section

end
section
theorem md_L_row_0 : decode mb_L_row 0 = .ok (.aload_n 3, 1) := by decide +kernel
theorem md_L_row_1 : decode mb_L_row 1 = .ok (.iconst 0, 1) := by decide +kernel
theorem md_L_row_2 : decode mb_L_row 2 = .ok (.aload_n 0, 1) := by decide +kernel
theorem md_L_row_3 : decode mb_L_row 3 = .ok (.iload_n 1, 1) := by decide +kernel
theorem md_L_row_4 : decode mb_L_row 4 = .ok (.iload_n 2, 1) := by decide +kernel
theorem md_L_row_5 : decode mb_L_row 5 = .ok (.invokevirtual 7, 3) := by decide +kernel
theorem md_L_row_8 : decode mb_L_row 8 = .ok (.i2l, 1) := by decide +kernel
theorem md_L_row_9 : decode mb_L_row 9 = .ok (.lastore, 1) := by decide +kernel
theorem md_L_row_10 : decode mb_L_row 10 = .ok (.goto 11, 3) := by decide +kernel
theorem md_L_row_13 : decode mb_L_row 13 = .ok (.astore 4, 2) := by decide +kernel
theorem md_L_row_15 : decode mb_L_row 15 = .ok (.iconst 1, 1) := by decide +kernel
theorem md_L_row_16 : decode mb_L_row 16 = .ok (.ireturn, 1) := by decide +kernel
theorem md_L_row_17 : decode mb_L_row 17 = .ok (.astore 4, 2) := by decide +kernel
theorem md_L_row_19 : decode mb_L_row 19 = .ok (.iconst 2, 1) := by decide +kernel
theorem md_L_row_20 : decode mb_L_row 20 = .ok (.ireturn, 1) := by decide +kernel
theorem md_L_row_21 : decode mb_L_row 21 = .ok (.iconst 0, 1) := by decide +kernel
theorem md_L_row_22 : decode mb_L_row 22 = .ok (.ireturn, 1) := by decide +kernel
theorem md_L_stock_0 : decode mb_L_stock 0 = .ok (.aload_n 3, 1) := by decide +kernel
theorem md_L_stock_1 : decode mb_L_stock 1 = .ok (.iconst 0, 1) := by decide +kernel
theorem md_L_stock_2 : decode mb_L_stock 2 = .ok (.aload_n 0, 1) := by decide +kernel
theorem md_L_stock_3 : decode mb_L_stock 3 = .ok (.iload_n 1, 1) := by decide +kernel
theorem md_L_stock_4 : decode mb_L_stock 4 = .ok (.iload_n 2, 1) := by decide +kernel
theorem md_L_stock_5 : decode mb_L_stock 5 = .ok (.invokevirtual 17, 3) := by decide +kernel
theorem md_L_stock_8 : decode mb_L_stock 8 = .ok (.ifCond .eq 7, 3) := by decide +kernel
theorem md_L_stock_11 : decode mb_L_stock 11 = .ok (.lconst 1, 1) := by decide +kernel
theorem md_L_stock_12 : decode mb_L_stock 12 = .ok (.goto 4, 3) := by decide +kernel
theorem md_L_stock_15 : decode mb_L_stock 15 = .ok (.lconst 0, 1) := by decide +kernel
theorem md_L_stock_16 : decode mb_L_stock 16 = .ok (.lastore, 1) := by decide +kernel
theorem md_L_stock_17 : decode mb_L_stock 17 = .ok (.goto 15, 3) := by decide +kernel
theorem md_L_stock_20 : decode mb_L_stock 20 = .ok (.astore 4, 2) := by decide +kernel
theorem md_L_stock_22 : decode mb_L_stock 22 = .ok (.iconst 1, 1) := by decide +kernel
theorem md_L_stock_23 : decode mb_L_stock 23 = .ok (.ireturn, 1) := by decide +kernel
theorem md_L_stock_24 : decode mb_L_stock 24 = .ok (.astore 4, 2) := by decide +kernel
theorem md_L_stock_26 : decode mb_L_stock 26 = .ok (.iconst 2, 1) := by decide +kernel
theorem md_L_stock_27 : decode mb_L_stock 27 = .ok (.ireturn, 1) := by decide +kernel
theorem md_L_stock_28 : decode mb_L_stock 28 = .ok (.astore 4, 2) := by decide +kernel
theorem md_L_stock_30 : decode mb_L_stock 30 = .ok (.iconst 3, 1) := by decide +kernel
theorem md_L_stock_31 : decode mb_L_stock 31 = .ok (.ireturn, 1) := by decide +kernel
theorem md_L_stock_32 : decode mb_L_stock 32 = .ok (.iconst 0, 1) := by decide +kernel
theorem md_L_stock_33 : decode mb_L_stock 33 = .ok (.ireturn, 1) := by decide +kernel
theorem md_L_hinge_0 : decode mb_L_hinge 0 = .ok (.aload 6, 2) := by decide +kernel
theorem md_L_hinge_2 : decode mb_L_hinge 2 = .ok (.iconst 0, 1) := by decide +kernel
theorem md_L_hinge_3 : decode mb_L_hinge 3 = .ok (.aload_n 0, 1) := by decide +kernel
theorem md_L_hinge_4 : decode mb_L_hinge 4 = .ok (.lload_n 1, 1) := by decide +kernel
theorem md_L_hinge_5 : decode mb_L_hinge 5 = .ok (.lload_n 3, 1) := by decide +kernel
theorem md_L_hinge_6 : decode mb_L_hinge 6 = .ok (.iload 5, 2) := by decide +kernel
theorem md_L_hinge_8 : decode mb_L_hinge 8 = .ok (.invokevirtual 23, 3) := by decide +kernel
theorem md_L_hinge_11 : decode mb_L_hinge 11 = .ok (.i2l, 1) := by decide +kernel
theorem md_L_hinge_12 : decode mb_L_hinge 12 = .ok (.lastore, 1) := by decide +kernel
theorem md_L_hinge_13 : decode mb_L_hinge 13 = .ok (.goto 7, 3) := by decide +kernel
theorem md_L_hinge_16 : decode mb_L_hinge 16 = .ok (.astore 7, 2) := by decide +kernel
theorem md_L_hinge_18 : decode mb_L_hinge 18 = .ok (.iconst 1, 1) := by decide +kernel
theorem md_L_hinge_19 : decode mb_L_hinge 19 = .ok (.ireturn, 1) := by decide +kernel
theorem md_L_hinge_20 : decode mb_L_hinge 20 = .ok (.iconst 0, 1) := by decide +kernel
theorem md_L_hinge_21 : decode mb_L_hinge 21 = .ok (.ireturn, 1) := by decide +kernel
theorem md_L_other_0 : decode mb_L_other 0 = .ok (.aload_n 3, 1) := by decide +kernel
theorem md_L_other_1 : decode mb_L_other 1 = .ok (.iconst 0, 1) := by decide +kernel
theorem md_L_other_2 : decode mb_L_other 2 = .ok (.aload_n 0, 1) := by decide +kernel
theorem md_L_other_3 : decode mb_L_other 3 = .ok (.iload_n 1, 1) := by decide +kernel
theorem md_L_other_4 : decode mb_L_other 4 = .ok (.iload_n 2, 1) := by decide +kernel
theorem md_L_other_5 : decode mb_L_other 5 = .ok (.invokevirtual 27, 3) := by decide +kernel
theorem md_L_other_8 : decode mb_L_other 8 = .ok (.i2l, 1) := by decide +kernel
theorem md_L_other_9 : decode mb_L_other 9 = .ok (.lastore, 1) := by decide +kernel
theorem md_L_other_10 : decode mb_L_other 10 = .ok (.goto 15, 3) := by decide +kernel
theorem md_L_other_13 : decode mb_L_other 13 = .ok (.astore 4, 2) := by decide +kernel
theorem md_L_other_15 : decode mb_L_other 15 = .ok (.iconst 1, 1) := by decide +kernel
theorem md_L_other_16 : decode mb_L_other 16 = .ok (.ireturn, 1) := by decide +kernel
theorem md_L_other_17 : decode mb_L_other 17 = .ok (.astore 4, 2) := by decide +kernel
theorem md_L_other_19 : decode mb_L_other 19 = .ok (.iconst 2, 1) := by decide +kernel
theorem md_L_other_20 : decode mb_L_other 20 = .ok (.ireturn, 1) := by decide +kernel
theorem md_L_other_21 : decode mb_L_other 21 = .ok (.astore 4, 2) := by decide +kernel
theorem md_L_other_23 : decode mb_L_other 23 = .ok (.iconst 3, 1) := by decide +kernel
theorem md_L_other_24 : decode mb_L_other 24 = .ok (.ireturn, 1) := by decide +kernel
theorem md_L_other_25 : decode mb_L_other 25 = .ok (.iconst 0, 1) := by decide +kernel
theorem md_L_other_26 : decode mb_L_other 26 = .ok (.ireturn, 1) := by decide +kernel
theorem md_L_slide_0 : decode mb_L_slide 0 = .ok (.aload_n 3, 1) := by decide +kernel
theorem md_L_slide_1 : decode mb_L_slide 1 = .ok (.iconst 0, 1) := by decide +kernel
theorem md_L_slide_2 : decode mb_L_slide 2 = .ok (.aload_n 0, 1) := by decide +kernel
theorem md_L_slide_3 : decode mb_L_slide 3 = .ok (.lload_n 1, 1) := by decide +kernel
theorem md_L_slide_4 : decode mb_L_slide 4 = .ok (.invokevirtual 30, 3) := by decide +kernel
theorem md_L_slide_7 : decode mb_L_slide 7 = .ok (.i2l, 1) := by decide +kernel
theorem md_L_slide_8 : decode mb_L_slide 8 = .ok (.lastore, 1) := by decide +kernel
theorem md_L_slide_9 : decode mb_L_slide 9 = .ok (.goto 7, 3) := by decide +kernel
theorem md_L_slide_12 : decode mb_L_slide 12 = .ok (.astore 4, 2) := by decide +kernel
theorem md_L_slide_14 : decode mb_L_slide 14 = .ok (.iconst 1, 1) := by decide +kernel
theorem md_L_slide_15 : decode mb_L_slide 15 = .ok (.ireturn, 1) := by decide +kernel
theorem md_L_slide_16 : decode mb_L_slide 16 = .ok (.iconst 0, 1) := by decide +kernel
theorem md_L_slide_17 : decode mb_L_slide 17 = .ok (.ireturn, 1) := by decide +kernel
theorem md_L_door_0 : decode mb_L_door 0 = .ok (.aload 9, 2) := by decide +kernel
theorem md_L_door_2 : decode mb_L_door 2 = .ok (.iconst 0, 1) := by decide +kernel
theorem md_L_door_3 : decode mb_L_door 3 = .ok (.aload_n 0, 1) := by decide +kernel
theorem md_L_door_4 : decode mb_L_door 4 = .ok (.lload_n 1, 1) := by decide +kernel
theorem md_L_door_5 : decode mb_L_door 5 = .ok (.lload_n 3, 1) := by decide +kernel
theorem md_L_door_6 : decode mb_L_door 6 = .ok (.lload 5, 2) := by decide +kernel
theorem md_L_door_8 : decode mb_L_door 8 = .ok (.lload 7, 2) := by decide +kernel
theorem md_L_door_10 : decode mb_L_door 10 = .ok (.invokevirtual 34, 3) := by decide +kernel
theorem md_L_door_13 : decode mb_L_door 13 = .ok (.ifCond .eq 7, 3) := by decide +kernel
theorem md_L_door_16 : decode mb_L_door 16 = .ok (.lconst 1, 1) := by decide +kernel
theorem md_L_door_17 : decode mb_L_door 17 = .ok (.goto 4, 3) := by decide +kernel
theorem md_L_door_20 : decode mb_L_door 20 = .ok (.lconst 0, 1) := by decide +kernel
theorem md_L_door_21 : decode mb_L_door 21 = .ok (.lastore, 1) := by decide +kernel
theorem md_L_door_22 : decode mb_L_door 22 = .ok (.goto 7, 3) := by decide +kernel
theorem md_L_door_25 : decode mb_L_door 25 = .ok (.astore 10, 2) := by decide +kernel
theorem md_L_door_27 : decode mb_L_door 27 = .ok (.iconst 1, 1) := by decide +kernel
theorem md_L_door_28 : decode mb_L_door 28 = .ok (.ireturn, 1) := by decide +kernel
theorem md_L_door_29 : decode mb_L_door 29 = .ok (.iconst 0, 1) := by decide +kernel
theorem md_L_door_30 : decode mb_L_door 30 = .ok (.ireturn, 1) := by decide +kernel
theorem md_L_weight_0 : decode mb_L_weight 0 = .ok (.aload_n 2, 1) := by decide +kernel
theorem md_L_weight_1 : decode mb_L_weight 1 = .ok (.iconst 0, 1) := by decide +kernel
theorem md_L_weight_2 : decode mb_L_weight 2 = .ok (.aload_n 0, 1) := by decide +kernel
theorem md_L_weight_3 : decode mb_L_weight 3 = .ok (.iload_n 1, 1) := by decide +kernel
theorem md_L_weight_4 : decode mb_L_weight 4 = .ok (.invokevirtual 38, 3) := by decide +kernel
theorem md_L_weight_7 : decode mb_L_weight 7 = .ok (.lastore, 1) := by decide +kernel
theorem md_L_weight_8 : decode mb_L_weight 8 = .ok (.goto 6, 3) := by decide +kernel
theorem md_L_weight_11 : decode mb_L_weight 11 = .ok (.astore_n 3, 1) := by decide +kernel
theorem md_L_weight_12 : decode mb_L_weight 12 = .ok (.iconst 1, 1) := by decide +kernel
theorem md_L_weight_13 : decode mb_L_weight 13 = .ok (.ireturn, 1) := by decide +kernel
theorem md_L_weight_14 : decode mb_L_weight 14 = .ok (.iconst 0, 1) := by decide +kernel
theorem md_L_weight_15 : decode mb_L_weight 15 = .ok (.ireturn, 1) := by decide +kernel
theorem md_L_count_0 : decode mb_L_count 0 = .ok (.aload_n 1, 1) := by decide +kernel
theorem md_L_count_1 : decode mb_L_count 1 = .ok (.iconst 0, 1) := by decide +kernel
theorem md_L_count_2 : decode mb_L_count 2 = .ok (.aload_n 0, 1) := by decide +kernel
theorem md_L_count_3 : decode mb_L_count 3 = .ok (.invokevirtual 42, 3) := by decide +kernel
theorem md_L_count_6 : decode mb_L_count 6 = .ok (.i2l, 1) := by decide +kernel
theorem md_L_count_7 : decode mb_L_count 7 = .ok (.lastore, 1) := by decide +kernel
theorem md_L_count_8 : decode mb_L_count 8 = .ok (.goto 6, 3) := by decide +kernel
theorem md_L_count_11 : decode mb_L_count 11 = .ok (.astore_n 2, 1) := by decide +kernel
theorem md_L_count_12 : decode mb_L_count 12 = .ok (.iconst 1, 1) := by decide +kernel
theorem md_L_count_13 : decode mb_L_count 13 = .ok (.ireturn, 1) := by decide +kernel
theorem md_L_count_14 : decode mb_L_count 14 = .ok (.iconst 0, 1) := by decide +kernel
theorem md_L_count_15 : decode mb_L_count 15 = .ok (.ireturn, 1) := by decide +kernel
theorem md_L_place_0 : decode mb_L_place 0 = .ok (.aload_n 3, 1) := by decide +kernel
theorem md_L_place_1 : decode mb_L_place 1 = .ok (.iconst 0, 1) := by decide +kernel
theorem md_L_place_2 : decode mb_L_place 2 = .ok (.aload_n 0, 1) := by decide +kernel
theorem md_L_place_3 : decode mb_L_place 3 = .ok (.iload_n 1, 1) := by decide +kernel
theorem md_L_place_4 : decode mb_L_place 4 = .ok (.iload_n 2, 1) := by decide +kernel
theorem md_L_place_5 : decode mb_L_place 5 = .ok (.invokevirtual 46, 3) := by decide +kernel
theorem md_L_place_8 : decode mb_L_place 8 = .ok (.lastore, 1) := by decide +kernel
theorem md_L_place_9 : decode mb_L_place 9 = .ok (.goto 11, 3) := by decide +kernel
theorem md_L_place_12 : decode mb_L_place 12 = .ok (.astore 4, 2) := by decide +kernel
theorem md_L_place_14 : decode mb_L_place 14 = .ok (.iconst 1, 1) := by decide +kernel
theorem md_L_place_15 : decode mb_L_place 15 = .ok (.ireturn, 1) := by decide +kernel
theorem md_L_place_16 : decode mb_L_place 16 = .ok (.astore 4, 2) := by decide +kernel
theorem md_L_place_18 : decode mb_L_place 18 = .ok (.iconst 2, 1) := by decide +kernel
theorem md_L_place_19 : decode mb_L_place 19 = .ok (.ireturn, 1) := by decide +kernel
theorem md_L_place_20 : decode mb_L_place 20 = .ok (.iconst 0, 1) := by decide +kernel
theorem md_L_place_21 : decode mb_L_place 21 = .ok (.ireturn, 1) := by decide +kernel
theorem md_L_hole_0 : decode mb_L_hole 0 = .ok (.aload 8, 2) := by decide +kernel
theorem md_L_hole_2 : decode mb_L_hole 2 = .ok (.iconst 0, 1) := by decide +kernel
theorem md_L_hole_3 : decode mb_L_hole 3 = .ok (.aload_n 0, 1) := by decide +kernel
theorem md_L_hole_4 : decode mb_L_hole 4 = .ok (.iload_n 1, 1) := by decide +kernel
theorem md_L_hole_5 : decode mb_L_hole 5 = .ok (.lload_n 2, 1) := by decide +kernel
theorem md_L_hole_6 : decode mb_L_hole 6 = .ok (.lload 4, 2) := by decide +kernel
theorem md_L_hole_8 : decode mb_L_hole 8 = .ok (.lload 6, 2) := by decide +kernel
theorem md_L_hole_10 : decode mb_L_hole 10 = .ok (.invokevirtual 50, 3) := by decide +kernel
theorem md_L_hole_13 : decode mb_L_hole 13 = .ok (.ifCond .eq 7, 3) := by decide +kernel
theorem md_L_hole_16 : decode mb_L_hole 16 = .ok (.lconst 1, 1) := by decide +kernel
theorem md_L_hole_17 : decode mb_L_hole 17 = .ok (.goto 4, 3) := by decide +kernel
theorem md_L_hole_20 : decode mb_L_hole 20 = .ok (.lconst 0, 1) := by decide +kernel
theorem md_L_hole_21 : decode mb_L_hole 21 = .ok (.lastore, 1) := by decide +kernel
theorem md_L_hole_22 : decode mb_L_hole 22 = .ok (.goto 11, 3) := by decide +kernel
theorem md_L_hole_25 : decode mb_L_hole 25 = .ok (.astore 9, 2) := by decide +kernel
theorem md_L_hole_27 : decode mb_L_hole 27 = .ok (.iconst 1, 1) := by decide +kernel
theorem md_L_hole_28 : decode mb_L_hole 28 = .ok (.ireturn, 1) := by decide +kernel
theorem md_L_hole_29 : decode mb_L_hole 29 = .ok (.astore 9, 2) := by decide +kernel
theorem md_L_hole_31 : decode mb_L_hole 31 = .ok (.iconst 2, 1) := by decide +kernel
theorem md_L_hole_32 : decode mb_L_hole 32 = .ok (.ireturn, 1) := by decide +kernel
theorem md_L_hole_33 : decode mb_L_hole 33 = .ok (.iconst 0, 1) := by decide +kernel
theorem md_L_hole_34 : decode mb_L_hole 34 = .ok (.ireturn, 1) := by decide +kernel
theorem md_L_meet_0 : decode mb_L_meet 0 = .ok (.aload_n 3, 1) := by decide +kernel
theorem md_L_meet_1 : decode mb_L_meet 1 = .ok (.iconst 0, 1) := by decide +kernel
theorem md_L_meet_2 : decode mb_L_meet 2 = .ok (.aload_n 0, 1) := by decide +kernel
theorem md_L_meet_3 : decode mb_L_meet 3 = .ok (.iload_n 1, 1) := by decide +kernel
theorem md_L_meet_4 : decode mb_L_meet 4 = .ok (.iload_n 2, 1) := by decide +kernel
theorem md_L_meet_5 : decode mb_L_meet 5 = .ok (.invokevirtual 54, 3) := by decide +kernel
theorem md_L_meet_8 : decode mb_L_meet 8 = .ok (.ifCond .eq 7, 3) := by decide +kernel
theorem md_L_meet_11 : decode mb_L_meet 11 = .ok (.lconst 1, 1) := by decide +kernel
theorem md_L_meet_12 : decode mb_L_meet 12 = .ok (.goto 4, 3) := by decide +kernel
theorem md_L_meet_15 : decode mb_L_meet 15 = .ok (.lconst 0, 1) := by decide +kernel
theorem md_L_meet_16 : decode mb_L_meet 16 = .ok (.lastore, 1) := by decide +kernel
theorem md_L_meet_17 : decode mb_L_meet 17 = .ok (.goto 7, 3) := by decide +kernel
theorem md_L_meet_20 : decode mb_L_meet 20 = .ok (.astore 4, 2) := by decide +kernel
theorem md_L_meet_22 : decode mb_L_meet 22 = .ok (.iconst 1, 1) := by decide +kernel
theorem md_L_meet_23 : decode mb_L_meet 23 = .ok (.ireturn, 1) := by decide +kernel
theorem md_L_meet_24 : decode mb_L_meet 24 = .ok (.iconst 0, 1) := by decide +kernel
theorem md_L_meet_25 : decode mb_L_meet 25 = .ok (.ireturn, 1) := by decide +kernel
theorem md_L_pair_0 : decode mb_L_pair 0 = .ok (.aload_n 2, 1) := by decide +kernel
theorem md_L_pair_1 : decode mb_L_pair 1 = .ok (.iconst 0, 1) := by decide +kernel
theorem md_L_pair_2 : decode mb_L_pair 2 = .ok (.aload_n 0, 1) := by decide +kernel
theorem md_L_pair_3 : decode mb_L_pair 3 = .ok (.iload_n 1, 1) := by decide +kernel
theorem md_L_pair_4 : decode mb_L_pair 4 = .ok (.invokevirtual 57, 3) := by decide +kernel
theorem md_L_pair_7 : decode mb_L_pair 7 = .ok (.i2l, 1) := by decide +kernel
theorem md_L_pair_8 : decode mb_L_pair 8 = .ok (.lastore, 1) := by decide +kernel
theorem md_L_pair_9 : decode mb_L_pair 9 = .ok (.goto 6, 3) := by decide +kernel
theorem md_L_pair_12 : decode mb_L_pair 12 = .ok (.astore_n 3, 1) := by decide +kernel
theorem md_L_pair_13 : decode mb_L_pair 13 = .ok (.iconst 1, 1) := by decide +kernel
theorem md_L_pair_14 : decode mb_L_pair 14 = .ok (.ireturn, 1) := by decide +kernel
theorem md_L_pair_15 : decode mb_L_pair 15 = .ok (.iconst 0, 1) := by decide +kernel
theorem md_L_pair_16 : decode mb_L_pair 16 = .ok (.ireturn, 1) := by decide +kernel
theorem md_L_wall_0 : decode mb_L_wall 0 = .ok (.aload_n 3, 1) := by decide +kernel
theorem md_L_wall_1 : decode mb_L_wall 1 = .ok (.iconst 0, 1) := by decide +kernel
theorem md_L_wall_2 : decode mb_L_wall 2 = .ok (.aload_n 0, 1) := by decide +kernel
theorem md_L_wall_3 : decode mb_L_wall 3 = .ok (.lload_n 1, 1) := by decide +kernel
theorem md_L_wall_4 : decode mb_L_wall 4 = .ok (.invokevirtual 61, 3) := by decide +kernel
theorem md_L_wall_7 : decode mb_L_wall 7 = .ok (.i2l, 1) := by decide +kernel
theorem md_L_wall_8 : decode mb_L_wall 8 = .ok (.lastore, 1) := by decide +kernel
theorem md_L_wall_9 : decode mb_L_wall 9 = .ok (.goto 7, 3) := by decide +kernel
theorem md_L_wall_12 : decode mb_L_wall 12 = .ok (.astore 4, 2) := by decide +kernel
theorem md_L_wall_14 : decode mb_L_wall 14 = .ok (.iconst 1, 1) := by decide +kernel
theorem md_L_wall_15 : decode mb_L_wall 15 = .ok (.ireturn, 1) := by decide +kernel
theorem md_L_wall_16 : decode mb_L_wall 16 = .ok (.iconst 0, 1) := by decide +kernel
theorem md_L_wall_17 : decode mb_L_wall 17 = .ok (.ireturn, 1) := by decide +kernel
theorem md_L_corner_0 : decode mb_L_corner 0 = .ok (.aload 4, 2) := by decide +kernel
theorem md_L_corner_2 : decode mb_L_corner 2 = .ok (.iconst 0, 1) := by decide +kernel
theorem md_L_corner_3 : decode mb_L_corner 3 = .ok (.aload_n 0, 1) := by decide +kernel
theorem md_L_corner_4 : decode mb_L_corner 4 = .ok (.iload_n 1, 1) := by decide +kernel
theorem md_L_corner_5 : decode mb_L_corner 5 = .ok (.iload_n 2, 1) := by decide +kernel
theorem md_L_corner_6 : decode mb_L_corner 6 = .ok (.iload_n 3, 1) := by decide +kernel
theorem md_L_corner_7 : decode mb_L_corner 7 = .ok (.invokevirtual 64, 3) := by decide +kernel
theorem md_L_corner_10 : decode mb_L_corner 10 = .ok (.lastore, 1) := by decide +kernel
theorem md_L_corner_11 : decode mb_L_corner 11 = .ok (.goto 7, 3) := by decide +kernel
theorem md_L_corner_14 : decode mb_L_corner 14 = .ok (.astore 5, 2) := by decide +kernel
theorem md_L_corner_16 : decode mb_L_corner 16 = .ok (.iconst 1, 1) := by decide +kernel
theorem md_L_corner_17 : decode mb_L_corner 17 = .ok (.ireturn, 1) := by decide +kernel
theorem md_L_corner_18 : decode mb_L_corner 18 = .ok (.iconst 0, 1) := by decide +kernel
theorem md_L_corner_19 : decode mb_L_corner 19 = .ok (.ireturn, 1) := by decide +kernel
theorem md_L_rows32_0 : decode mb_L_rows32 0 = .ok (.aload 4, 2) := by decide +kernel
theorem md_L_rows32_2 : decode mb_L_rows32 2 = .ok (.iconst 0, 1) := by decide +kernel
theorem md_L_rows32_3 : decode mb_L_rows32 3 = .ok (.aload_n 0, 1) := by decide +kernel
theorem md_L_rows32_4 : decode mb_L_rows32 4 = .ok (.lload_n 1, 1) := by decide +kernel
theorem md_L_rows32_5 : decode mb_L_rows32 5 = .ok (.iload_n 3, 1) := by decide +kernel
theorem md_L_rows32_6 : decode mb_L_rows32 6 = .ok (.invokevirtual 68, 3) := by decide +kernel
theorem md_L_rows32_9 : decode mb_L_rows32 9 = .ok (.i2l, 1) := by decide +kernel
theorem md_L_rows32_10 : decode mb_L_rows32 10 = .ok (.lastore, 1) := by decide +kernel
theorem md_L_rows32_11 : decode mb_L_rows32 11 = .ok (.goto 7, 3) := by decide +kernel
theorem md_L_rows32_14 : decode mb_L_rows32 14 = .ok (.astore 5, 2) := by decide +kernel
theorem md_L_rows32_16 : decode mb_L_rows32 16 = .ok (.iconst 1, 1) := by decide +kernel
theorem md_L_rows32_17 : decode mb_L_rows32 17 = .ok (.ireturn, 1) := by decide +kernel
theorem md_L_rows32_18 : decode mb_L_rows32 18 = .ok (.iconst 0, 1) := by decide +kernel
theorem md_L_rows32_19 : decode mb_L_rows32 19 = .ok (.ireturn, 1) := by decide +kernel
end
section
theorem md_L_law_0 : decode mb_L_law 0 = .ok (.new 8, 3) := by decide +kernel
theorem md_L_law_3 : decode mb_L_law 3 = .ok (.dup, 1) := by decide +kernel
theorem md_L_law_4 : decode mb_L_law 4 = .ok (.invokespecial 72, 3) := by decide +kernel
theorem md_L_law_7 : decode mb_L_law 7 = .ok (.astore_n 1, 1) := by decide +kernel
theorem md_L_law_8 : decode mb_L_law 8 = .ok (.new 73, 3) := by decide +kernel
theorem md_L_law_11 : decode mb_L_law 11 = .ok (.dup, 1) := by decide +kernel
theorem md_L_law_12 : decode mb_L_law 12 = .ok (.invokespecial 75, 3) := by decide +kernel
theorem md_L_law_15 : decode mb_L_law 15 = .ok (.astore_n 2, 1) := by decide +kernel
theorem md_L_law_16 : decode mb_L_law 16 = .ok (.iconst 1, 1) := by decide +kernel
theorem md_L_law_17 : decode mb_L_law 17 = .ok (.newarray .long, 2) := by decide +kernel
theorem md_L_law_19 : decode mb_L_law 19 = .ok (.astore_n 3, 1) := by decide +kernel
theorem md_L_law_20 : decode mb_L_law 20 = .ok (.iconst 0, 1) := by decide +kernel
theorem md_L_law_21 : decode mb_L_law 21 = .ok (.istore 4, 2) := by decide +kernel
theorem md_L_law_23 : decode mb_L_law 23 = .ok (.iload 4, 2) := by decide +kernel
theorem md_L_law_25 : decode mb_L_law 25 = .ok (.aload_n 0, 1) := by decide +kernel
theorem md_L_law_26 : decode mb_L_law 26 = .ok (.arraylength, 1) := by decide +kernel
theorem md_L_law_27 : decode mb_L_law 27 = .ok (.bipush 9, 2) := by decide +kernel
theorem md_L_law_29 : decode mb_L_law 29 = .ok (.isub, 1) := by decide +kernel
theorem md_L_law_30 : decode mb_L_law 30 = .ok (.if_icmp .gt 1132, 3) := by decide +kernel
theorem md_L_law_33 : decode mb_L_law 33 = .ok (.aload_n 0, 1) := by decide +kernel
theorem md_L_law_34 : decode mb_L_law 34 = .ok (.iload 4, 2) := by decide +kernel
theorem md_L_law_36 : decode mb_L_law 36 = .ok (.iaload, 1) := by decide +kernel
theorem md_L_law_37 : decode mb_L_law 37 = .ok (.bipush 31, 2) := by decide +kernel
theorem md_L_law_39 : decode mb_L_law 39 = .ok (.iand, 1) := by decide +kernel
theorem md_L_law_40 : decode mb_L_law 40 = .ok (.tableswitch 1116 0 16 #[84, 109, 122, 162, 202, 318, 358, 418, 616, 644, 660, 700, 864, 904, 932, 992, 1044], 84) := by decide +kernel
theorem md_L_law_124 : decode mb_L_law 124 = .ok (.aload_n 1, 1) := by decide +kernel
theorem md_L_law_125 : decode mb_L_law 125 = .ok (.aload_n 0, 1) := by decide +kernel
theorem md_L_law_126 : decode mb_L_law 126 = .ok (.iload 4, 2) := by decide +kernel
theorem md_L_law_128 : decode mb_L_law 128 = .ok (.iconst 1, 1) := by decide +kernel
theorem md_L_law_129 : decode mb_L_law 129 = .ok (.iadd, 1) := by decide +kernel
theorem md_L_law_130 : decode mb_L_law 130 = .ok (.iaload, 1) := by decide +kernel
theorem md_L_law_131 : decode mb_L_law 131 = .ok (.invokevirtual 76, 3) := by decide +kernel
theorem md_L_law_134 : decode mb_L_law 134 = .ok (.aload_n 2, 1) := by decide +kernel
theorem md_L_law_135 : decode mb_L_law 135 = .ok (.aload_n 0, 1) := by decide +kernel
theorem md_L_law_136 : decode mb_L_law 136 = .ok (.iload 4, 2) := by decide +kernel
theorem md_L_law_138 : decode mb_L_law 138 = .ok (.iconst 1, 1) := by decide +kernel
theorem md_L_law_139 : decode mb_L_law 139 = .ok (.iadd, 1) := by decide +kernel
theorem md_L_law_140 : decode mb_L_law 140 = .ok (.iaload, 1) := by decide +kernel
theorem md_L_law_141 : decode mb_L_law 141 = .ok (.invokevirtual 80, 3) := by decide +kernel
theorem md_L_law_144 : decode mb_L_law 144 = .ok (.if_icmp .eq 1012, 3) := by decide +kernel
theorem md_L_law_147 : decode mb_L_law 147 = .ok (.iconst 0, 1) := by decide +kernel
theorem md_L_law_148 : decode mb_L_law 148 = .ok (.ireturn, 1) := by decide +kernel
theorem md_L_law_149 : decode mb_L_law 149 = .ok (.aload_n 1, 1) := by decide +kernel
theorem md_L_law_150 : decode mb_L_law 150 = .ok (.invokevirtual 81, 3) := by decide +kernel
theorem md_L_law_153 : decode mb_L_law 153 = .ok (.pop, 1) := by decide +kernel
theorem md_L_law_154 : decode mb_L_law 154 = .ok (.aload_n 2, 1) := by decide +kernel
theorem md_L_law_155 : decode mb_L_law 155 = .ok (.invokevirtual 84, 3) := by decide +kernel
theorem md_L_law_158 : decode mb_L_law 158 = .ok (.pop, 1) := by decide +kernel
theorem md_L_law_159 : decode mb_L_law 159 = .ok (.goto 997, 3) := by decide +kernel
theorem md_L_law_162 : decode mb_L_law 162 = .ok (.aload_n 1, 1) := by decide +kernel
theorem md_L_law_163 : decode mb_L_law 163 = .ok (.aload_n 0, 1) := by decide +kernel
theorem md_L_law_164 : decode mb_L_law 164 = .ok (.iload 4, 2) := by decide +kernel
theorem md_L_law_166 : decode mb_L_law 166 = .ok (.iconst 1, 1) := by decide +kernel
theorem md_L_law_167 : decode mb_L_law 167 = .ok (.iadd, 1) := by decide +kernel
theorem md_L_law_168 : decode mb_L_law 168 = .ok (.iaload, 1) := by decide +kernel
theorem md_L_law_169 : decode mb_L_law 169 = .ok (.aload_n 0, 1) := by decide +kernel
theorem md_L_law_170 : decode mb_L_law 170 = .ok (.iload 4, 2) := by decide +kernel
theorem md_L_law_172 : decode mb_L_law 172 = .ok (.iconst 2, 1) := by decide +kernel
theorem md_L_law_173 : decode mb_L_law 173 = .ok (.iadd, 1) := by decide +kernel
theorem md_L_law_174 : decode mb_L_law 174 = .ok (.iaload, 1) := by decide +kernel
theorem md_L_law_175 : decode mb_L_law 175 = .ok (.aload_n 3, 1) := by decide +kernel
theorem md_L_law_176 : decode mb_L_law 176 = .ok (.invokestatic 85, 3) := by decide +kernel
theorem md_L_law_179 : decode mb_L_law 179 = .ok (.istore 5, 2) := by decide +kernel
theorem md_L_law_181 : decode mb_L_law 181 = .ok (.aload_n 2, 1) := by decide +kernel
theorem md_L_law_182 : decode mb_L_law 182 = .ok (.aload_n 0, 1) := by decide +kernel
theorem md_L_law_183 : decode mb_L_law 183 = .ok (.iload 4, 2) := by decide +kernel
theorem md_L_law_185 : decode mb_L_law 185 = .ok (.iconst 1, 1) := by decide +kernel
theorem md_L_law_186 : decode mb_L_law 186 = .ok (.iadd, 1) := by decide +kernel
theorem md_L_law_187 : decode mb_L_law 187 = .ok (.iaload, 1) := by decide +kernel
theorem md_L_law_188 : decode mb_L_law 188 = .ok (.aload_n 0, 1) := by decide +kernel
theorem md_L_law_189 : decode mb_L_law 189 = .ok (.iload 4, 2) := by decide +kernel
theorem md_L_law_191 : decode mb_L_law 191 = .ok (.iconst 2, 1) := by decide +kernel
theorem md_L_law_192 : decode mb_L_law 192 = .ok (.iadd, 1) := by decide +kernel
theorem md_L_law_193 : decode mb_L_law 193 = .ok (.iaload, 1) := by decide +kernel
theorem md_L_law_194 : decode mb_L_law 194 = .ok (.invokevirtual 90, 3) := by decide +kernel
theorem md_L_law_197 : decode mb_L_law 197 = .ok (.istore 6, 2) := by decide +kernel
theorem md_L_law_199 : decode mb_L_law 199 = .ok (.goto 957, 3) := by decide +kernel
theorem md_L_law_202 : decode mb_L_law 202 = .ok (.aload_n 1, 1) := by decide +kernel
theorem md_L_law_203 : decode mb_L_law 203 = .ok (.aload_n 0, 1) := by decide +kernel
theorem md_L_law_204 : decode mb_L_law 204 = .ok (.iload 4, 2) := by decide +kernel
theorem md_L_law_206 : decode mb_L_law 206 = .ok (.iconst 1, 1) := by decide +kernel
theorem md_L_law_207 : decode mb_L_law 207 = .ok (.iadd, 1) := by decide +kernel
theorem md_L_law_208 : decode mb_L_law 208 = .ok (.iaload, 1) := by decide +kernel
theorem md_L_law_209 : decode mb_L_law 209 = .ok (.aload_n 0, 1) := by decide +kernel
theorem md_L_law_210 : decode mb_L_law 210 = .ok (.iload 4, 2) := by decide +kernel
theorem md_L_law_212 : decode mb_L_law 212 = .ok (.iconst 2, 1) := by decide +kernel
theorem md_L_law_213 : decode mb_L_law 213 = .ok (.iadd, 1) := by decide +kernel
theorem md_L_law_214 : decode mb_L_law 214 = .ok (.iaload, 1) := by decide +kernel
theorem md_L_law_215 : decode mb_L_law 215 = .ok (.aload_n 3, 1) := by decide +kernel
theorem md_L_law_216 : decode mb_L_law 216 = .ok (.invokestatic 91, 3) := by decide +kernel
theorem md_L_law_219 : decode mb_L_law 219 = .ok (.istore 5, 2) := by decide +kernel
theorem md_L_law_221 : decode mb_L_law 221 = .ok (.aload_n 2, 1) := by decide +kernel
theorem md_L_law_222 : decode mb_L_law 222 = .ok (.aload_n 0, 1) := by decide +kernel
theorem md_L_law_223 : decode mb_L_law 223 = .ok (.iload 4, 2) := by decide +kernel
theorem md_L_law_225 : decode mb_L_law 225 = .ok (.iconst 1, 1) := by decide +kernel
theorem md_L_law_226 : decode mb_L_law 226 = .ok (.iadd, 1) := by decide +kernel
theorem md_L_law_227 : decode mb_L_law 227 = .ok (.iaload, 1) := by decide +kernel
theorem md_L_law_228 : decode mb_L_law 228 = .ok (.aload_n 0, 1) := by decide +kernel
theorem md_L_law_229 : decode mb_L_law 229 = .ok (.iload 4, 2) := by decide +kernel
theorem md_L_law_231 : decode mb_L_law 231 = .ok (.iconst 2, 1) := by decide +kernel
theorem md_L_law_232 : decode mb_L_law 232 = .ok (.iadd, 1) := by decide +kernel
theorem md_L_law_233 : decode mb_L_law 233 = .ok (.iaload, 1) := by decide +kernel
theorem md_L_law_234 : decode mb_L_law 234 = .ok (.invokevirtual 93, 3) := by decide +kernel
theorem md_L_law_237 : decode mb_L_law 237 = .ok (.istore 6, 2) := by decide +kernel
theorem md_L_law_239 : decode mb_L_law 239 = .ok (.goto 917, 3) := by decide +kernel
theorem md_L_law_242 : decode mb_L_law 242 = .ok (.aload_n 1, 1) := by decide +kernel
theorem md_L_law_243 : decode mb_L_law 243 = .ok (.aload_n 0, 1) := by decide +kernel
theorem md_L_law_244 : decode mb_L_law 244 = .ok (.iload 4, 2) := by decide +kernel
theorem md_L_law_246 : decode mb_L_law 246 = .ok (.iconst 1, 1) := by decide +kernel
theorem md_L_law_247 : decode mb_L_law 247 = .ok (.iadd, 1) := by decide +kernel
theorem md_L_law_248 : decode mb_L_law 248 = .ok (.iaload, 1) := by decide +kernel
theorem md_L_law_249 : decode mb_L_law 249 = .ok (.i2l, 1) := by decide +kernel
theorem md_L_law_250 : decode mb_L_law 250 = .ok (.bipush 32, 2) := by decide +kernel
theorem md_L_law_252 : decode mb_L_law 252 = .ok (.lshl, 1) := by decide +kernel
theorem md_L_law_253 : decode mb_L_law 253 = .ok (.aload_n 0, 1) := by decide +kernel
theorem md_L_law_254 : decode mb_L_law 254 = .ok (.iload 4, 2) := by decide +kernel
theorem md_L_law_256 : decode mb_L_law 256 = .ok (.iconst 2, 1) := by decide +kernel
theorem md_L_law_257 : decode mb_L_law 257 = .ok (.iadd, 1) := by decide +kernel
theorem md_L_law_258 : decode mb_L_law 258 = .ok (.iaload, 1) := by decide +kernel
theorem md_L_law_259 : decode mb_L_law 259 = .ok (.i2l, 1) := by decide +kernel
theorem md_L_law_260 : decode mb_L_law 260 = .ok (.ldc2_w 94, 3) := by decide +kernel
theorem md_L_law_263 : decode mb_L_law 263 = .ok (.land, 1) := by decide +kernel
theorem md_L_law_264 : decode mb_L_law 264 = .ok (.lor, 1) := by decide +kernel
theorem md_L_law_265 : decode mb_L_law 265 = .ok (.aload_n 0, 1) := by decide +kernel
theorem md_L_law_266 : decode mb_L_law 266 = .ok (.iload 4, 2) := by decide +kernel
theorem md_L_law_268 : decode mb_L_law 268 = .ok (.iconst 3, 1) := by decide +kernel
theorem md_L_law_269 : decode mb_L_law 269 = .ok (.iadd, 1) := by decide +kernel
theorem md_L_law_270 : decode mb_L_law 270 = .ok (.iaload, 1) := by decide +kernel
theorem md_L_law_271 : decode mb_L_law 271 = .ok (.i2l, 1) := by decide +kernel
theorem md_L_law_272 : decode mb_L_law 272 = .ok (.bipush 32, 2) := by decide +kernel
end
section
theorem md_L_law_274 : decode mb_L_law 274 = .ok (.lshl, 1) := by decide +kernel
theorem md_L_law_275 : decode mb_L_law 275 = .ok (.aload_n 0, 1) := by decide +kernel
theorem md_L_law_276 : decode mb_L_law 276 = .ok (.iload 4, 2) := by decide +kernel
theorem md_L_law_278 : decode mb_L_law 278 = .ok (.iconst 4, 1) := by decide +kernel
theorem md_L_law_279 : decode mb_L_law 279 = .ok (.iadd, 1) := by decide +kernel
theorem md_L_law_280 : decode mb_L_law 280 = .ok (.iaload, 1) := by decide +kernel
theorem md_L_law_281 : decode mb_L_law 281 = .ok (.i2l, 1) := by decide +kernel
theorem md_L_law_282 : decode mb_L_law 282 = .ok (.ldc2_w 94, 3) := by decide +kernel
theorem md_L_law_285 : decode mb_L_law 285 = .ok (.land, 1) := by decide +kernel
theorem md_L_law_286 : decode mb_L_law 286 = .ok (.lor, 1) := by decide +kernel
theorem md_L_law_287 : decode mb_L_law 287 = .ok (.aload_n 0, 1) := by decide +kernel
theorem md_L_law_288 : decode mb_L_law 288 = .ok (.iload 4, 2) := by decide +kernel
theorem md_L_law_290 : decode mb_L_law 290 = .ok (.iconst 5, 1) := by decide +kernel
theorem md_L_law_291 : decode mb_L_law 291 = .ok (.iadd, 1) := by decide +kernel
theorem md_L_law_292 : decode mb_L_law 292 = .ok (.iaload, 1) := by decide +kernel
theorem md_L_law_293 : decode mb_L_law 293 = .ok (.aload_n 3, 1) := by decide +kernel
theorem md_L_law_294 : decode mb_L_law 294 = .ok (.invokestatic 96, 3) := by decide +kernel
theorem md_L_law_297 : decode mb_L_law 297 = .ok (.istore 5, 2) := by decide +kernel
theorem md_L_law_299 : decode mb_L_law 299 = .ok (.aload_n 2, 1) := by decide +kernel
theorem md_L_law_300 : decode mb_L_law 300 = .ok (.aload_n 0, 1) := by decide +kernel
theorem md_L_law_301 : decode mb_L_law 301 = .ok (.iload 4, 2) := by decide +kernel
theorem md_L_law_303 : decode mb_L_law 303 = .ok (.iconst 1, 1) := by decide +kernel
theorem md_L_law_304 : decode mb_L_law 304 = .ok (.iadd, 1) := by decide +kernel
theorem md_L_law_305 : decode mb_L_law 305 = .ok (.iaload, 1) := by decide +kernel
theorem md_L_law_306 : decode mb_L_law 306 = .ok (.i2l, 1) := by decide +kernel
theorem md_L_law_307 : decode mb_L_law 307 = .ok (.bipush 32, 2) := by decide +kernel
theorem md_L_law_309 : decode mb_L_law 309 = .ok (.lshl, 1) := by decide +kernel
theorem md_L_law_310 : decode mb_L_law 310 = .ok (.aload_n 0, 1) := by decide +kernel
theorem md_L_law_311 : decode mb_L_law 311 = .ok (.iload 4, 2) := by decide +kernel
theorem md_L_law_313 : decode mb_L_law 313 = .ok (.iconst 2, 1) := by decide +kernel
theorem md_L_law_314 : decode mb_L_law 314 = .ok (.iadd, 1) := by decide +kernel
theorem md_L_law_315 : decode mb_L_law 315 = .ok (.iaload, 1) := by decide +kernel
theorem md_L_law_316 : decode mb_L_law 316 = .ok (.i2l, 1) := by decide +kernel
theorem md_L_law_317 : decode mb_L_law 317 = .ok (.ldc2_w 94, 3) := by decide +kernel
theorem md_L_law_320 : decode mb_L_law 320 = .ok (.land, 1) := by decide +kernel
theorem md_L_law_321 : decode mb_L_law 321 = .ok (.lor, 1) := by decide +kernel
theorem md_L_law_322 : decode mb_L_law 322 = .ok (.aload_n 0, 1) := by decide +kernel
theorem md_L_law_323 : decode mb_L_law 323 = .ok (.iload 4, 2) := by decide +kernel
theorem md_L_law_325 : decode mb_L_law 325 = .ok (.iconst 3, 1) := by decide +kernel
theorem md_L_law_326 : decode mb_L_law 326 = .ok (.iadd, 1) := by decide +kernel
theorem md_L_law_327 : decode mb_L_law 327 = .ok (.iaload, 1) := by decide +kernel
theorem md_L_law_328 : decode mb_L_law 328 = .ok (.i2l, 1) := by decide +kernel
theorem md_L_law_329 : decode mb_L_law 329 = .ok (.bipush 32, 2) := by decide +kernel
theorem md_L_law_331 : decode mb_L_law 331 = .ok (.lshl, 1) := by decide +kernel
theorem md_L_law_332 : decode mb_L_law 332 = .ok (.aload_n 0, 1) := by decide +kernel
theorem md_L_law_333 : decode mb_L_law 333 = .ok (.iload 4, 2) := by decide +kernel
theorem md_L_law_335 : decode mb_L_law 335 = .ok (.iconst 4, 1) := by decide +kernel
theorem md_L_law_336 : decode mb_L_law 336 = .ok (.iadd, 1) := by decide +kernel
theorem md_L_law_337 : decode mb_L_law 337 = .ok (.iaload, 1) := by decide +kernel
theorem md_L_law_338 : decode mb_L_law 338 = .ok (.i2l, 1) := by decide +kernel
theorem md_L_law_339 : decode mb_L_law 339 = .ok (.ldc2_w 94, 3) := by decide +kernel
theorem md_L_law_342 : decode mb_L_law 342 = .ok (.land, 1) := by decide +kernel
theorem md_L_law_343 : decode mb_L_law 343 = .ok (.lor, 1) := by decide +kernel
theorem md_L_law_344 : decode mb_L_law 344 = .ok (.aload_n 0, 1) := by decide +kernel
theorem md_L_law_345 : decode mb_L_law 345 = .ok (.iload 4, 2) := by decide +kernel
theorem md_L_law_347 : decode mb_L_law 347 = .ok (.iconst 5, 1) := by decide +kernel
theorem md_L_law_348 : decode mb_L_law 348 = .ok (.iadd, 1) := by decide +kernel
theorem md_L_law_349 : decode mb_L_law 349 = .ok (.iaload, 1) := by decide +kernel
theorem md_L_law_350 : decode mb_L_law 350 = .ok (.invokevirtual 99, 3) := by decide +kernel
theorem md_L_law_353 : decode mb_L_law 353 = .ok (.istore 6, 2) := by decide +kernel
theorem md_L_law_355 : decode mb_L_law 355 = .ok (.goto 801, 3) := by decide +kernel
theorem md_L_law_358 : decode mb_L_law 358 = .ok (.aload_n 1, 1) := by decide +kernel
theorem md_L_law_359 : decode mb_L_law 359 = .ok (.aload_n 0, 1) := by decide +kernel
theorem md_L_law_360 : decode mb_L_law 360 = .ok (.iload 4, 2) := by decide +kernel
theorem md_L_law_362 : decode mb_L_law 362 = .ok (.iconst 1, 1) := by decide +kernel
theorem md_L_law_363 : decode mb_L_law 363 = .ok (.iadd, 1) := by decide +kernel
theorem md_L_law_364 : decode mb_L_law 364 = .ok (.iaload, 1) := by decide +kernel
theorem md_L_law_365 : decode mb_L_law 365 = .ok (.aload_n 0, 1) := by decide +kernel
theorem md_L_law_366 : decode mb_L_law 366 = .ok (.iload 4, 2) := by decide +kernel
theorem md_L_law_368 : decode mb_L_law 368 = .ok (.iconst 2, 1) := by decide +kernel
theorem md_L_law_369 : decode mb_L_law 369 = .ok (.iadd, 1) := by decide +kernel
theorem md_L_law_370 : decode mb_L_law 370 = .ok (.iaload, 1) := by decide +kernel
theorem md_L_law_371 : decode mb_L_law 371 = .ok (.aload_n 3, 1) := by decide +kernel
theorem md_L_law_372 : decode mb_L_law 372 = .ok (.invokestatic 100, 3) := by decide +kernel
theorem md_L_law_375 : decode mb_L_law 375 = .ok (.istore 5, 2) := by decide +kernel
theorem md_L_law_377 : decode mb_L_law 377 = .ok (.aload_n 2, 1) := by decide +kernel
theorem md_L_law_378 : decode mb_L_law 378 = .ok (.aload_n 0, 1) := by decide +kernel
theorem md_L_law_379 : decode mb_L_law 379 = .ok (.iload 4, 2) := by decide +kernel
theorem md_L_law_381 : decode mb_L_law 381 = .ok (.iconst 1, 1) := by decide +kernel
theorem md_L_law_382 : decode mb_L_law 382 = .ok (.iadd, 1) := by decide +kernel
theorem md_L_law_383 : decode mb_L_law 383 = .ok (.iaload, 1) := by decide +kernel
theorem md_L_law_384 : decode mb_L_law 384 = .ok (.aload_n 0, 1) := by decide +kernel
theorem md_L_law_385 : decode mb_L_law 385 = .ok (.iload 4, 2) := by decide +kernel
theorem md_L_law_387 : decode mb_L_law 387 = .ok (.iconst 2, 1) := by decide +kernel
theorem md_L_law_388 : decode mb_L_law 388 = .ok (.iadd, 1) := by decide +kernel
theorem md_L_law_389 : decode mb_L_law 389 = .ok (.iaload, 1) := by decide +kernel
theorem md_L_law_390 : decode mb_L_law 390 = .ok (.invokevirtual 102, 3) := by decide +kernel
theorem md_L_law_393 : decode mb_L_law 393 = .ok (.istore 6, 2) := by decide +kernel
theorem md_L_law_395 : decode mb_L_law 395 = .ok (.goto 761, 3) := by decide +kernel
theorem md_L_law_398 : decode mb_L_law 398 = .ok (.aload_n 1, 1) := by decide +kernel
theorem md_L_law_399 : decode mb_L_law 399 = .ok (.aload_n 0, 1) := by decide +kernel
theorem md_L_law_400 : decode mb_L_law 400 = .ok (.iload 4, 2) := by decide +kernel
theorem md_L_law_402 : decode mb_L_law 402 = .ok (.iconst 1, 1) := by decide +kernel
theorem md_L_law_403 : decode mb_L_law 403 = .ok (.iadd, 1) := by decide +kernel
theorem md_L_law_404 : decode mb_L_law 404 = .ok (.iaload, 1) := by decide +kernel
theorem md_L_law_405 : decode mb_L_law 405 = .ok (.i2l, 1) := by decide +kernel
theorem md_L_law_406 : decode mb_L_law 406 = .ok (.bipush 32, 2) := by decide +kernel
theorem md_L_law_408 : decode mb_L_law 408 = .ok (.lshl, 1) := by decide +kernel
theorem md_L_law_409 : decode mb_L_law 409 = .ok (.aload_n 0, 1) := by decide +kernel
theorem md_L_law_410 : decode mb_L_law 410 = .ok (.iload 4, 2) := by decide +kernel
theorem md_L_law_412 : decode mb_L_law 412 = .ok (.iconst 2, 1) := by decide +kernel
theorem md_L_law_413 : decode mb_L_law 413 = .ok (.iadd, 1) := by decide +kernel
theorem md_L_law_414 : decode mb_L_law 414 = .ok (.iaload, 1) := by decide +kernel
theorem md_L_law_415 : decode mb_L_law 415 = .ok (.i2l, 1) := by decide +kernel
theorem md_L_law_416 : decode mb_L_law 416 = .ok (.ldc2_w 94, 3) := by decide +kernel
theorem md_L_law_419 : decode mb_L_law 419 = .ok (.land, 1) := by decide +kernel
theorem md_L_law_420 : decode mb_L_law 420 = .ok (.lor, 1) := by decide +kernel
theorem md_L_law_421 : decode mb_L_law 421 = .ok (.aload_n 3, 1) := by decide +kernel
theorem md_L_law_422 : decode mb_L_law 422 = .ok (.invokestatic 103, 3) := by decide +kernel
theorem md_L_law_425 : decode mb_L_law 425 = .ok (.istore 5, 2) := by decide +kernel
theorem md_L_law_427 : decode mb_L_law 427 = .ok (.aload_n 2, 1) := by decide +kernel
theorem md_L_law_428 : decode mb_L_law 428 = .ok (.aload_n 0, 1) := by decide +kernel
theorem md_L_law_429 : decode mb_L_law 429 = .ok (.iload 4, 2) := by decide +kernel
theorem md_L_law_431 : decode mb_L_law 431 = .ok (.iconst 1, 1) := by decide +kernel
theorem md_L_law_432 : decode mb_L_law 432 = .ok (.iadd, 1) := by decide +kernel
theorem md_L_law_433 : decode mb_L_law 433 = .ok (.iaload, 1) := by decide +kernel
theorem md_L_law_434 : decode mb_L_law 434 = .ok (.i2l, 1) := by decide +kernel
theorem md_L_law_435 : decode mb_L_law 435 = .ok (.bipush 32, 2) := by decide +kernel
theorem md_L_law_437 : decode mb_L_law 437 = .ok (.lshl, 1) := by decide +kernel
theorem md_L_law_438 : decode mb_L_law 438 = .ok (.aload_n 0, 1) := by decide +kernel
theorem md_L_law_439 : decode mb_L_law 439 = .ok (.iload 4, 2) := by decide +kernel
theorem md_L_law_441 : decode mb_L_law 441 = .ok (.iconst 2, 1) := by decide +kernel
theorem md_L_law_442 : decode mb_L_law 442 = .ok (.iadd, 1) := by decide +kernel
theorem md_L_law_443 : decode mb_L_law 443 = .ok (.iaload, 1) := by decide +kernel
theorem md_L_law_444 : decode mb_L_law 444 = .ok (.i2l, 1) := by decide +kernel
theorem md_L_law_445 : decode mb_L_law 445 = .ok (.ldc2_w 94, 3) := by decide +kernel
theorem md_L_law_448 : decode mb_L_law 448 = .ok (.land, 1) := by decide +kernel
theorem md_L_law_449 : decode mb_L_law 449 = .ok (.lor, 1) := by decide +kernel
theorem md_L_law_450 : decode mb_L_law 450 = .ok (.invokevirtual 106, 3) := by decide +kernel
theorem md_L_law_453 : decode mb_L_law 453 = .ok (.istore 6, 2) := by decide +kernel
end
section
theorem md_L_law_455 : decode mb_L_law 455 = .ok (.goto 701, 3) := by decide +kernel
theorem md_L_law_458 : decode mb_L_law 458 = .ok (.aload_n 1, 1) := by decide +kernel
theorem md_L_law_459 : decode mb_L_law 459 = .ok (.aload_n 0, 1) := by decide +kernel
theorem md_L_law_460 : decode mb_L_law 460 = .ok (.iload 4, 2) := by decide +kernel
theorem md_L_law_462 : decode mb_L_law 462 = .ok (.iconst 1, 1) := by decide +kernel
theorem md_L_law_463 : decode mb_L_law 463 = .ok (.iadd, 1) := by decide +kernel
theorem md_L_law_464 : decode mb_L_law 464 = .ok (.iaload, 1) := by decide +kernel
theorem md_L_law_465 : decode mb_L_law 465 = .ok (.i2l, 1) := by decide +kernel
theorem md_L_law_466 : decode mb_L_law 466 = .ok (.bipush 32, 2) := by decide +kernel
theorem md_L_law_468 : decode mb_L_law 468 = .ok (.lshl, 1) := by decide +kernel
theorem md_L_law_469 : decode mb_L_law 469 = .ok (.aload_n 0, 1) := by decide +kernel
theorem md_L_law_470 : decode mb_L_law 470 = .ok (.iload 4, 2) := by decide +kernel
theorem md_L_law_472 : decode mb_L_law 472 = .ok (.iconst 2, 1) := by decide +kernel
theorem md_L_law_473 : decode mb_L_law 473 = .ok (.iadd, 1) := by decide +kernel
theorem md_L_law_474 : decode mb_L_law 474 = .ok (.iaload, 1) := by decide +kernel
theorem md_L_law_475 : decode mb_L_law 475 = .ok (.i2l, 1) := by decide +kernel
theorem md_L_law_476 : decode mb_L_law 476 = .ok (.ldc2_w 94, 3) := by decide +kernel
theorem md_L_law_479 : decode mb_L_law 479 = .ok (.land, 1) := by decide +kernel
theorem md_L_law_480 : decode mb_L_law 480 = .ok (.lor, 1) := by decide +kernel
theorem md_L_law_481 : decode mb_L_law 481 = .ok (.aload_n 0, 1) := by decide +kernel
theorem md_L_law_482 : decode mb_L_law 482 = .ok (.iload 4, 2) := by decide +kernel
theorem md_L_law_484 : decode mb_L_law 484 = .ok (.iconst 3, 1) := by decide +kernel
theorem md_L_law_485 : decode mb_L_law 485 = .ok (.iadd, 1) := by decide +kernel
theorem md_L_law_486 : decode mb_L_law 486 = .ok (.iaload, 1) := by decide +kernel
theorem md_L_law_487 : decode mb_L_law 487 = .ok (.i2l, 1) := by decide +kernel
theorem md_L_law_488 : decode mb_L_law 488 = .ok (.bipush 32, 2) := by decide +kernel
theorem md_L_law_490 : decode mb_L_law 490 = .ok (.lshl, 1) := by decide +kernel
theorem md_L_law_491 : decode mb_L_law 491 = .ok (.aload_n 0, 1) := by decide +kernel
theorem md_L_law_492 : decode mb_L_law 492 = .ok (.iload 4, 2) := by decide +kernel
theorem md_L_law_494 : decode mb_L_law 494 = .ok (.iconst 4, 1) := by decide +kernel
theorem md_L_law_495 : decode mb_L_law 495 = .ok (.iadd, 1) := by decide +kernel
theorem md_L_law_496 : decode mb_L_law 496 = .ok (.iaload, 1) := by decide +kernel
theorem md_L_law_497 : decode mb_L_law 497 = .ok (.i2l, 1) := by decide +kernel
theorem md_L_law_498 : decode mb_L_law 498 = .ok (.ldc2_w 94, 3) := by decide +kernel
theorem md_L_law_501 : decode mb_L_law 501 = .ok (.land, 1) := by decide +kernel
theorem md_L_law_502 : decode mb_L_law 502 = .ok (.lor, 1) := by decide +kernel
theorem md_L_law_503 : decode mb_L_law 503 = .ok (.aload_n 0, 1) := by decide +kernel
theorem md_L_law_504 : decode mb_L_law 504 = .ok (.iload 4, 2) := by decide +kernel
theorem md_L_law_506 : decode mb_L_law 506 = .ok (.iconst 5, 1) := by decide +kernel
theorem md_L_law_507 : decode mb_L_law 507 = .ok (.iadd, 1) := by decide +kernel
theorem md_L_law_508 : decode mb_L_law 508 = .ok (.iaload, 1) := by decide +kernel
theorem md_L_law_509 : decode mb_L_law 509 = .ok (.i2l, 1) := by decide +kernel
theorem md_L_law_510 : decode mb_L_law 510 = .ok (.bipush 32, 2) := by decide +kernel
theorem md_L_law_512 : decode mb_L_law 512 = .ok (.lshl, 1) := by decide +kernel
theorem md_L_law_513 : decode mb_L_law 513 = .ok (.aload_n 0, 1) := by decide +kernel
theorem md_L_law_514 : decode mb_L_law 514 = .ok (.iload 4, 2) := by decide +kernel
theorem md_L_law_516 : decode mb_L_law 516 = .ok (.bipush 6, 2) := by decide +kernel
theorem md_L_law_518 : decode mb_L_law 518 = .ok (.iadd, 1) := by decide +kernel
theorem md_L_law_519 : decode mb_L_law 519 = .ok (.iaload, 1) := by decide +kernel
theorem md_L_law_520 : decode mb_L_law 520 = .ok (.i2l, 1) := by decide +kernel
theorem md_L_law_521 : decode mb_L_law 521 = .ok (.ldc2_w 94, 3) := by decide +kernel
theorem md_L_law_524 : decode mb_L_law 524 = .ok (.land, 1) := by decide +kernel
theorem md_L_law_525 : decode mb_L_law 525 = .ok (.lor, 1) := by decide +kernel
theorem md_L_law_526 : decode mb_L_law 526 = .ok (.aload_n 0, 1) := by decide +kernel
theorem md_L_law_527 : decode mb_L_law 527 = .ok (.iload 4, 2) := by decide +kernel
theorem md_L_law_529 : decode mb_L_law 529 = .ok (.bipush 7, 2) := by decide +kernel
theorem md_L_law_531 : decode mb_L_law 531 = .ok (.iadd, 1) := by decide +kernel
theorem md_L_law_532 : decode mb_L_law 532 = .ok (.iaload, 1) := by decide +kernel
theorem md_L_law_533 : decode mb_L_law 533 = .ok (.i2l, 1) := by decide +kernel
theorem md_L_law_534 : decode mb_L_law 534 = .ok (.bipush 32, 2) := by decide +kernel
theorem md_L_law_536 : decode mb_L_law 536 = .ok (.lshl, 1) := by decide +kernel
theorem md_L_law_537 : decode mb_L_law 537 = .ok (.aload_n 0, 1) := by decide +kernel
theorem md_L_law_538 : decode mb_L_law 538 = .ok (.iload 4, 2) := by decide +kernel
theorem md_L_law_540 : decode mb_L_law 540 = .ok (.bipush 8, 2) := by decide +kernel
theorem md_L_law_542 : decode mb_L_law 542 = .ok (.iadd, 1) := by decide +kernel
theorem md_L_law_543 : decode mb_L_law 543 = .ok (.iaload, 1) := by decide +kernel
theorem md_L_law_544 : decode mb_L_law 544 = .ok (.i2l, 1) := by decide +kernel
theorem md_L_law_545 : decode mb_L_law 545 = .ok (.ldc2_w 94, 3) := by decide +kernel
theorem md_L_law_548 : decode mb_L_law 548 = .ok (.land, 1) := by decide +kernel
theorem md_L_law_549 : decode mb_L_law 549 = .ok (.lor, 1) := by decide +kernel
theorem md_L_law_550 : decode mb_L_law 550 = .ok (.aload_n 3, 1) := by decide +kernel
theorem md_L_law_551 : decode mb_L_law 551 = .ok (.invokestatic 107, 3) := by decide +kernel
theorem md_L_law_554 : decode mb_L_law 554 = .ok (.istore 5, 2) := by decide +kernel
theorem md_L_law_556 : decode mb_L_law 556 = .ok (.aload_n 2, 1) := by decide +kernel
theorem md_L_law_557 : decode mb_L_law 557 = .ok (.aload_n 0, 1) := by decide +kernel
theorem md_L_law_558 : decode mb_L_law 558 = .ok (.iload 4, 2) := by decide +kernel
theorem md_L_law_560 : decode mb_L_law 560 = .ok (.iconst 1, 1) := by decide +kernel
theorem md_L_law_561 : decode mb_L_law 561 = .ok (.iadd, 1) := by decide +kernel
theorem md_L_law_562 : decode mb_L_law 562 = .ok (.iaload, 1) := by decide +kernel
theorem md_L_law_563 : decode mb_L_law 563 = .ok (.i2l, 1) := by decide +kernel
theorem md_L_law_564 : decode mb_L_law 564 = .ok (.bipush 32, 2) := by decide +kernel
theorem md_L_law_566 : decode mb_L_law 566 = .ok (.lshl, 1) := by decide +kernel
theorem md_L_law_567 : decode mb_L_law 567 = .ok (.aload_n 0, 1) := by decide +kernel
theorem md_L_law_568 : decode mb_L_law 568 = .ok (.iload 4, 2) := by decide +kernel
theorem md_L_law_570 : decode mb_L_law 570 = .ok (.iconst 2, 1) := by decide +kernel
theorem md_L_law_571 : decode mb_L_law 571 = .ok (.iadd, 1) := by decide +kernel
theorem md_L_law_572 : decode mb_L_law 572 = .ok (.iaload, 1) := by decide +kernel
theorem md_L_law_573 : decode mb_L_law 573 = .ok (.i2l, 1) := by decide +kernel
theorem md_L_law_574 : decode mb_L_law 574 = .ok (.ldc2_w 94, 3) := by decide +kernel
theorem md_L_law_577 : decode mb_L_law 577 = .ok (.land, 1) := by decide +kernel
theorem md_L_law_578 : decode mb_L_law 578 = .ok (.lor, 1) := by decide +kernel
theorem md_L_law_579 : decode mb_L_law 579 = .ok (.aload_n 0, 1) := by decide +kernel
theorem md_L_law_580 : decode mb_L_law 580 = .ok (.iload 4, 2) := by decide +kernel
theorem md_L_law_582 : decode mb_L_law 582 = .ok (.iconst 3, 1) := by decide +kernel
theorem md_L_law_583 : decode mb_L_law 583 = .ok (.iadd, 1) := by decide +kernel
theorem md_L_law_584 : decode mb_L_law 584 = .ok (.iaload, 1) := by decide +kernel
theorem md_L_law_585 : decode mb_L_law 585 = .ok (.i2l, 1) := by decide +kernel
theorem md_L_law_586 : decode mb_L_law 586 = .ok (.bipush 32, 2) := by decide +kernel
theorem md_L_law_588 : decode mb_L_law 588 = .ok (.lshl, 1) := by decide +kernel
theorem md_L_law_589 : decode mb_L_law 589 = .ok (.aload_n 0, 1) := by decide +kernel
theorem md_L_law_590 : decode mb_L_law 590 = .ok (.iload 4, 2) := by decide +kernel
theorem md_L_law_592 : decode mb_L_law 592 = .ok (.iconst 4, 1) := by decide +kernel
theorem md_L_law_593 : decode mb_L_law 593 = .ok (.iadd, 1) := by decide +kernel
theorem md_L_law_594 : decode mb_L_law 594 = .ok (.iaload, 1) := by decide +kernel
theorem md_L_law_595 : decode mb_L_law 595 = .ok (.i2l, 1) := by decide +kernel
theorem md_L_law_596 : decode mb_L_law 596 = .ok (.ldc2_w 94, 3) := by decide +kernel
theorem md_L_law_599 : decode mb_L_law 599 = .ok (.land, 1) := by decide +kernel
theorem md_L_law_600 : decode mb_L_law 600 = .ok (.lor, 1) := by decide +kernel
theorem md_L_law_601 : decode mb_L_law 601 = .ok (.aload_n 0, 1) := by decide +kernel
theorem md_L_law_602 : decode mb_L_law 602 = .ok (.iload 4, 2) := by decide +kernel
theorem md_L_law_604 : decode mb_L_law 604 = .ok (.iconst 5, 1) := by decide +kernel
theorem md_L_law_605 : decode mb_L_law 605 = .ok (.iadd, 1) := by decide +kernel
theorem md_L_law_606 : decode mb_L_law 606 = .ok (.iaload, 1) := by decide +kernel
theorem md_L_law_607 : decode mb_L_law 607 = .ok (.i2l, 1) := by decide +kernel
theorem md_L_law_608 : decode mb_L_law 608 = .ok (.bipush 32, 2) := by decide +kernel
theorem md_L_law_610 : decode mb_L_law 610 = .ok (.lshl, 1) := by decide +kernel
theorem md_L_law_611 : decode mb_L_law 611 = .ok (.aload_n 0, 1) := by decide +kernel
theorem md_L_law_612 : decode mb_L_law 612 = .ok (.iload 4, 2) := by decide +kernel
theorem md_L_law_614 : decode mb_L_law 614 = .ok (.bipush 6, 2) := by decide +kernel
theorem md_L_law_616 : decode mb_L_law 616 = .ok (.iadd, 1) := by decide +kernel
theorem md_L_law_617 : decode mb_L_law 617 = .ok (.iaload, 1) := by decide +kernel
theorem md_L_law_618 : decode mb_L_law 618 = .ok (.i2l, 1) := by decide +kernel
theorem md_L_law_619 : decode mb_L_law 619 = .ok (.ldc2_w 94, 3) := by decide +kernel
theorem md_L_law_622 : decode mb_L_law 622 = .ok (.land, 1) := by decide +kernel
theorem md_L_law_623 : decode mb_L_law 623 = .ok (.lor, 1) := by decide +kernel
theorem md_L_law_624 : decode mb_L_law 624 = .ok (.aload_n 0, 1) := by decide +kernel
theorem md_L_law_625 : decode mb_L_law 625 = .ok (.iload 4, 2) := by decide +kernel
theorem md_L_law_627 : decode mb_L_law 627 = .ok (.bipush 7, 2) := by decide +kernel
theorem md_L_law_629 : decode mb_L_law 629 = .ok (.iadd, 1) := by decide +kernel
theorem md_L_law_630 : decode mb_L_law 630 = .ok (.iaload, 1) := by decide +kernel
end
section
theorem md_L_law_631 : decode mb_L_law 631 = .ok (.i2l, 1) := by decide +kernel
theorem md_L_law_632 : decode mb_L_law 632 = .ok (.bipush 32, 2) := by decide +kernel
theorem md_L_law_634 : decode mb_L_law 634 = .ok (.lshl, 1) := by decide +kernel
theorem md_L_law_635 : decode mb_L_law 635 = .ok (.aload_n 0, 1) := by decide +kernel
theorem md_L_law_636 : decode mb_L_law 636 = .ok (.iload 4, 2) := by decide +kernel
theorem md_L_law_638 : decode mb_L_law 638 = .ok (.bipush 8, 2) := by decide +kernel
theorem md_L_law_640 : decode mb_L_law 640 = .ok (.iadd, 1) := by decide +kernel
theorem md_L_law_641 : decode mb_L_law 641 = .ok (.iaload, 1) := by decide +kernel
theorem md_L_law_642 : decode mb_L_law 642 = .ok (.i2l, 1) := by decide +kernel
theorem md_L_law_643 : decode mb_L_law 643 = .ok (.ldc2_w 94, 3) := by decide +kernel
theorem md_L_law_646 : decode mb_L_law 646 = .ok (.land, 1) := by decide +kernel
theorem md_L_law_647 : decode mb_L_law 647 = .ok (.lor, 1) := by decide +kernel
theorem md_L_law_648 : decode mb_L_law 648 = .ok (.invokevirtual 110, 3) := by decide +kernel
theorem md_L_law_651 : decode mb_L_law 651 = .ok (.istore 6, 2) := by decide +kernel
theorem md_L_law_653 : decode mb_L_law 653 = .ok (.goto 503, 3) := by decide +kernel
theorem md_L_law_656 : decode mb_L_law 656 = .ok (.aload_n 1, 1) := by decide +kernel
theorem md_L_law_657 : decode mb_L_law 657 = .ok (.aload_n 0, 1) := by decide +kernel
theorem md_L_law_658 : decode mb_L_law 658 = .ok (.iload 4, 2) := by decide +kernel
theorem md_L_law_660 : decode mb_L_law 660 = .ok (.iconst 1, 1) := by decide +kernel
theorem md_L_law_661 : decode mb_L_law 661 = .ok (.iadd, 1) := by decide +kernel
theorem md_L_law_662 : decode mb_L_law 662 = .ok (.iaload, 1) := by decide +kernel
theorem md_L_law_663 : decode mb_L_law 663 = .ok (.aload_n 3, 1) := by decide +kernel
theorem md_L_law_664 : decode mb_L_law 664 = .ok (.invokestatic 111, 3) := by decide +kernel
theorem md_L_law_667 : decode mb_L_law 667 = .ok (.istore 5, 2) := by decide +kernel
theorem md_L_law_669 : decode mb_L_law 669 = .ok (.aload_n 2, 1) := by decide +kernel
theorem md_L_law_670 : decode mb_L_law 670 = .ok (.aload_n 0, 1) := by decide +kernel
theorem md_L_law_671 : decode mb_L_law 671 = .ok (.iload 4, 2) := by decide +kernel
theorem md_L_law_673 : decode mb_L_law 673 = .ok (.iconst 1, 1) := by decide +kernel
theorem md_L_law_674 : decode mb_L_law 674 = .ok (.iadd, 1) := by decide +kernel
theorem md_L_law_675 : decode mb_L_law 675 = .ok (.iaload, 1) := by decide +kernel
theorem md_L_law_676 : decode mb_L_law 676 = .ok (.invokevirtual 114, 3) := by decide +kernel
theorem md_L_law_679 : decode mb_L_law 679 = .ok (.lstore 6, 2) := by decide +kernel
theorem md_L_law_681 : decode mb_L_law 681 = .ok (.goto 475, 3) := by decide +kernel
theorem md_L_law_684 : decode mb_L_law 684 = .ok (.aload_n 1, 1) := by decide +kernel
theorem md_L_law_685 : decode mb_L_law 685 = .ok (.aload_n 3, 1) := by decide +kernel
theorem md_L_law_686 : decode mb_L_law 686 = .ok (.invokestatic 115, 3) := by decide +kernel
theorem md_L_law_689 : decode mb_L_law 689 = .ok (.istore 5, 2) := by decide +kernel
theorem md_L_law_691 : decode mb_L_law 691 = .ok (.aload_n 2, 1) := by decide +kernel
theorem md_L_law_692 : decode mb_L_law 692 = .ok (.invokevirtual 118, 3) := by decide +kernel
theorem md_L_law_695 : decode mb_L_law 695 = .ok (.istore 6, 2) := by decide +kernel
theorem md_L_law_697 : decode mb_L_law 697 = .ok (.goto 459, 3) := by decide +kernel
theorem md_L_law_700 : decode mb_L_law 700 = .ok (.aload_n 1, 1) := by decide +kernel
theorem md_L_law_701 : decode mb_L_law 701 = .ok (.aload_n 0, 1) := by decide +kernel
theorem md_L_law_702 : decode mb_L_law 702 = .ok (.iload 4, 2) := by decide +kernel
theorem md_L_law_704 : decode mb_L_law 704 = .ok (.iconst 1, 1) := by decide +kernel
theorem md_L_law_705 : decode mb_L_law 705 = .ok (.iadd, 1) := by decide +kernel
theorem md_L_law_706 : decode mb_L_law 706 = .ok (.iaload, 1) := by decide +kernel
theorem md_L_law_707 : decode mb_L_law 707 = .ok (.aload_n 0, 1) := by decide +kernel
theorem md_L_law_708 : decode mb_L_law 708 = .ok (.iload 4, 2) := by decide +kernel
theorem md_L_law_710 : decode mb_L_law 710 = .ok (.iconst 2, 1) := by decide +kernel
theorem md_L_law_711 : decode mb_L_law 711 = .ok (.iadd, 1) := by decide +kernel
theorem md_L_law_712 : decode mb_L_law 712 = .ok (.iaload, 1) := by decide +kernel
theorem md_L_law_713 : decode mb_L_law 713 = .ok (.aload_n 3, 1) := by decide +kernel
theorem md_L_law_714 : decode mb_L_law 714 = .ok (.invokestatic 119, 3) := by decide +kernel
theorem md_L_law_717 : decode mb_L_law 717 = .ok (.istore 5, 2) := by decide +kernel
theorem md_L_law_719 : decode mb_L_law 719 = .ok (.aload_n 2, 1) := by decide +kernel
theorem md_L_law_720 : decode mb_L_law 720 = .ok (.aload_n 0, 1) := by decide +kernel
theorem md_L_law_721 : decode mb_L_law 721 = .ok (.iload 4, 2) := by decide +kernel
theorem md_L_law_723 : decode mb_L_law 723 = .ok (.iconst 1, 1) := by decide +kernel
theorem md_L_law_724 : decode mb_L_law 724 = .ok (.iadd, 1) := by decide +kernel
theorem md_L_law_725 : decode mb_L_law 725 = .ok (.iaload, 1) := by decide +kernel
theorem md_L_law_726 : decode mb_L_law 726 = .ok (.aload_n 0, 1) := by decide +kernel
theorem md_L_law_727 : decode mb_L_law 727 = .ok (.iload 4, 2) := by decide +kernel
theorem md_L_law_729 : decode mb_L_law 729 = .ok (.iconst 2, 1) := by decide +kernel
theorem md_L_law_730 : decode mb_L_law 730 = .ok (.iadd, 1) := by decide +kernel
theorem md_L_law_731 : decode mb_L_law 731 = .ok (.iaload, 1) := by decide +kernel
theorem md_L_law_732 : decode mb_L_law 732 = .ok (.invokevirtual 121, 3) := by decide +kernel
theorem md_L_law_735 : decode mb_L_law 735 = .ok (.lstore 6, 2) := by decide +kernel
theorem md_L_law_737 : decode mb_L_law 737 = .ok (.goto 419, 3) := by decide +kernel
theorem md_L_law_740 : decode mb_L_law 740 = .ok (.aload_n 1, 1) := by decide +kernel
theorem md_L_law_741 : decode mb_L_law 741 = .ok (.aload_n 0, 1) := by decide +kernel
theorem md_L_law_742 : decode mb_L_law 742 = .ok (.iload 4, 2) := by decide +kernel
theorem md_L_law_744 : decode mb_L_law 744 = .ok (.iconst 1, 1) := by decide +kernel
theorem md_L_law_745 : decode mb_L_law 745 = .ok (.iadd, 1) := by decide +kernel
theorem md_L_law_746 : decode mb_L_law 746 = .ok (.iaload, 1) := by decide +kernel
theorem md_L_law_747 : decode mb_L_law 747 = .ok (.aload_n 0, 1) := by decide +kernel
theorem md_L_law_748 : decode mb_L_law 748 = .ok (.iload 4, 2) := by decide +kernel
theorem md_L_law_750 : decode mb_L_law 750 = .ok (.iconst 2, 1) := by decide +kernel
theorem md_L_law_751 : decode mb_L_law 751 = .ok (.iadd, 1) := by decide +kernel
theorem md_L_law_752 : decode mb_L_law 752 = .ok (.iaload, 1) := by decide +kernel
theorem md_L_law_753 : decode mb_L_law 753 = .ok (.i2l, 1) := by decide +kernel
theorem md_L_law_754 : decode mb_L_law 754 = .ok (.bipush 32, 2) := by decide +kernel
theorem md_L_law_756 : decode mb_L_law 756 = .ok (.lshl, 1) := by decide +kernel
theorem md_L_law_757 : decode mb_L_law 757 = .ok (.aload_n 0, 1) := by decide +kernel
theorem md_L_law_758 : decode mb_L_law 758 = .ok (.iload 4, 2) := by decide +kernel
theorem md_L_law_760 : decode mb_L_law 760 = .ok (.iconst 3, 1) := by decide +kernel
theorem md_L_law_761 : decode mb_L_law 761 = .ok (.iadd, 1) := by decide +kernel
theorem md_L_law_762 : decode mb_L_law 762 = .ok (.iaload, 1) := by decide +kernel
theorem md_L_law_763 : decode mb_L_law 763 = .ok (.i2l, 1) := by decide +kernel
theorem md_L_law_764 : decode mb_L_law 764 = .ok (.ldc2_w 94, 3) := by decide +kernel
theorem md_L_law_767 : decode mb_L_law 767 = .ok (.land, 1) := by decide +kernel
theorem md_L_law_768 : decode mb_L_law 768 = .ok (.lor, 1) := by decide +kernel
theorem md_L_law_769 : decode mb_L_law 769 = .ok (.aload_n 0, 1) := by decide +kernel
theorem md_L_law_770 : decode mb_L_law 770 = .ok (.iload 4, 2) := by decide +kernel
theorem md_L_law_772 : decode mb_L_law 772 = .ok (.iconst 4, 1) := by decide +kernel
theorem md_L_law_773 : decode mb_L_law 773 = .ok (.iadd, 1) := by decide +kernel
theorem md_L_law_774 : decode mb_L_law 774 = .ok (.iaload, 1) := by decide +kernel
theorem md_L_law_775 : decode mb_L_law 775 = .ok (.i2l, 1) := by decide +kernel
theorem md_L_law_776 : decode mb_L_law 776 = .ok (.bipush 32, 2) := by decide +kernel
theorem md_L_law_778 : decode mb_L_law 778 = .ok (.lshl, 1) := by decide +kernel
theorem md_L_law_779 : decode mb_L_law 779 = .ok (.aload_n 0, 1) := by decide +kernel
theorem md_L_law_780 : decode mb_L_law 780 = .ok (.iload 4, 2) := by decide +kernel
theorem md_L_law_782 : decode mb_L_law 782 = .ok (.iconst 5, 1) := by decide +kernel
theorem md_L_law_783 : decode mb_L_law 783 = .ok (.iadd, 1) := by decide +kernel
theorem md_L_law_784 : decode mb_L_law 784 = .ok (.iaload, 1) := by decide +kernel
theorem md_L_law_785 : decode mb_L_law 785 = .ok (.i2l, 1) := by decide +kernel
theorem md_L_law_786 : decode mb_L_law 786 = .ok (.ldc2_w 94, 3) := by decide +kernel
theorem md_L_law_789 : decode mb_L_law 789 = .ok (.land, 1) := by decide +kernel
theorem md_L_law_790 : decode mb_L_law 790 = .ok (.lor, 1) := by decide +kernel
theorem md_L_law_791 : decode mb_L_law 791 = .ok (.aload_n 0, 1) := by decide +kernel
theorem md_L_law_792 : decode mb_L_law 792 = .ok (.iload 4, 2) := by decide +kernel
theorem md_L_law_794 : decode mb_L_law 794 = .ok (.bipush 6, 2) := by decide +kernel
theorem md_L_law_796 : decode mb_L_law 796 = .ok (.iadd, 1) := by decide +kernel
theorem md_L_law_797 : decode mb_L_law 797 = .ok (.iaload, 1) := by decide +kernel
theorem md_L_law_798 : decode mb_L_law 798 = .ok (.i2l, 1) := by decide +kernel
theorem md_L_law_799 : decode mb_L_law 799 = .ok (.bipush 32, 2) := by decide +kernel
theorem md_L_law_801 : decode mb_L_law 801 = .ok (.lshl, 1) := by decide +kernel
theorem md_L_law_802 : decode mb_L_law 802 = .ok (.aload_n 0, 1) := by decide +kernel
theorem md_L_law_803 : decode mb_L_law 803 = .ok (.iload 4, 2) := by decide +kernel
theorem md_L_law_805 : decode mb_L_law 805 = .ok (.bipush 7, 2) := by decide +kernel
theorem md_L_law_807 : decode mb_L_law 807 = .ok (.iadd, 1) := by decide +kernel
theorem md_L_law_808 : decode mb_L_law 808 = .ok (.iaload, 1) := by decide +kernel
theorem md_L_law_809 : decode mb_L_law 809 = .ok (.i2l, 1) := by decide +kernel
theorem md_L_law_810 : decode mb_L_law 810 = .ok (.ldc2_w 94, 3) := by decide +kernel
theorem md_L_law_813 : decode mb_L_law 813 = .ok (.land, 1) := by decide +kernel
theorem md_L_law_814 : decode mb_L_law 814 = .ok (.lor, 1) := by decide +kernel
theorem md_L_law_815 : decode mb_L_law 815 = .ok (.aload_n 3, 1) := by decide +kernel
theorem md_L_law_816 : decode mb_L_law 816 = .ok (.invokestatic 122, 3) := by decide +kernel
theorem md_L_law_819 : decode mb_L_law 819 = .ok (.istore 5, 2) := by decide +kernel
theorem md_L_law_821 : decode mb_L_law 821 = .ok (.aload_n 2, 1) := by decide +kernel
end
section
theorem md_L_law_822 : decode mb_L_law 822 = .ok (.aload_n 0, 1) := by decide +kernel
theorem md_L_law_823 : decode mb_L_law 823 = .ok (.iload 4, 2) := by decide +kernel
theorem md_L_law_825 : decode mb_L_law 825 = .ok (.iconst 1, 1) := by decide +kernel
theorem md_L_law_826 : decode mb_L_law 826 = .ok (.iadd, 1) := by decide +kernel
theorem md_L_law_827 : decode mb_L_law 827 = .ok (.iaload, 1) := by decide +kernel
theorem md_L_law_828 : decode mb_L_law 828 = .ok (.aload_n 0, 1) := by decide +kernel
theorem md_L_law_829 : decode mb_L_law 829 = .ok (.iload 4, 2) := by decide +kernel
theorem md_L_law_831 : decode mb_L_law 831 = .ok (.iconst 2, 1) := by decide +kernel
theorem md_L_law_832 : decode mb_L_law 832 = .ok (.iadd, 1) := by decide +kernel
theorem md_L_law_833 : decode mb_L_law 833 = .ok (.iaload, 1) := by decide +kernel
theorem md_L_law_834 : decode mb_L_law 834 = .ok (.i2l, 1) := by decide +kernel
theorem md_L_law_835 : decode mb_L_law 835 = .ok (.bipush 32, 2) := by decide +kernel
theorem md_L_law_837 : decode mb_L_law 837 = .ok (.lshl, 1) := by decide +kernel
theorem md_L_law_838 : decode mb_L_law 838 = .ok (.aload_n 0, 1) := by decide +kernel
theorem md_L_law_839 : decode mb_L_law 839 = .ok (.iload 4, 2) := by decide +kernel
theorem md_L_law_841 : decode mb_L_law 841 = .ok (.iconst 3, 1) := by decide +kernel
theorem md_L_law_842 : decode mb_L_law 842 = .ok (.iadd, 1) := by decide +kernel
theorem md_L_law_843 : decode mb_L_law 843 = .ok (.iaload, 1) := by decide +kernel
theorem md_L_law_844 : decode mb_L_law 844 = .ok (.i2l, 1) := by decide +kernel
theorem md_L_law_845 : decode mb_L_law 845 = .ok (.ldc2_w 94, 3) := by decide +kernel
theorem md_L_law_848 : decode mb_L_law 848 = .ok (.land, 1) := by decide +kernel
theorem md_L_law_849 : decode mb_L_law 849 = .ok (.lor, 1) := by decide +kernel
theorem md_L_law_850 : decode mb_L_law 850 = .ok (.aload_n 0, 1) := by decide +kernel
theorem md_L_law_851 : decode mb_L_law 851 = .ok (.iload 4, 2) := by decide +kernel
theorem md_L_law_853 : decode mb_L_law 853 = .ok (.iconst 4, 1) := by decide +kernel
theorem md_L_law_854 : decode mb_L_law 854 = .ok (.iadd, 1) := by decide +kernel
theorem md_L_law_855 : decode mb_L_law 855 = .ok (.iaload, 1) := by decide +kernel
theorem md_L_law_856 : decode mb_L_law 856 = .ok (.i2l, 1) := by decide +kernel
theorem md_L_law_857 : decode mb_L_law 857 = .ok (.bipush 32, 2) := by decide +kernel
theorem md_L_law_859 : decode mb_L_law 859 = .ok (.lshl, 1) := by decide +kernel
theorem md_L_law_860 : decode mb_L_law 860 = .ok (.aload_n 0, 1) := by decide +kernel
theorem md_L_law_861 : decode mb_L_law 861 = .ok (.iload 4, 2) := by decide +kernel
theorem md_L_law_863 : decode mb_L_law 863 = .ok (.iconst 5, 1) := by decide +kernel
theorem md_L_law_864 : decode mb_L_law 864 = .ok (.iadd, 1) := by decide +kernel
theorem md_L_law_865 : decode mb_L_law 865 = .ok (.iaload, 1) := by decide +kernel
theorem md_L_law_866 : decode mb_L_law 866 = .ok (.i2l, 1) := by decide +kernel
theorem md_L_law_867 : decode mb_L_law 867 = .ok (.ldc2_w 94, 3) := by decide +kernel
theorem md_L_law_870 : decode mb_L_law 870 = .ok (.land, 1) := by decide +kernel
theorem md_L_law_871 : decode mb_L_law 871 = .ok (.lor, 1) := by decide +kernel
theorem md_L_law_872 : decode mb_L_law 872 = .ok (.aload_n 0, 1) := by decide +kernel
theorem md_L_law_873 : decode mb_L_law 873 = .ok (.iload 4, 2) := by decide +kernel
theorem md_L_law_875 : decode mb_L_law 875 = .ok (.bipush 6, 2) := by decide +kernel
theorem md_L_law_877 : decode mb_L_law 877 = .ok (.iadd, 1) := by decide +kernel
theorem md_L_law_878 : decode mb_L_law 878 = .ok (.iaload, 1) := by decide +kernel
theorem md_L_law_879 : decode mb_L_law 879 = .ok (.i2l, 1) := by decide +kernel
theorem md_L_law_880 : decode mb_L_law 880 = .ok (.bipush 32, 2) := by decide +kernel
theorem md_L_law_882 : decode mb_L_law 882 = .ok (.lshl, 1) := by decide +kernel
theorem md_L_law_883 : decode mb_L_law 883 = .ok (.aload_n 0, 1) := by decide +kernel
theorem md_L_law_884 : decode mb_L_law 884 = .ok (.iload 4, 2) := by decide +kernel
theorem md_L_law_886 : decode mb_L_law 886 = .ok (.bipush 7, 2) := by decide +kernel
theorem md_L_law_888 : decode mb_L_law 888 = .ok (.iadd, 1) := by decide +kernel
theorem md_L_law_889 : decode mb_L_law 889 = .ok (.iaload, 1) := by decide +kernel
theorem md_L_law_890 : decode mb_L_law 890 = .ok (.i2l, 1) := by decide +kernel
theorem md_L_law_891 : decode mb_L_law 891 = .ok (.ldc2_w 94, 3) := by decide +kernel
theorem md_L_law_894 : decode mb_L_law 894 = .ok (.land, 1) := by decide +kernel
theorem md_L_law_895 : decode mb_L_law 895 = .ok (.lor, 1) := by decide +kernel
theorem md_L_law_896 : decode mb_L_law 896 = .ok (.invokevirtual 125, 3) := by decide +kernel
theorem md_L_law_899 : decode mb_L_law 899 = .ok (.istore 6, 2) := by decide +kernel
theorem md_L_law_901 : decode mb_L_law 901 = .ok (.goto 255, 3) := by decide +kernel
theorem md_L_law_904 : decode mb_L_law 904 = .ok (.aload_n 1, 1) := by decide +kernel
theorem md_L_law_905 : decode mb_L_law 905 = .ok (.aload_n 0, 1) := by decide +kernel
theorem md_L_law_906 : decode mb_L_law 906 = .ok (.iload 4, 2) := by decide +kernel
theorem md_L_law_908 : decode mb_L_law 908 = .ok (.iconst 1, 1) := by decide +kernel
theorem md_L_law_909 : decode mb_L_law 909 = .ok (.iadd, 1) := by decide +kernel
theorem md_L_law_910 : decode mb_L_law 910 = .ok (.iaload, 1) := by decide +kernel
theorem md_L_law_911 : decode mb_L_law 911 = .ok (.aload_n 0, 1) := by decide +kernel
theorem md_L_law_912 : decode mb_L_law 912 = .ok (.iload 4, 2) := by decide +kernel
theorem md_L_law_914 : decode mb_L_law 914 = .ok (.iconst 2, 1) := by decide +kernel
theorem md_L_law_915 : decode mb_L_law 915 = .ok (.iadd, 1) := by decide +kernel
theorem md_L_law_916 : decode mb_L_law 916 = .ok (.iaload, 1) := by decide +kernel
theorem md_L_law_917 : decode mb_L_law 917 = .ok (.aload_n 3, 1) := by decide +kernel
theorem md_L_law_918 : decode mb_L_law 918 = .ok (.invokestatic 126, 3) := by decide +kernel
theorem md_L_law_921 : decode mb_L_law 921 = .ok (.istore 5, 2) := by decide +kernel
theorem md_L_law_923 : decode mb_L_law 923 = .ok (.aload_n 2, 1) := by decide +kernel
theorem md_L_law_924 : decode mb_L_law 924 = .ok (.aload_n 0, 1) := by decide +kernel
theorem md_L_law_925 : decode mb_L_law 925 = .ok (.iload 4, 2) := by decide +kernel
theorem md_L_law_927 : decode mb_L_law 927 = .ok (.iconst 1, 1) := by decide +kernel
theorem md_L_law_928 : decode mb_L_law 928 = .ok (.iadd, 1) := by decide +kernel
theorem md_L_law_929 : decode mb_L_law 929 = .ok (.iaload, 1) := by decide +kernel
theorem md_L_law_930 : decode mb_L_law 930 = .ok (.aload_n 0, 1) := by decide +kernel
theorem md_L_law_931 : decode mb_L_law 931 = .ok (.iload 4, 2) := by decide +kernel
theorem md_L_law_933 : decode mb_L_law 933 = .ok (.iconst 2, 1) := by decide +kernel
theorem md_L_law_934 : decode mb_L_law 934 = .ok (.iadd, 1) := by decide +kernel
theorem md_L_law_935 : decode mb_L_law 935 = .ok (.iaload, 1) := by decide +kernel
theorem md_L_law_936 : decode mb_L_law 936 = .ok (.invokevirtual 128, 3) := by decide +kernel
theorem md_L_law_939 : decode mb_L_law 939 = .ok (.istore 6, 2) := by decide +kernel
theorem md_L_law_941 : decode mb_L_law 941 = .ok (.goto 215, 3) := by decide +kernel
theorem md_L_law_944 : decode mb_L_law 944 = .ok (.aload_n 1, 1) := by decide +kernel
theorem md_L_law_945 : decode mb_L_law 945 = .ok (.aload_n 0, 1) := by decide +kernel
theorem md_L_law_946 : decode mb_L_law 946 = .ok (.iload 4, 2) := by decide +kernel
theorem md_L_law_948 : decode mb_L_law 948 = .ok (.iconst 1, 1) := by decide +kernel
theorem md_L_law_949 : decode mb_L_law 949 = .ok (.iadd, 1) := by decide +kernel
theorem md_L_law_950 : decode mb_L_law 950 = .ok (.iaload, 1) := by decide +kernel
theorem md_L_law_951 : decode mb_L_law 951 = .ok (.aload_n 3, 1) := by decide +kernel
theorem md_L_law_952 : decode mb_L_law 952 = .ok (.invokestatic 129, 3) := by decide +kernel
theorem md_L_law_955 : decode mb_L_law 955 = .ok (.istore 5, 2) := by decide +kernel
theorem md_L_law_957 : decode mb_L_law 957 = .ok (.aload_n 2, 1) := by decide +kernel
theorem md_L_law_958 : decode mb_L_law 958 = .ok (.aload_n 0, 1) := by decide +kernel
theorem md_L_law_959 : decode mb_L_law 959 = .ok (.iload 4, 2) := by decide +kernel
theorem md_L_law_961 : decode mb_L_law 961 = .ok (.iconst 1, 1) := by decide +kernel
theorem md_L_law_962 : decode mb_L_law 962 = .ok (.iadd, 1) := by decide +kernel
theorem md_L_law_963 : decode mb_L_law 963 = .ok (.iaload, 1) := by decide +kernel
theorem md_L_law_964 : decode mb_L_law 964 = .ok (.invokevirtual 131, 3) := by decide +kernel
theorem md_L_law_967 : decode mb_L_law 967 = .ok (.istore 6, 2) := by decide +kernel
theorem md_L_law_969 : decode mb_L_law 969 = .ok (.goto 187, 3) := by decide +kernel
theorem md_L_law_972 : decode mb_L_law 972 = .ok (.aload_n 1, 1) := by decide +kernel
theorem md_L_law_973 : decode mb_L_law 973 = .ok (.aload_n 0, 1) := by decide +kernel
theorem md_L_law_974 : decode mb_L_law 974 = .ok (.iload 4, 2) := by decide +kernel
theorem md_L_law_976 : decode mb_L_law 976 = .ok (.iconst 1, 1) := by decide +kernel
theorem md_L_law_977 : decode mb_L_law 977 = .ok (.iadd, 1) := by decide +kernel
theorem md_L_law_978 : decode mb_L_law 978 = .ok (.iaload, 1) := by decide +kernel
theorem md_L_law_979 : decode mb_L_law 979 = .ok (.i2l, 1) := by decide +kernel
theorem md_L_law_980 : decode mb_L_law 980 = .ok (.bipush 32, 2) := by decide +kernel
theorem md_L_law_982 : decode mb_L_law 982 = .ok (.lshl, 1) := by decide +kernel
theorem md_L_law_983 : decode mb_L_law 983 = .ok (.aload_n 0, 1) := by decide +kernel
theorem md_L_law_984 : decode mb_L_law 984 = .ok (.iload 4, 2) := by decide +kernel
theorem md_L_law_986 : decode mb_L_law 986 = .ok (.iconst 2, 1) := by decide +kernel
theorem md_L_law_987 : decode mb_L_law 987 = .ok (.iadd, 1) := by decide +kernel
theorem md_L_law_988 : decode mb_L_law 988 = .ok (.iaload, 1) := by decide +kernel
theorem md_L_law_989 : decode mb_L_law 989 = .ok (.i2l, 1) := by decide +kernel
theorem md_L_law_990 : decode mb_L_law 990 = .ok (.ldc2_w 94, 3) := by decide +kernel
theorem md_L_law_993 : decode mb_L_law 993 = .ok (.land, 1) := by decide +kernel
theorem md_L_law_994 : decode mb_L_law 994 = .ok (.lor, 1) := by decide +kernel
theorem md_L_law_995 : decode mb_L_law 995 = .ok (.aload_n 3, 1) := by decide +kernel
theorem md_L_law_996 : decode mb_L_law 996 = .ok (.invokestatic 132, 3) := by decide +kernel
theorem md_L_law_999 : decode mb_L_law 999 = .ok (.istore 5, 2) := by decide +kernel
theorem md_L_law_1001 : decode mb_L_law 1001 = .ok (.aload_n 2, 1) := by decide +kernel
theorem md_L_law_1002 : decode mb_L_law 1002 = .ok (.aload_n 0, 1) := by decide +kernel
theorem md_L_law_1003 : decode mb_L_law 1003 = .ok (.iload 4, 2) := by decide +kernel
theorem md_L_law_1005 : decode mb_L_law 1005 = .ok (.iconst 1, 1) := by decide +kernel
end
section
theorem md_L_law_1006 : decode mb_L_law 1006 = .ok (.iadd, 1) := by decide +kernel
theorem md_L_law_1007 : decode mb_L_law 1007 = .ok (.iaload, 1) := by decide +kernel
theorem md_L_law_1008 : decode mb_L_law 1008 = .ok (.i2l, 1) := by decide +kernel
theorem md_L_law_1009 : decode mb_L_law 1009 = .ok (.bipush 32, 2) := by decide +kernel
theorem md_L_law_1011 : decode mb_L_law 1011 = .ok (.lshl, 1) := by decide +kernel
theorem md_L_law_1012 : decode mb_L_law 1012 = .ok (.aload_n 0, 1) := by decide +kernel
theorem md_L_law_1013 : decode mb_L_law 1013 = .ok (.iload 4, 2) := by decide +kernel
theorem md_L_law_1015 : decode mb_L_law 1015 = .ok (.iconst 2, 1) := by decide +kernel
theorem md_L_law_1016 : decode mb_L_law 1016 = .ok (.iadd, 1) := by decide +kernel
theorem md_L_law_1017 : decode mb_L_law 1017 = .ok (.iaload, 1) := by decide +kernel
theorem md_L_law_1018 : decode mb_L_law 1018 = .ok (.i2l, 1) := by decide +kernel
theorem md_L_law_1019 : decode mb_L_law 1019 = .ok (.ldc2_w 94, 3) := by decide +kernel
theorem md_L_law_1022 : decode mb_L_law 1022 = .ok (.land, 1) := by decide +kernel
theorem md_L_law_1023 : decode mb_L_law 1023 = .ok (.lor, 1) := by decide +kernel
theorem md_L_law_1024 : decode mb_L_law 1024 = .ok (.invokevirtual 134, 3) := by decide +kernel
theorem md_L_law_1027 : decode mb_L_law 1027 = .ok (.istore 6, 2) := by decide +kernel
theorem md_L_law_1029 : decode mb_L_law 1029 = .ok (.goto 127, 3) := by decide +kernel
theorem md_L_law_1032 : decode mb_L_law 1032 = .ok (.aload_n 1, 1) := by decide +kernel
theorem md_L_law_1033 : decode mb_L_law 1033 = .ok (.aload_n 0, 1) := by decide +kernel
theorem md_L_law_1034 : decode mb_L_law 1034 = .ok (.iload 4, 2) := by decide +kernel
theorem md_L_law_1036 : decode mb_L_law 1036 = .ok (.iconst 1, 1) := by decide +kernel
theorem md_L_law_1037 : decode mb_L_law 1037 = .ok (.iadd, 1) := by decide +kernel
theorem md_L_law_1038 : decode mb_L_law 1038 = .ok (.iaload, 1) := by decide +kernel
theorem md_L_law_1039 : decode mb_L_law 1039 = .ok (.aload_n 0, 1) := by decide +kernel
theorem md_L_law_1040 : decode mb_L_law 1040 = .ok (.iload 4, 2) := by decide +kernel
theorem md_L_law_1042 : decode mb_L_law 1042 = .ok (.iconst 2, 1) := by decide +kernel
theorem md_L_law_1043 : decode mb_L_law 1043 = .ok (.iadd, 1) := by decide +kernel
theorem md_L_law_1044 : decode mb_L_law 1044 = .ok (.iaload, 1) := by decide +kernel
theorem md_L_law_1045 : decode mb_L_law 1045 = .ok (.aload_n 0, 1) := by decide +kernel
theorem md_L_law_1046 : decode mb_L_law 1046 = .ok (.iload 4, 2) := by decide +kernel
theorem md_L_law_1048 : decode mb_L_law 1048 = .ok (.iconst 3, 1) := by decide +kernel
theorem md_L_law_1049 : decode mb_L_law 1049 = .ok (.iadd, 1) := by decide +kernel
theorem md_L_law_1050 : decode mb_L_law 1050 = .ok (.iaload, 1) := by decide +kernel
theorem md_L_law_1051 : decode mb_L_law 1051 = .ok (.aload_n 3, 1) := by decide +kernel
theorem md_L_law_1052 : decode mb_L_law 1052 = .ok (.invokestatic 135, 3) := by decide +kernel
theorem md_L_law_1055 : decode mb_L_law 1055 = .ok (.istore 5, 2) := by decide +kernel
theorem md_L_law_1057 : decode mb_L_law 1057 = .ok (.aload_n 2, 1) := by decide +kernel
theorem md_L_law_1058 : decode mb_L_law 1058 = .ok (.aload_n 0, 1) := by decide +kernel
theorem md_L_law_1059 : decode mb_L_law 1059 = .ok (.iload 4, 2) := by decide +kernel
theorem md_L_law_1061 : decode mb_L_law 1061 = .ok (.iconst 1, 1) := by decide +kernel
theorem md_L_law_1062 : decode mb_L_law 1062 = .ok (.iadd, 1) := by decide +kernel
theorem md_L_law_1063 : decode mb_L_law 1063 = .ok (.iaload, 1) := by decide +kernel
theorem md_L_law_1064 : decode mb_L_law 1064 = .ok (.aload_n 0, 1) := by decide +kernel
theorem md_L_law_1065 : decode mb_L_law 1065 = .ok (.iload 4, 2) := by decide +kernel
theorem md_L_law_1067 : decode mb_L_law 1067 = .ok (.iconst 2, 1) := by decide +kernel
theorem md_L_law_1068 : decode mb_L_law 1068 = .ok (.iadd, 1) := by decide +kernel
theorem md_L_law_1069 : decode mb_L_law 1069 = .ok (.iaload, 1) := by decide +kernel
theorem md_L_law_1070 : decode mb_L_law 1070 = .ok (.aload_n 0, 1) := by decide +kernel
theorem md_L_law_1071 : decode mb_L_law 1071 = .ok (.iload 4, 2) := by decide +kernel
theorem md_L_law_1073 : decode mb_L_law 1073 = .ok (.iconst 3, 1) := by decide +kernel
theorem md_L_law_1074 : decode mb_L_law 1074 = .ok (.iadd, 1) := by decide +kernel
theorem md_L_law_1075 : decode mb_L_law 1075 = .ok (.iaload, 1) := by decide +kernel
theorem md_L_law_1076 : decode mb_L_law 1076 = .ok (.invokevirtual 138, 3) := by decide +kernel
theorem md_L_law_1079 : decode mb_L_law 1079 = .ok (.lstore 6, 2) := by decide +kernel
theorem md_L_law_1081 : decode mb_L_law 1081 = .ok (.goto 75, 3) := by decide +kernel
theorem md_L_law_1084 : decode mb_L_law 1084 = .ok (.aload_n 1, 1) := by decide +kernel
theorem md_L_law_1085 : decode mb_L_law 1085 = .ok (.aload_n 0, 1) := by decide +kernel
theorem md_L_law_1086 : decode mb_L_law 1086 = .ok (.iload 4, 2) := by decide +kernel
theorem md_L_law_1088 : decode mb_L_law 1088 = .ok (.iconst 1, 1) := by decide +kernel
theorem md_L_law_1089 : decode mb_L_law 1089 = .ok (.iadd, 1) := by decide +kernel
theorem md_L_law_1090 : decode mb_L_law 1090 = .ok (.iaload, 1) := by decide +kernel
theorem md_L_law_1091 : decode mb_L_law 1091 = .ok (.i2l, 1) := by decide +kernel
theorem md_L_law_1092 : decode mb_L_law 1092 = .ok (.bipush 32, 2) := by decide +kernel
theorem md_L_law_1094 : decode mb_L_law 1094 = .ok (.lshl, 1) := by decide +kernel
theorem md_L_law_1095 : decode mb_L_law 1095 = .ok (.aload_n 0, 1) := by decide +kernel
theorem md_L_law_1096 : decode mb_L_law 1096 = .ok (.iload 4, 2) := by decide +kernel
theorem md_L_law_1098 : decode mb_L_law 1098 = .ok (.iconst 2, 1) := by decide +kernel
theorem md_L_law_1099 : decode mb_L_law 1099 = .ok (.iadd, 1) := by decide +kernel
theorem md_L_law_1100 : decode mb_L_law 1100 = .ok (.iaload, 1) := by decide +kernel
theorem md_L_law_1101 : decode mb_L_law 1101 = .ok (.i2l, 1) := by decide +kernel
theorem md_L_law_1102 : decode mb_L_law 1102 = .ok (.ldc2_w 94, 3) := by decide +kernel
theorem md_L_law_1105 : decode mb_L_law 1105 = .ok (.land, 1) := by decide +kernel
theorem md_L_law_1106 : decode mb_L_law 1106 = .ok (.lor, 1) := by decide +kernel
theorem md_L_law_1107 : decode mb_L_law 1107 = .ok (.aload_n 0, 1) := by decide +kernel
theorem md_L_law_1108 : decode mb_L_law 1108 = .ok (.iload 4, 2) := by decide +kernel
theorem md_L_law_1110 : decode mb_L_law 1110 = .ok (.iconst 3, 1) := by decide +kernel
theorem md_L_law_1111 : decode mb_L_law 1111 = .ok (.iadd, 1) := by decide +kernel
theorem md_L_law_1112 : decode mb_L_law 1112 = .ok (.iaload, 1) := by decide +kernel
theorem md_L_law_1113 : decode mb_L_law 1113 = .ok (.aload_n 3, 1) := by decide +kernel
theorem md_L_law_1114 : decode mb_L_law 1114 = .ok (.invokestatic 139, 3) := by decide +kernel
theorem md_L_law_1117 : decode mb_L_law 1117 = .ok (.istore 5, 2) := by decide +kernel
theorem md_L_law_1119 : decode mb_L_law 1119 = .ok (.aload_n 2, 1) := by decide +kernel
theorem md_L_law_1120 : decode mb_L_law 1120 = .ok (.aload_n 0, 1) := by decide +kernel
theorem md_L_law_1121 : decode mb_L_law 1121 = .ok (.iload 4, 2) := by decide +kernel
theorem md_L_law_1123 : decode mb_L_law 1123 = .ok (.iconst 1, 1) := by decide +kernel
theorem md_L_law_1124 : decode mb_L_law 1124 = .ok (.iadd, 1) := by decide +kernel
theorem md_L_law_1125 : decode mb_L_law 1125 = .ok (.iaload, 1) := by decide +kernel
theorem md_L_law_1126 : decode mb_L_law 1126 = .ok (.i2l, 1) := by decide +kernel
theorem md_L_law_1127 : decode mb_L_law 1127 = .ok (.bipush 32, 2) := by decide +kernel
theorem md_L_law_1129 : decode mb_L_law 1129 = .ok (.lshl, 1) := by decide +kernel
theorem md_L_law_1130 : decode mb_L_law 1130 = .ok (.aload_n 0, 1) := by decide +kernel
theorem md_L_law_1131 : decode mb_L_law 1131 = .ok (.iload 4, 2) := by decide +kernel
theorem md_L_law_1133 : decode mb_L_law 1133 = .ok (.iconst 2, 1) := by decide +kernel
theorem md_L_law_1134 : decode mb_L_law 1134 = .ok (.iadd, 1) := by decide +kernel
theorem md_L_law_1135 : decode mb_L_law 1135 = .ok (.iaload, 1) := by decide +kernel
theorem md_L_law_1136 : decode mb_L_law 1136 = .ok (.i2l, 1) := by decide +kernel
theorem md_L_law_1137 : decode mb_L_law 1137 = .ok (.ldc2_w 94, 3) := by decide +kernel
theorem md_L_law_1140 : decode mb_L_law 1140 = .ok (.land, 1) := by decide +kernel
theorem md_L_law_1141 : decode mb_L_law 1141 = .ok (.lor, 1) := by decide +kernel
theorem md_L_law_1142 : decode mb_L_law 1142 = .ok (.aload_n 0, 1) := by decide +kernel
theorem md_L_law_1143 : decode mb_L_law 1143 = .ok (.iload 4, 2) := by decide +kernel
theorem md_L_law_1145 : decode mb_L_law 1145 = .ok (.iconst 3, 1) := by decide +kernel
theorem md_L_law_1146 : decode mb_L_law 1146 = .ok (.iadd, 1) := by decide +kernel
theorem md_L_law_1147 : decode mb_L_law 1147 = .ok (.iaload, 1) := by decide +kernel
theorem md_L_law_1148 : decode mb_L_law 1148 = .ok (.invokevirtual 142, 3) := by decide +kernel
theorem md_L_law_1151 : decode mb_L_law 1151 = .ok (.istore 6, 2) := by decide +kernel
theorem md_L_law_1153 : decode mb_L_law 1153 = .ok (.goto 3, 3) := by decide +kernel
theorem md_L_law_1156 : decode mb_L_law 1156 = .ok (.iinc 4 9, 3) := by decide +kernel
theorem md_L_law_1159 : decode mb_L_law 1159 = .ok (.goto (-1136), 3) := by decide +kernel
theorem md_L_law_1162 : decode mb_L_law 1162 = .ok (.iconst 1, 1) := by decide +kernel
theorem md_L_law_1163 : decode mb_L_law 1163 = .ok (.ireturn, 1) := by decide +kernel
end
