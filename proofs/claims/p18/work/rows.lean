section
/-- a private method of a class that the tables say can be made, by its rows of tables_1 -/
def lw_okq (q : MethodName × Nat) : Prop := (q.1.cls ≠ "java/lang/invoke/MethodHandle" ∧ q.1.cls ≠ "java/lang/invoke/VarHandle") ∧ Cond.instantiable q.1.cls q.2 ∈ tables_1 ∧ Cond.privateMethod q.1 ∈ tables_1 ∧ Cond.instanceMethod q.1 ∈ tables_1
theorem lw_p0 : lw_okq (⟨"HingeTables$Table", "finish", "(I)I"⟩, 4) := ⟨⟨by decide +kernel, by decide +kernel⟩, List.mem_of_getElem? (i := 78) (by decide +kernel), List.mem_of_getElem? (i := 134) (by decide +kernel), List.mem_of_getElem? (i := 135) (by decide +kernel)⟩
theorem lw_p1 : lw_okq (⟨"HingeTables$Table", "fillRow", "(LHingeTables$Text;II)I"⟩, 4) := ⟨⟨by decide +kernel, by decide +kernel⟩, List.mem_of_getElem? (i := 78) (by decide +kernel), List.mem_of_getElem? (i := 145) (by decide +kernel), List.mem_of_getElem? (i := 146) (by decide +kernel)⟩
theorem lw_p2 : lw_okq (⟨"HingeTables$Table", "fillNumber", "(LHingeTables$Text;III)I"⟩, 4) := ⟨⟨by decide +kernel, by decide +kernel⟩, List.mem_of_getElem? (i := 78) (by decide +kernel), List.mem_of_getElem? (i := 152) (by decide +kernel), List.mem_of_getElem? (i := 153) (by decide +kernel)⟩
theorem lw_p3 : lw_okq (⟨"HingeTables$Table", "mayStand", "(III)Z"⟩, 4) := ⟨⟨by decide +kernel, by decide +kernel⟩, List.mem_of_getElem? (i := 78) (by decide +kernel), List.mem_of_getElem? (i := 159) (by decide +kernel), List.mem_of_getElem? (i := 160) (by decide +kernel)⟩
theorem lw_p4 : lw_okq (⟨"HingeTables", "needTable", "()V"⟩, 5) := ⟨⟨by decide +kernel, by decide +kernel⟩, List.mem_of_getElem? (i := 15) (by decide +kernel), List.mem_of_getElem? (i := 180) (by decide +kernel), List.mem_of_getElem? (i := 181) (by decide +kernel)⟩
theorem lw_p5 : lw_okq (⟨"java/lang/Throwable", "fillInStackTrace", "(I)Ljava/lang/Throwable;"⟩, 6) := ⟨⟨by decide +kernel, by decide +kernel⟩, List.mem_of_getElem? (i := 222) (by decide +kernel), List.mem_of_getElem? (i := 220) (by decide +kernel), List.mem_of_getElem? (i := 221) (by decide +kernel)⟩
theorem lw_p6 : lw_okq (⟨"HingeTables", "needRow", "(I)V"⟩, 5) := ⟨⟨by decide +kernel, by decide +kernel⟩, List.mem_of_getElem? (i := 15) (by decide +kernel), List.mem_of_getElem? (i := 252) (by decide +kernel), List.mem_of_getElem? (i := 253) (by decide +kernel)⟩
theorem lw_p7 : lw_okq (⟨"HingeTables$Table", "isStocked", "(IC)Z"⟩, 4) := ⟨⟨by decide +kernel, by decide +kernel⟩, List.mem_of_getElem? (i := 78) (by decide +kernel), List.mem_of_getElem? (i := 318) (by decide +kernel), List.mem_of_getElem? (i := 319) (by decide +kernel)⟩
theorem lw_p8 : lw_okq (⟨"HingeTables$Table", "holds", "(IIJJ)Z"⟩, 4) := ⟨⟨by decide +kernel, by decide +kernel⟩, List.mem_of_getElem? (i := 78) (by decide +kernel), List.mem_of_getElem? (i := 322) (by decide +kernel), List.mem_of_getElem? (i := 323) (by decide +kernel)⟩
theorem lw_p9 : lw_okq (⟨"HingeTables$Table", "canReplace", "(II)Z"⟩, 4) := ⟨⟨by decide +kernel, by decide +kernel⟩, List.mem_of_getElem? (i := 78) (by decide +kernel), List.mem_of_getElem? (i := 339) (by decide +kernel), List.mem_of_getElem? (i := 340) (by decide +kernel)⟩
theorem lw_p10 : lw_okq (⟨"HingeTables$Door", "shutX", "(I)J"⟩, 4) := ⟨⟨by decide +kernel, by decide +kernel⟩, List.mem_of_getElem? (i := 37) (by decide +kernel), List.mem_of_getElem? (i := 486) (by decide +kernel), List.mem_of_getElem? (i := 487) (by decide +kernel)⟩
theorem lw_p11 : lw_okq (⟨"HingeTables$Door", "shutY", "(I)J"⟩, 4) := ⟨⟨by decide +kernel, by decide +kernel⟩, List.mem_of_getElem? (i := 37) (by decide +kernel), List.mem_of_getElem? (i := 492) (by decide +kernel), List.mem_of_getElem? (i := 493) (by decide +kernel)⟩
theorem lw_p12 : lw_okq (⟨"HingeTablesModel", "turn", "(III)V"⟩, 18) := ⟨⟨by decide +kernel, by decide +kernel⟩, List.mem_of_getElem? (i := 520) (by decide +kernel), List.mem_of_getElem? (i := 529) (by decide +kernel), List.mem_of_getElem? (i := 530) (by decide +kernel)⟩
theorem lw_p13 : lw_okq (⟨"HingeTablesModel", "readRow", "(I)V"⟩, 18) := ⟨⟨by decide +kernel, by decide +kernel⟩, List.mem_of_getElem? (i := 520) (by decide +kernel), List.mem_of_getElem? (i := 601) (by decide +kernel), List.mem_of_getElem? (i := 602) (by decide +kernel)⟩
theorem lw_p14 : lw_okq (⟨"HingeTablesModel", "here", "()I"⟩, 18) := ⟨⟨by decide +kernel, by decide +kernel⟩, List.mem_of_getElem? (i := 520) (by decide +kernel), List.mem_of_getElem? (i := 605) (by decide +kernel), List.mem_of_getElem? (i := 606) (by decide +kernel)⟩
theorem lw_p15 : lw_okq (⟨"HingeTablesModel", "failAt", "(I)V"⟩, 18) := ⟨⟨by decide +kernel, by decide +kernel⟩, List.mem_of_getElem? (i := 520) (by decide +kernel), List.mem_of_getElem? (i := 612) (by decide +kernel), List.mem_of_getElem? (i := 613) (by decide +kernel)⟩
def lw_privs_1 : List (MethodName × Nat) := [(⟨"HingeTables$Table", "finish", "(I)I"⟩, 4), (⟨"HingeTables$Table", "fillRow", "(LHingeTables$Text;II)I"⟩, 4), (⟨"HingeTables$Table", "fillNumber", "(LHingeTables$Text;III)I"⟩, 4), (⟨"HingeTables$Table", "mayStand", "(III)Z"⟩, 4), (⟨"HingeTables", "needTable", "()V"⟩, 5), (⟨"java/lang/Throwable", "fillInStackTrace", "(I)Ljava/lang/Throwable;"⟩, 6), (⟨"HingeTables", "needRow", "(I)V"⟩, 5), (⟨"HingeTables$Table", "isStocked", "(IC)Z"⟩, 4), (⟨"HingeTables$Table", "holds", "(IIJJ)Z"⟩, 4), (⟨"HingeTables$Table", "canReplace", "(II)Z"⟩, 4), (⟨"HingeTables$Door", "shutX", "(I)J"⟩, 4), (⟨"HingeTables$Door", "shutY", "(I)J"⟩, 4), (⟨"HingeTablesModel", "turn", "(III)V"⟩, 18), (⟨"HingeTablesModel", "readRow", "(I)V"⟩, 18), (⟨"HingeTablesModel", "here", "()I"⟩, 18), (⟨"HingeTablesModel", "failAt", "(I)V"⟩, 18)]
theorem lw_r1 : ∀ q ∈ lw_privs_1, lw_okq q := List.forall_mem_cons.mpr ⟨lw_p0, List.forall_mem_cons.mpr ⟨lw_p1, List.forall_mem_cons.mpr ⟨lw_p2, List.forall_mem_cons.mpr ⟨lw_p3, List.forall_mem_cons.mpr ⟨lw_p4, List.forall_mem_cons.mpr ⟨lw_p5, List.forall_mem_cons.mpr ⟨lw_p6, List.forall_mem_cons.mpr ⟨lw_p7, List.forall_mem_cons.mpr ⟨lw_p8, List.forall_mem_cons.mpr ⟨lw_p9, List.forall_mem_cons.mpr ⟨lw_p10, List.forall_mem_cons.mpr ⟨lw_p11, List.forall_mem_cons.mpr ⟨lw_p12, List.forall_mem_cons.mpr ⟨lw_p13, List.forall_mem_cons.mpr ⟨lw_p14, List.forall_mem_cons.mpr ⟨lw_p15, fun _ h => absurd h List.not_mem_nil⟩⟩⟩⟩⟩⟩⟩⟩⟩⟩⟩⟩⟩⟩⟩⟩
theorem lw_p16 : lw_okq (⟨"HingeTablesModel", "readNumber", "()I"⟩, 18) := ⟨⟨by decide +kernel, by decide +kernel⟩, List.mem_of_getElem? (i := 520) (by decide +kernel), List.mem_of_getElem? (i := 616) (by decide +kernel), List.mem_of_getElem? (i := 617) (by decide +kernel)⟩
theorem lw_p17 : lw_okq (⟨"HingeTablesModel", "rowCode", "(I)I"⟩, 18) := ⟨⟨by decide +kernel, by decide +kernel⟩, List.mem_of_getElem? (i := 520) (by decide +kernel), List.mem_of_getElem? (i := 628) (by decide +kernel), List.mem_of_getElem? (i := 629) (by decide +kernel)⟩
theorem lw_p18 : lw_okq (⟨"HingeTablesModel", "number", "(II)J"⟩, 18) := ⟨⟨by decide +kernel, by decide +kernel⟩, List.mem_of_getElem? (i := 520) (by decide +kernel), List.mem_of_getElem? (i := 641) (by decide +kernel), List.mem_of_getElem? (i := 642) (by decide +kernel)⟩
theorem lw_p19 : lw_okq (⟨"HingeTablesModel", "isThere", "(II)Z"⟩, 18) := ⟨⟨by decide +kernel, by decide +kernel⟩, List.mem_of_getElem? (i := 520) (by decide +kernel), List.mem_of_getElem? (i := 645) (by decide +kernel), List.mem_of_getElem? (i := 646) (by decide +kernel)⟩
theorem lw_p20 : lw_okq (⟨"HingeTablesModel", "replaces", "(II)Z"⟩, 18) := ⟨⟨by decide +kernel, by decide +kernel⟩, List.mem_of_getElem? (i := 520) (by decide +kernel), List.mem_of_getElem? (i := 653) (by decide +kernel), List.mem_of_getElem? (i := 654) (by decide +kernel)⟩
theorem lw_p21 : lw_okq (⟨"HingeTablesModel", "grams", "()J"⟩, 18) := ⟨⟨by decide +kernel, by decide +kernel⟩, List.mem_of_getElem? (i := 520) (by decide +kernel), List.mem_of_getElem? (i := 673) (by decide +kernel), List.mem_of_getElem? (i := 674) (by decide +kernel)⟩
theorem lw_p22 : lw_okq (⟨"HingeTablesModel", "hinges", "()I"⟩, 18) := ⟨⟨by decide +kernel, by decide +kernel⟩, List.mem_of_getElem? (i := 520) (by decide +kernel), List.mem_of_getElem? (i := 685) (by decide +kernel), List.mem_of_getElem? (i := 686) (by decide +kernel)⟩
theorem lw_p23 : lw_okq (⟨"HingeTablesModel", "meets", "(II)Z"⟩, 18) := ⟨⟨by decide +kernel, by decide +kernel⟩, List.mem_of_getElem? (i := 520) (by decide +kernel), List.mem_of_getElem? (i := 706) (by decide +kernel), List.mem_of_getElem? (i := 707) (by decide +kernel)⟩
theorem lw_p24 : lw_okq (⟨"HingeTablesModel", "placeOf", "(III)J"⟩, 18) := ⟨⟨by decide +kernel, by decide +kernel⟩, List.mem_of_getElem? (i := 520) (by decide +kernel), List.mem_of_getElem? (i := 718) (by decide +kernel), List.mem_of_getElem? (i := 719) (by decide +kernel)⟩
def lw_privs_2 : List (MethodName × Nat) := [(⟨"HingeTablesModel", "readNumber", "()I"⟩, 18), (⟨"HingeTablesModel", "rowCode", "(I)I"⟩, 18), (⟨"HingeTablesModel", "number", "(II)J"⟩, 18), (⟨"HingeTablesModel", "isThere", "(II)Z"⟩, 18), (⟨"HingeTablesModel", "replaces", "(II)Z"⟩, 18), (⟨"HingeTablesModel", "grams", "()J"⟩, 18), (⟨"HingeTablesModel", "hinges", "()I"⟩, 18), (⟨"HingeTablesModel", "meets", "(II)Z"⟩, 18), (⟨"HingeTablesModel", "placeOf", "(III)J"⟩, 18)]
theorem lw_r2 : ∀ q ∈ lw_privs_2, lw_okq q := List.forall_mem_cons.mpr ⟨lw_p16, List.forall_mem_cons.mpr ⟨lw_p17, List.forall_mem_cons.mpr ⟨lw_p18, List.forall_mem_cons.mpr ⟨lw_p19, List.forall_mem_cons.mpr ⟨lw_p20, List.forall_mem_cons.mpr ⟨lw_p21, List.forall_mem_cons.mpr ⟨lw_p22, List.forall_mem_cons.mpr ⟨lw_p23, List.forall_mem_cons.mpr ⟨lw_p24, fun _ h => absurd h List.not_mem_nil⟩⟩⟩⟩⟩⟩⟩⟩⟩
def lw_privs : List (MethodName × Nat) := lw_privs_1 ++ (lw_privs_2)
def lw_tbl : List Cond := k2_sels lw_privs ++ tables_1
theorem lw_privs_ok : ∀ q ∈ lw_privs, lw_okq q := by
  show ∀ q ∈ lw_privs_1 ++ (lw_privs_2), lw_okq q
  exact List.forall_mem_append.mpr ⟨lw_r1, lw_r2⟩

/-! ===== BEGIN words of one list among another's, by their places ===== -/
theorem goodIn_r {big : List Cond} (ws : List Cond) (ps : List Nat) (hp : ws = ps.filterMap (fun i => big[i]?)) (h : ws.all goodWord = true) : GoodIn big ws := by
  intro w hw
  have h1 := List.all_eq_true.mp h w hw
  rw [hp] at hw
  obtain ⟨i, -, hi⟩ := List.mem_filterMap.mp hw
  have hm : w ∈ big := by first | exact List.mem_of_getElem? hi | exact List.getElem?_mem hi
  exact ⟨hm, good_of_word h1⟩
theorem goodIn_app {big a b : List Cond} (ha : GoodIn big a) (hb : GoodIn big b) : GoodIn big (a ++ b) := fun w h => (List.mem_append.mp h).elim (ha w) (hb w)
theorem goodIn_ca {big a b : List Cond} {c : Cond} (ha : GoodIn big (c :: a)) (hb : GoodIn big b) : GoodIn big (c :: (a ++ b)) := fun w h => (List.mem_cons.mp h).elim (fun e => ha w (List.mem_cons.mpr (Or.inl e))) (fun h => (List.mem_append.mp h).elim (fun h => ha w (List.mem_cons.mpr (Or.inr h))) (hb w))
theorem goodIn_sub {big ws : List Cond} (hm : ∀ w ∈ ws, w ∈ big) (h : ws.all goodWord = true) : GoodIn big ws := fun w hw => ⟨hm w hw, good_of_word (List.all_eq_true.mp h w hw)⟩
/-! ===== END ===== -/

/-! ===== BEGIN exceptions that leave a method, and their catching by the caller (launches without stack traces) ===== -/
section VXA
/-! The laws vx_back, vx_callV, vx_callS, vx_callSW, vx_throw0, vx_throwS follow proofs of the library, with one case more: JvmDerived/Free/Laws.lean (Back.of_free), Shelf42/LK1.lean (callV, callS), Shelf/KitTraced.lean (throwNew0V, throwNewS). -/
/-- where a method has thrown q: the class by its name, the cell, what was written, the world -/
def vx_T (XC : String → State → State → Prop) (st : State) (q : Addr) (t : State) (mc ms : Nat) (free : Addr → Prop) : Prop :=
  ∃ (E : String) (ce : Cell) (L : List Loc), XC E st t ∧ t.heap[q]? = some ce ∧ ce.vm = .none ∧ st.vm.findClass E = some ce.cls ∧ st.WarmedH t.vm ∧ st.sameButNew ({ t with vm := st.vm } : State) L mc ms ∧ ∀ z ∈ L, free z.base
def vx_Q (Qc : Array Value → State → Outcome → State → Prop) (XC : String → State → State → Prop) (mc ms : Nat) (free : Addr → Prop) : Array Value → State → Outcome → State → Prop := fun a st o t =>
  (Qc a st o t ∧ ∃ L, FrameEnd st o t L mc ms ∧ ∀ q ∈ L, free q.base) ∨ ∃ q, o = .threw q ∧ vx_T XC st q t mc ms free
/-- a callee that returns or throws -/
def vx_Met (l : Launch) (y : MethodName) (ws : List Cond) (rm : Room) (Pc : Array Value → State → Prop) (Qc : Array Value → State → Outcome → State → Prop) (XC : String → State → State → Prop) (mc ms : Nat) (free : Addr → Prop) : Prop :=
  MetFree l y (headSpec ws rm) Pc (fun _ _ _ _ _ => True) (vx_Q Qc XC mc ms free)
def vx_Post (XC : String → State → State → Prop) (mc ms : Nat) (free : Addr → Prop) : Pt → Array Value → Addr → Pt → Prop := fun A a q B =>
  ∃ (g : JFrame) (mk : MethodId) (t : State) (L : List Loc) (E : String) (ce : Cell), B.U.heap = t.heap ∧ B.U.vm = t.vm ∧ XC E (A.U.calling g mk a) t ∧ t.heap[q]? = some ce ∧ ce.vm = .none ∧ A.U.vm.findClass E = some ce.cls ∧ B.locs = A.locs ++ L ∧ (∀ z ∈ L, free z.base) ∧ B.cells = A.cells + mc ∧ B.slots = A.slots + ms
def vx_Back (l : Launch) (R : Room) (p : Program) (e : Env) (below : List Frame) (s : State) (sargs : Array Value) (y : MethodName) (len W9 : Nat)
    (Pre : Pt → Array Value → Prop) (Post : Pt → Array Value → Option Value → Pt → Prop) (PostX : Pt → Array Value → Addr → Pt → Prop) : Prop :=
  ∀ (m : MethodId) (meth : Method) (c : Code) (A : Pt) (g : JFrame) (ig : Instr) (mk : MethodId) (a : Array Value),
    Stand p l e R s m sargs below meth c A.U A.locs A.cells A.slots → g.method = m → g.locals.size = c.maxLocals → decode c.code g.pc = .ok (ig, len) →
    2 * g.monitorRoom + (g.stack.map fun v => v.category).sum ≤ W9 → A.U.methodNamed? y = some mk → Pre A a →
    (∃ (v : Option Value) (B : Pt), Stand p l e R s m sargs below meth c B.U B.locs B.cells B.slots ∧ Post A a v B ∧
      Steps p.tables e below (doInvoke e (A.U.setTop g) [] mk a).1 (B.U.setTop { g with pc := g.pc + len, stack := v.toList ++ g.stack })) ∨
    (∃ (q : Addr) (B : Pt), Stand p l e R s m sargs below meth c B.U B.locs B.cells B.slots ∧ PostX A a q B ∧
      Steps p.tables e below (doInvoke e (A.U.setTop g) [] mk a).1 ((B.U.setTop g).pushFrame (.throwing q)))
section Payer
variable {l : Launch} {R : Room} {p : Program} {e : Env} {below : List Frame} {s : State} {sargs : Array Value} {y : MethodName} {len W9 : Nat}
theorem vx_back {ws : List Cond} {rm : Room} {Pc : Array Value → State → Prop} {Qc : Array Value → State → Outcome → State → Prop} {XC : String → State → State → Prop} {mc ms : Nat} {free : Addr → Prop} {bytes : ByteArray} {maxL : Nat} {ret : Option FieldType}
    (hM : vx_Met l y ws rm Pc Qc XC mc ms free) (hblind : FrameBlind Pc) (hrc : rm.cells = mc) (hrs : rm.slots = ms)
    (hframes : rm.frames + 1 ≤ R.frames) (hlocals : W9 + (maxL + 11) + rm.locals ≤ R.locals)
    (hws : ∀ w ∈ ws, ∀ a' U, s.WarmedH U.vm → w.before a' U = true) (hcode : Cond.code y bytes maxL ret ∈ ws) (hinit : ∀ a' U, s.WarmedH U.vm → (Cond.initialized y.cls).before a' U = true) :
    vx_Back l R p e below s sargs y len W9 (PreOf R mc ms Pc) (PostOf Qc mc ms free) (vx_Post XC mc ms free) := by
  intro m meth c A g ig mk a X hg hsize hdg hW hn hp
  have h1 : (headSpec ws rm).pre.before a A.U = true := atoms_intro fun w hw => hws w hw _ _ X.warmed
  have h2 : (Cond.code y bytes maxL ret).before a A.U = true := hws _ hcode _ _ X.warmed
  have h3 : (Cond.initialized y.cls).before a A.U = true := hinit _ _ X.warmed
  have h4 : A.cells + (headSpec ws rm).room.cells ≤ R.cells := by rw [show (headSpec ws rm).room.cells = mc from hrc]; exact hp.1
  have h5 : A.slots + (headSpec ws rm).room.slots ≤ R.slots := by rw [show (headSpec ws rm).room.slots = ms from hrs]; exact hp.2.1
  have hPc : Pc a (A.U.calling g mk a) := hblind _ _ _ _ hp.2.2
  obtain ⟨U, Ls, c0, s0⟩ := A
  dsimp only [Pt.U, Pt.locs, Pt.cells, Pt.slots] at h1 h2 h3 h4 h5 X hn hPc ⊢
  obtain ⟨methY, cY, hmY, hcY, -, hlY, -, -, -, -⟩ := Cond.code_spec hn h2
  obtain ⟨kY, hkY, -⟩ := className_of_methodNamed hn
  have hinitY : kY.init = .initialized := Cond.initialized_spec (findClass_of_methodNamed hn) hkY h3
  have h : At U g.method c below := by rw [hg]; exact X.here
  have hlocals9 : W9 + (maxL + 11) + (headSpec ws rm).room.locals ≤ R.locals := hlocals
  have happ : (headSpec ws rm).appliesLoose y e.platform (U.calling g mk a) = true :=
    Spec.appliesLoose_calling (g := g) h hdg hn hkY hinitY
      (X.room_calling (g := g) (R' := (headSpec ws rm).room) hsize hmY hcY hframes (by rw [hlY]; omega) h4 h5) h1
  obtain ⟨mid, hmid⟩ := h.above
  have hfr : (U.setTop g).frames = (.java g :: mid) ++ below := by rw [State.frames_setTop' g h.top, hmid]; rfl
  obtain ⟨o, s₂, hsteps, -, hend, hq⟩ := Steps.callFree hM p X.admits X.cas X.clock (acts := []) hfr happ hPc trivial
  have hq' : vx_Q Qc XC mc ms free a (U.calling g mk a) o s₂ := hq
  rw [State.frames_setTop' g h.top] at hend
  obtain ⟨g₀, hg0⟩ := Option.isSome_iff_exists.mp h.top
  obtain ⟨r, hr⟩ := State.topJava?_eq_some.mp hg0
  have hr' : (({ U with heap := s₂.heap, slotsUsed := s₂.slotsUsed } : State).setVm s₂.vm).frames = .java g₀ :: r := hr
  rcases hq' with ⟨hqc, L, hfe, hL⟩ | ⟨q, rfl, E, ce, L, hx, hce, hcv, hcl, hW₂, hsm, hL⟩
  · obtain ⟨⟨v, rfl⟩, hW₂, e2, q2, q3, q4, q5, q6⟩ := id hfe
    have e3 : s₂ = ({ (U.calling g mk a).setFrames s₂.frames with heap := s₂.heap, slotsUsed := s₂.slotsUsed } : State).setVm s₂.vm := by
      have : s₂ = ({ s₂ with vm := (U.calling g mk a).vm } : State).setVm s₂.vm := rfl
      rw [e2] at this
      exact this
    obtain ⟨c₂, i₂, len₂, hc₂, hd₂, hf₂⟩ := hend
    have hW' : U.WarmedH s₂.vm := hW₂
    have hcc : c₂ = c := by
      have h1 : s₂.code? g.method = U.code? g.method := by
        rw [State.code?_eq, State.code?_eq, hW'.alike.method?]
      exact Option.some.inj (hc₂.symm.trans (h1.trans h.code))
    subst hcc
    have hlen : len₂ = len := by rw [hdg] at hd₂; cases hd₂; rfl
    subst hlen
    have hs₂ : s₂ = (({ U with heap := s₂.heap, slotsUsed := s₂.slotsUsed } : State).setVm s₂.vm).setTop { g with pc := g.pc + len₂, stack := v.toList ++ g.stack } := by
      refine e3.trans ?_
      rw [hf₂, State.calling_eq h.top, State.setFrames_setFrames, State.setTop_of_frames _ hr', hr]
      rfl
    have hsame : U.sameButNew ({ U with heap := s₂.heap, slotsUsed := s₂.slotsUsed } : State) L mc ms := by
      refine ⟨?_, q2, q3, q4, q5, q6⟩
      obtain ⟨t, ht, -⟩ := State.frames_cons hr
      show ({ U with heap := s₂.heap, slotsUsed := s₂.slotsUsed } : State) = { U.setFrames U.frames with heap := s₂.heap, slotsUsed := s₂.slotsUsed }
      rw [State.setFrames_self ht]
    subst hg
    refine Or.inl ⟨v, ⟨(({ U with heap := s₂.heap, slotsUsed := s₂.slotsUsed } : State).setVm s₂.vm), Ls ++ L, c0 + mc, s0 + ms⟩,
      ⟨X.admits, X.cas, X.clock, X.frames, X.room, X.hears, X.method, X.code, (X.here.setHeapUsed s₂.heap s₂.slotsUsed).setVm hW'.alike, X.tail, State.WarmedH.trans X.warmed hW', X.limits, X.bytes, X.same.trans (hsame.setVm s.vm)⟩,
      ⟨g, mk, s₂, L, rfl, rfl, hqc, rfl, hL, rfl, rfl⟩, ?_⟩
    show Steps p.tables e below _ ((({ U with heap := s₂.heap, slotsUsed := s₂.slotsUsed } : State).setVm s₂.vm).setTop { g with pc := g.pc + len₂, stack := v.toList ++ g.stack })
    rw [← hs₂]
    exact hsteps
  · obtain ⟨e2, q2, q3, q4, q5, q6⟩ := id hsm
    have e3 : s₂ = ({ (U.calling g mk a).setFrames s₂.frames with heap := s₂.heap, slotsUsed := s₂.slotsUsed } : State).setVm s₂.vm := by
      have : s₂ = ({ s₂ with vm := (U.calling g mk a).vm } : State).setVm s₂.vm := rfl
      rw [e2] at this
      exact this
    have hf₂ : s₂.frames = .throwing q :: .java g :: U.frames.tail := hend
    have hW' : U.WarmedH s₂.vm := hW₂
    have hs₂ : s₂ = ((({ U with heap := s₂.heap, slotsUsed := s₂.slotsUsed } : State).setVm s₂.vm).setTop g).pushFrame (.throwing q) := by
      refine e3.trans ?_
      rw [hf₂, State.calling_eq h.top, State.setFrames_setFrames, State.pushFrame, State.frames_setTop _ hr', State.setTop_of_frames _ hr', State.setFrames_setFrames, hr]
      rfl
    have hsame : U.sameButNew ({ U with heap := s₂.heap, slotsUsed := s₂.slotsUsed } : State) L mc ms := by
      refine ⟨?_, q2, q3, q4, q5, q6⟩
      obtain ⟨t, ht, -⟩ := State.frames_cons hr
      show ({ U with heap := s₂.heap, slotsUsed := s₂.slotsUsed } : State) = { U.setFrames U.frames with heap := s₂.heap, slotsUsed := s₂.slotsUsed }
      rw [State.setFrames_self ht]
    subst hg
    refine Or.inr ⟨q, ⟨(({ U with heap := s₂.heap, slotsUsed := s₂.slotsUsed } : State).setVm s₂.vm), Ls ++ L, c0 + mc, s0 + ms⟩,
      ⟨X.admits, X.cas, X.clock, X.frames, X.room, X.hears, X.method, X.code, (X.here.setHeapUsed s₂.heap s₂.slotsUsed).setVm hW'.alike, X.tail, State.WarmedH.trans X.warmed hW', X.limits, X.bytes, X.same.trans (hsame.setVm s.vm)⟩,
      ⟨g, mk, s₂, L, E, ce, rfl, rfl, hx, hce, hcv, hcl, rfl, hL, rfl, rfl⟩, ?_⟩
    show Steps p.tables e below _ (((({ U with heap := s₂.heap, slotsUsed := s₂.slotsUsed } : State).setVm s₂.vm).setTop g).pushFrame (.throwing q))
    rw [← hs₂]
    exact hsteps
end Payer
section Calls
variable {p : Program} {l : Launch} {e : Env} {R : Room} {s : State} {m : MethodId} {args : Array Value} {below : List Frame} {meth : Method} {c : Code} {T : State} {locs : List Loc} {cells slots : Nat}
theorem vx_callV (X : Stand p l e R s m args below meth c T locs cells slots) (hexec : p.tables.exec = Jvm.exec) {own C : String} {index : Nat} {y : MethodName} {bytes : ByteArray} {maxL : Nat} {ret : Option FieldType}
    (hown : s.vm.findClass own = some m.cls) (hlink : (Cond.methodLink own index y).before args s = true) (hinst : (Cond.instanceMethod y).before args s = true) (hsel : (Cond.selects C y y).before args s = true)
    (hcode : (Cond.code y bytes maxL ret).before args s = true) (hy : y.cls ≠ "java/lang/invoke/MethodHandle" ∧ y.cls ≠ "java/lang/invoke/VarHandle")
    {W9 : Nat} {Pre : Pt → Array Value → Prop} {Post : Pt → Array Value → Option Value → Pt → Prop} {PostX : Pt → Array Value → Addr → Pt → Prop} (hK : vx_Back l R p e below s args y 3 W9 Pre Post PostX)
    {b : Addr} {cellB : Cell} (hcell : T.heap[b]? = some cellB) (hobj : cellB.vm.isStatics = false) (hcls : s.vm.findClass C = some cellB.cls)
    {g : JFrame} (hg : g.method = m) (hsize : g.locals.size = c.maxLocals) {argsL rest : List Value} (hlen : ∀ sig, parseMethodDescriptor y.desc = some sig → argsL.length = sig.parameters.length)
    (hstack : g.stack = argsL.reverse ++ .ref b :: rest) (hW : 2 * g.monitorRoom + (rest.map fun v => v.category).sum ≤ W9) (hdg : decode c.code g.pc = .ok (.invokevirtual index, 3))
    (hpre : ∀ vm₁, s.WarmedH vm₁ → Pre ⟨T.setVm vm₁, locs, cells, slots⟩ (Value.ref b :: argsL).toArray) :
    (∃ (v : Option Value) (vm₁ : Vm) (B : Pt), s.WarmedH vm₁ ∧ Stand p l e R s m args below meth c B.U B.locs B.cells B.slots ∧ Post ⟨T.setVm vm₁, locs, cells, slots⟩ (Value.ref b :: argsL).toArray v B ∧
      ∀ target, Steps p.tables e below (B.U.setTop { g with pc := g.pc + 3, stack := v.toList ++ rest }) target → Steps p.tables e below (T.setTop g) target) ∨
    (∃ (q : Addr) (vm₁ : Vm) (B : Pt), s.WarmedH vm₁ ∧ Stand p l e R s m args below meth c B.U B.locs B.cells B.slots ∧ PostX ⟨T.setVm vm₁, locs, cells, slots⟩ (Value.ref b :: argsL).toArray q B ∧
      Steps p.tables e below (T.setTop g) ((B.U.setTop { g with stack := rest }).pushFrame (.throwing q))) := by
  obtain ⟨mk, methM, hnamed, hmethM, hstM, habM⟩ := Cond.instanceMethod_spec hinst
  obtain ⟨methM', cM, hmethM', -, -, -, -, -, -, hsigM⟩ := Cond.code_spec hnamed hcode
  cases hmethM.symm.trans hmethM'
  obtain ⟨c2, r2, m2, q1, q2, q3, q4, kP, hkP, hkPi⟩ := Cond.selects_spec hsel
  cases hcls.symm.trans q1
  cases (State.methodFound?_of_named hnamed hy).symm.trans q2
  cases hnamed.symm.trans q3
  have hselP : selectMethod e.platform s.vm cellB.cls mk = .method mk := by rw [Launch.admits_selectMethod X.admits]; exact q4
  obtain ⟨vm₁, X₁, hstep₁⟩ := X.invokevirtual hexec hown hlink hnamed hmethM hstM hkP hkPi hy (a := b) (cell := cellB) hcell
    (fun z h => by rw [h] at hobj; cases hobj) hselP hmethM habM hkP hkPi (g := g) hg (argsL := argsL) (rest := rest) (hlen _ hsigM) hstack hdg
  rcases hK m meth c ⟨T.setVm vm₁, locs, cells, slots⟩ { g with stack := rest } (.invokevirtual index) mk (Value.ref b :: argsL).toArray X₁ hg hsize hdg hW (X₁.named hnamed) (hpre vm₁ X₁.warmed) with ⟨v, B, X', hpost, hsteps⟩ | ⟨q, B, X', hpost, hsteps⟩
  · exact Or.inl ⟨v, vm₁, B, X₁.warmed, X', hpost, fun target h => hstep₁ _ fun acts => by rw [doInvoke_state]; exact hsteps.trans h⟩
  · exact Or.inr ⟨q, vm₁, B, X₁.warmed, X', hpost, hstep₁ _ fun acts => by rw [doInvoke_state]; exact hsteps⟩
theorem vx_callS (X : Stand p l e R s m args below meth c T locs cells slots) (hexec : p.tables.exec = Jvm.exec) {own : String} {index : Nat} {y : MethodName} {bytes : ByteArray} {maxL : Nat} {ret : Option FieldType}
    (hown : s.vm.findClass own = some m.cls) (hlink : (Cond.methodLink own index y).before args s = true) (hstat : (Cond.static y).before args s = true) (hinit : (Cond.initialized y.cls).before args s = true)
    (hcode : (Cond.code y bytes maxL ret).before args s = true) (hy : y.cls ≠ "java/lang/invoke/MethodHandle" ∧ y.cls ≠ "java/lang/invoke/VarHandle")
    {W9 : Nat} {Pre : Pt → Array Value → Prop} {Post : Pt → Array Value → Option Value → Pt → Prop} {PostX : Pt → Array Value → Addr → Pt → Prop} (hK : vx_Back l R p e below s args y 3 W9 Pre Post PostX)
    {g : JFrame} (hg : g.method = m) (hsize : g.locals.size = c.maxLocals) {argsL rest : List Value} (hlen : ∀ sig, parseMethodDescriptor y.desc = some sig → argsL.length = sig.parameters.length)
    (hstack : g.stack = argsL.reverse ++ rest) (hW : 2 * g.monitorRoom + (rest.map fun v => v.category).sum ≤ W9) (hdg : decode c.code g.pc = .ok (.invokestatic index, 3))
    (hpre : ∀ vm₁, s.WarmedH vm₁ → Pre ⟨T.setVm vm₁, locs, cells, slots⟩ argsL.toArray) :
    (∃ (v : Option Value) (vm₁ : Vm) (B : Pt), s.WarmedH vm₁ ∧ Stand p l e R s m args below meth c B.U B.locs B.cells B.slots ∧ Post ⟨T.setVm vm₁, locs, cells, slots⟩ argsL.toArray v B ∧
      ∀ target, Steps p.tables e below (B.U.setTop { g with pc := g.pc + 3, stack := v.toList ++ rest }) target → Steps p.tables e below (T.setTop g) target) ∨
    (∃ (q : Addr) (vm₁ : Vm) (B : Pt), s.WarmedH vm₁ ∧ Stand p l e R s m args below meth c B.U B.locs B.cells B.slots ∧ PostX ⟨T.setVm vm₁, locs, cells, slots⟩ argsL.toArray q B ∧
      Steps p.tables e below (T.setTop g) ((B.U.setTop { g with stack := rest }).pushFrame (.throwing q))) := by
  obtain ⟨mk, hnamed⟩ := Cond.code_named hcode
  obtain ⟨methM, cM, hmethM, -, -, -, -, -, -, hsigM⟩ := Cond.code_spec hnamed hcode
  have hstatic : methM.isStatic = true := Cond.static_spec hnamed hmethM hstat
  obtain ⟨kP, hkP, -⟩ := className_of_methodNamed hnamed
  have hinitP : kP.init = .initialized := Cond.initialized_spec (findClass_of_methodNamed hnamed) hkP hinit
  obtain ⟨vm₁, X₁, hstep₁⟩ := X.invokestatic hexec hown hlink hnamed hmethM hstatic hkP hinitP hy (g := g) hg (argsL := argsL) (rest := rest) (hlen _ hsigM) hstack hdg
  rcases hK m meth c ⟨T.setVm vm₁, locs, cells, slots⟩ { g with stack := rest } (.invokestatic index) mk argsL.toArray X₁ hg hsize hdg hW (X₁.named hnamed) (hpre vm₁ X₁.warmed) with ⟨v, B, X', hpost, hsteps⟩ | ⟨q, B, X', hpost, hsteps⟩
  · exact Or.inl ⟨v, vm₁, B, X₁.warmed, X', hpost, fun target h => hstep₁ _ fun acts => by rw [doInvoke_state]; exact hsteps.trans h⟩
  · exact Or.inr ⟨q, vm₁, B, X₁.warmed, X', hpost, hstep₁ _ fun acts => by rw [doInvoke_state]; exact hsteps⟩
end Calls
theorem vx_cls {s : State} {T : State} {vm₁ : Vm} {E : String} {k : ClassId} (hW : s.WarmedH vm₁) (h : (T.setVm vm₁).vm.findClass E = some k) : s.vm.findClass E = some k := by
  have h1 : vm₁.findClass E = some k := h
  rw [hW.alike.findClass] at h1
  exact h1
/-- the method's frame g, with q thrown over it -/
def vx_W (p : Program) (l : Launch) (e : Env) (R : Room) (s : State) (m : MethodId) (args : Array Value) (below : List Frame) (meth : Method) (c : Code) (H : Heap) (locs : List Loc) (cells slots : Nat) (Q : State → Prop) (g : JFrame) (q : Addr) : Prop :=
  ∀ T : State, T.heap = H → Stand p l e R s m args below meth c T locs cells slots → ∃ t, Steps p.tables e below ((T.setTop g).pushFrame (.throwing q)) t ∧ Q t
def vx_Run (p : Program) (l : Launch) (e : Env) (R : Room) (s : State) (m : MethodId) (args : Array Value) (below : List Frame) (meth : Method) (c : Code) (H : Heap) (locs : List Loc) (cells slots mc ms : Nat) (g : JFrame) (rest : List Value) (Qa : State → Outcome → State → Prop) (XC : String → State → State → Prop) (free : Addr → Prop) : Prop :=
  ∀ T : State, T.heap = H → Stand p l e R s m args below meth c T locs cells slots →
    (∃ (v : Option Value) (st₀ t T' : State) (L : List Loc), st₀.heap = H ∧ Stand p l e R s m args below meth c T' (locs ++ L) (cells + mc) (slots + ms) ∧ (∀ q ∈ L, free q.base) ∧ T'.heap = t.heap ∧ T'.vm = t.vm ∧ Qa st₀ (.returned v) t ∧
      Goes p e below T g T' { g with pc := g.pc + 3, stack := v.toList ++ rest }) ∨
    (∃ (q : Addr) (st₀ t T' : State) (L : List Loc) (E : String) (ce : Cell), st₀.heap = H ∧ Stand p l e R s m args below meth c T' (locs ++ L) (cells + mc) (slots + ms) ∧ (∀ z ∈ L, free z.base) ∧ T'.heap = t.heap ∧ T'.vm = t.vm ∧ XC E st₀ t ∧ t.heap[q]? = some ce ∧ ce.vm = .none ∧ s.vm.findClass E = some ce.cls ∧
      Steps p.tables e below (T.setTop g) ((T'.setTop { g with stack := rest }).pushFrame (.throwing q)))
def vx_X {S : Type} (px : S → Prop) (B : String → S → State → Prop) (A : Nat → Prop) : String → State → State → Prop := fun E st t => ∃ u : S, px u ∧ B E u t ∧ va_F A st t
section Runs
variable {p : Program} {l : Launch} {e : Env} {R : Room} {s : State} {m : MethodId} {args : Array Value} {below : List Frame} {meth : Method} {c : Code} {H : Heap} {locs : List Loc} {cells slots : Nat}
variable {y : MethodName} {bytes cc : ByteArray} {maxL nL mc ms n index : Nat} {ret : Option FieldType} {ws : List Cond} {rm : Room} {Pc : Array Value → State → Prop} {Qc : Array Value → State → Outcome → State → Prop} {XC : String → State → State → Prop} {free : Addr → Prop} {Ts : List Cond} {own C : String} {b : Addr} {As rest : List Value} {g : JFrame}
theorem vx_callBack (cb : CallB R s args own index y bytes maxL ret ws rm mc ms n) (hM : vx_Met l y ws rm Pc Qc XC mc ms free) (hbl : FrameBlind Pc) : vx_Back l R p e below s args y 3 8 (PreOf R mc ms Pc) (PostOf Qc mc ms free) (vx_Post XC mc ms free) := by
  obtain ⟨hrc, hrs, hfr, hlo, hws, hcw, -, hini, -⟩ := cb
  exact vx_back (bytes := bytes) (maxL := maxL) (ret := ret) hM hbl hrc hrs hfr hlo hws hcw (fun a' U hW => word_at hW (Or.inl (by first | rfl | simp [Cond.onTables, Cond.keeps, Cond.steady])) hini)
theorem vx_runV (S : CallFix p m c cc nL s args Ts own) (hM : vx_Met l y ws rm Pc Qc XC mc ms free) (cw : CallW R s args own C index y bytes maxL ret ws rm mc ms n) (hp : PreV s H C b Pc As)
    (hg : g.method = m) (hn : As.length = n) (hsize : g.locals.size = nL) (hstack : g.stack = As.reverse ++ .ref b :: rest) (hW : 2 * g.monitorRoom + (rest.map fun v => v.category).sum ≤ 8) (hdg : decode cc g.pc = .ok (.invokevirtual index, 3)) (hf : cells + mc ≤ R.cells ∧ slots + ms ≤ R.slots) :
    vx_Run p l e R s m args below meth c H locs cells slots mc ms g rest (Qc (Value.ref b :: As).toArray) XC free := by
  have hK : vx_Back l R p e below s args y 3 8 (PreOf R mc ms Pc) (PostOf Qc mc ms free) (vx_Post XC mc ms free) := vx_callBack cw.1 hM hp.1
  obtain ⟨⟨-, -, -, -, -, -, hcode, -, hy, hlen, hl⟩, hin, hse⟩ := cw
  obtain ⟨hx, hb, hml, ho, -⟩ := S
  obtain ⟨-, ⟨cellB, hcB, hoB, hclB⟩, hPc⟩ := hp
  intro T hT X
  rcases vx_callV X hx (C := C) (bytes := bytes) (maxL := maxL) (ret := ret) ho hl hin hse hcode hy hK (by rw [hT]; exact hcB) hoB hclB hg (hsize.trans hml.symm) (argsL := As) (rest := rest) (fun sig h => hn.trans (hlen sig h)) hstack hW (by rw [hb]; exact hdg)
    (fun vm₁ hW₁ => ⟨hf.1, hf.2, hPc (T.setVm vm₁) hT hW₁⟩) with ⟨v, vm₁, ⟨U', l2, c2, s2⟩, hW₁, X', ⟨g', mk, t, L, e1, e2, hq, h1, hL, h2, h3⟩, st⟩ | ⟨q, vm₁, ⟨U', l2, c2, s2⟩, hW₁, X', ⟨g', mk, t, L, E, ce, e1, e2, hq, hce, hcv, hcl, h1, hL, h2, h3⟩, st⟩
  · dsimp only [Pt.U, Pt.locs, Pt.cells, Pt.slots] at X' e1 e2 h1 h2 h3 st
    subst h1; subst h2; subst h3
    exact Or.inl ⟨v, (T.setVm vm₁).calling g' mk (Value.ref b :: As).toArray, t, U', L, hT, X', hL, e1, e2, hq, st⟩
  · dsimp only [Pt.U, Pt.locs, Pt.cells, Pt.slots] at X' e1 e2 h1 h2 h3 st hcl
    subst h1; subst h2; subst h3
    exact Or.inr ⟨q, (T.setVm vm₁).calling g' mk (Value.ref b :: As).toArray, t, U', L, E, ce, hT, X', hL, e1, e2, hq, hce, hcv, vx_cls hW₁ hcl, st⟩
theorem vx_runS (S : CallFix p m c cc nL s args Ts own) (hM : vx_Met l y ws rm Pc Qc XC mc ms free) (cw : CallB R s args own index y bytes maxL ret ws rm mc ms n ∧ (Cond.static y).before args s = true) (hp : PreS s H Pc As)
    (hg : g.method = m) (hn : As.length = n) (hsize : g.locals.size = nL) (hstack : g.stack = As.reverse ++ rest) (hW : 2 * g.monitorRoom + (rest.map fun v => v.category).sum ≤ 8) (hdg : decode cc g.pc = .ok (.invokestatic index, 3)) (hf : cells + mc ≤ R.cells ∧ slots + ms ≤ R.slots) :
    vx_Run p l e R s m args below meth c H locs cells slots mc ms g rest (Qc As.toArray) XC free := by
  have hK : vx_Back l R p e below s args y 3 8 (PreOf R mc ms Pc) (PostOf Qc mc ms free) (vx_Post XC mc ms free) := vx_callBack cw.1 hM hp.1
  obtain ⟨⟨-, -, -, -, -, -, hcode, hini, hy, hlen, hl⟩, hstt⟩ := cw
  obtain ⟨hx, hb, hml, ho, -⟩ := S
  intro T hT X
  rcases vx_callS X hx (bytes := bytes) (maxL := maxL) (ret := ret) ho hl hstt hini hcode hy hK hg (hsize.trans hml.symm) (argsL := As) (rest := rest) (fun sig h => hn.trans (hlen sig h)) hstack hW (by rw [hb]; exact hdg)
    (fun vm₁ hW₁ => ⟨hf.1, hf.2, hp.2 (T.setVm vm₁) hT hW₁⟩) with ⟨v, vm₁, ⟨U', l2, c2, s2⟩, hW₁, X', ⟨g', mk, t, L, e1, e2, hq, h1, hL, h2, h3⟩, st⟩ | ⟨q, vm₁, ⟨U', l2, c2, s2⟩, hW₁, X', ⟨g', mk, t, L, E, ce, e1, e2, hq, hce, hcv, hcl, h1, hL, h2, h3⟩, st⟩
  · dsimp only [Pt.U, Pt.locs, Pt.cells, Pt.slots] at X' e1 e2 h1 h2 h3 st
    subst h1; subst h2; subst h3
    exact Or.inl ⟨v, (T.setVm vm₁).calling g' mk As.toArray, t, U', L, hT, X', hL, e1, e2, hq, st⟩
  · dsimp only [Pt.U, Pt.locs, Pt.cells, Pt.slots] at X' e1 e2 h1 h2 h3 st hcl
    subst h1; subst h2; subst h3
    exact Or.inr ⟨q, (T.setVm vm₁).calling g' mk As.toArray, t, U', L, E, ce, hT, X', hL, e1, e2, hq, hce, hcv, vx_cls hW₁ hcl, st⟩
end Runs
section Rows
variable {p : Program} {l : Launch} {e : Env} {R : Room} {s : State} {m : MethodId} {args : Array Value} {below : List Frame} {meth : Method} {c : Code} {H : Heap} {locs : List Loc} {cells slots : Nat} {Q : State → Prop}
variable {mc ms : Nat} {free : Addr → Prop} {A0 A1 : Nat → Prop} {H0 : Heap} {a : Array Value} {pc : Nat} {ls : Array Slot} {st0 rest : List Value}
theorem vx_keep {st₀ t T' : State} {L : List Loc} (h0 : st₀.heap = H) (e1 : T'.heap = t.heap) (hS : va_S A0 H0 H locs) (hA : ∀ q, q < H.size → A1 q → A0 q) (hf : ∀ q, free q → A0 q) (hL : ∀ q ∈ L, free q.base) (hF : va_F A1 st₀ t) :
    H.size ≤ T'.heap.size ∧ (∀ q : Nat, q < H.size → ¬ A1 q → T'.heap[q]? = H[q]?) ∧ va_S A0 H0 T'.heap (locs ++ L) := by
  obtain ⟨hz, hk⟩ := hF
  rw [h0] at hz hk
  exact ⟨by rw [e1]; exact hz, fun q h1 h2 => by rw [e1]; exact hk q h1 h2,
    ⟨Nat.le_trans hS.1 (by rw [e1]; exact hz), fun q h1 h2 => by rw [e1, hk q (Nat.lt_of_lt_of_le h1 hS.1) (fun z => h2 (hA q (Nat.lt_of_lt_of_le h1 hS.1) z))]; exact hS.2.1 q h1 h2, fun q hq => by
      rcases List.mem_append.mp hq with h | h
      · exact hS.2.2 q h
      · exact hf _ (hL q h)⟩⟩
theorem vx_calli {S SX : Type} {post : Int32 → S → Prop} {px : SX → Prop} {B : S → State → Prop} {BX : String → SX → State → Prop} {AX : Nat → Prop} (hr : vx_Run p l e R s m args below meth c H locs cells slots mc ms (F0 m pc ls st0) rest (va_Qi post B A1 a) (vx_X px BX AX) free) (hS : va_S A0 H0 H locs) (hA : ∀ q, q < H.size → A1 q → A0 q) (hf : ∀ q, free q → A0 q) (hAX : ∀ q, q < H.size → AX q → A0 q)
    (kx : ∀ (E : String) (ce : Cell) (q9 : Addr) (u : SX) (t : State) (H1 : Heap) (locs1 : List Loc), t.heap = H1 → s.vm.Alike t.vm → px u → BX E u t → H.size ≤ H1.size → (∀ q : Nat, q < H.size → ¬ AX q → H1[q]? = H[q]?) → va_S A0 H0 H1 locs1 → H1[q9]? = some ce → ce.vm = .none → s.vm.findClass E = some ce.cls → vx_W p l e R s m args below meth c H1 locs1 (cells + mc) (slots + ms) Q (F0 m pc ls rest) q9)
    (kk : ∀ (r : Int32) (u : S) (t : State) (H1 : Heap) (locs1 : List Loc), t.heap = H1 → s.vm.Alike t.vm → post r u → B u t → H.size ≤ H1.size → (∀ q : Nat, q < H.size → ¬ A1 q → H1[q]? = H[q]?) → va_S A0 H0 H1 locs1 → W p l e R s m args below meth c H1 locs1 (cells + mc) (slots + ms) Q (F0 m (pc + 3) ls (.int r :: rest))) : W p l e R s m args below meth c H locs cells slots Q (F0 m pc ls st0) := by
  intro T hT X
  rcases hr T hT X with ⟨v, st₀, t, T', L, h0, X', hL, e1, e2, ⟨⟨r, u, hv, hp, hb⟩, hF⟩, st⟩ | ⟨q, st₀, t, T', L, E, ce, h0, X', hL, e1, e2, ⟨u, hp, hb, hF⟩, hce, hcv, hcl, st⟩
  · cases hv
    obtain ⟨k1, k2, k3⟩ := vx_keep h0 e1 hS hA hf hL hF
    obtain ⟨t2, a1, b1⟩ := kk r u t T'.heap (locs ++ L) e1.symm (by rw [← e2]; exact X'.warmed.alike) hp hb k1 k2 k3 T' rfl X'
    exact ⟨t2, st t2 a1, b1⟩
  · obtain ⟨k1, k2, k3⟩ := vx_keep h0 e1 hS hAX hf hL hF
    obtain ⟨t2, a1, b1⟩ := kx E ce q u t T'.heap (locs ++ L) e1.symm (by rw [← e2]; exact X'.warmed.alike) hp hb k1 k2 k3 (by rw [e1]; exact hce) hcv hcl T' rfl X'
    exact ⟨t2, st.trans a1, b1⟩
theorem vx_calll {S SX : Type} {post : Int64 → S → Prop} {px : SX → Prop} {B : S → State → Prop} {BX : String → SX → State → Prop} {AX : Nat → Prop} (hr : vx_Run p l e R s m args below meth c H locs cells slots mc ms (F0 m pc ls st0) rest (va_Ql post B A1 a) (vx_X px BX AX) free) (hS : va_S A0 H0 H locs) (hA : ∀ q, q < H.size → A1 q → A0 q) (hf : ∀ q, free q → A0 q) (hAX : ∀ q, q < H.size → AX q → A0 q)
    (kx : ∀ (E : String) (ce : Cell) (q9 : Addr) (u : SX) (t : State) (H1 : Heap) (locs1 : List Loc), t.heap = H1 → s.vm.Alike t.vm → px u → BX E u t → H.size ≤ H1.size → (∀ q : Nat, q < H.size → ¬ AX q → H1[q]? = H[q]?) → va_S A0 H0 H1 locs1 → H1[q9]? = some ce → ce.vm = .none → s.vm.findClass E = some ce.cls → vx_W p l e R s m args below meth c H1 locs1 (cells + mc) (slots + ms) Q (F0 m pc ls rest) q9)
    (kk : ∀ (r : Int64) (u : S) (t : State) (H1 : Heap) (locs1 : List Loc), t.heap = H1 → s.vm.Alike t.vm → post r u → B u t → H.size ≤ H1.size → (∀ q : Nat, q < H.size → ¬ A1 q → H1[q]? = H[q]?) → va_S A0 H0 H1 locs1 → W p l e R s m args below meth c H1 locs1 (cells + mc) (slots + ms) Q (F0 m (pc + 3) ls (.long r :: rest))) : W p l e R s m args below meth c H locs cells slots Q (F0 m pc ls st0) := by
  intro T hT X
  rcases hr T hT X with ⟨v, st₀, t, T', L, h0, X', hL, e1, e2, ⟨⟨r, u, hv, hp, hb⟩, hF⟩, st⟩ | ⟨q, st₀, t, T', L, E, ce, h0, X', hL, e1, e2, ⟨u, hp, hb, hF⟩, hce, hcv, hcl, st⟩
  · cases hv
    obtain ⟨k1, k2, k3⟩ := vx_keep h0 e1 hS hA hf hL hF
    obtain ⟨t2, a1, b1⟩ := kk r u t T'.heap (locs ++ L) e1.symm (by rw [← e2]; exact X'.warmed.alike) hp hb k1 k2 k3 T' rfl X'
    exact ⟨t2, st t2 a1, b1⟩
  · obtain ⟨k1, k2, k3⟩ := vx_keep h0 e1 hS hAX hf hL hF
    obtain ⟨t2, a1, b1⟩ := kx E ce q u t T'.heap (locs ++ L) e1.symm (by rw [← e2]; exact X'.warmed.alike) hp hb k1 k2 k3 (by rw [e1]; exact hce) hcv hcl T' rfl X'
    exact ⟨t2, st.trans a1, b1⟩
theorem vx_callf {S SX : Type} {post : UInt32 → S → Prop} {px : SX → Prop} {B : S → State → Prop} {BX : String → SX → State → Prop} {AX : Nat → Prop} (hr : vx_Run p l e R s m args below meth c H locs cells slots mc ms (F0 m pc ls st0) rest (va_Qf post B A1 a) (vx_X px BX AX) free) (hS : va_S A0 H0 H locs) (hA : ∀ q, q < H.size → A1 q → A0 q) (hf : ∀ q, free q → A0 q) (hAX : ∀ q, q < H.size → AX q → A0 q)
    (kx : ∀ (E : String) (ce : Cell) (q9 : Addr) (u : SX) (t : State) (H1 : Heap) (locs1 : List Loc), t.heap = H1 → s.vm.Alike t.vm → px u → BX E u t → H.size ≤ H1.size → (∀ q : Nat, q < H.size → ¬ AX q → H1[q]? = H[q]?) → va_S A0 H0 H1 locs1 → H1[q9]? = some ce → ce.vm = .none → s.vm.findClass E = some ce.cls → vx_W p l e R s m args below meth c H1 locs1 (cells + mc) (slots + ms) Q (F0 m pc ls rest) q9)
    (kk : ∀ (r : UInt32) (u : S) (t : State) (H1 : Heap) (locs1 : List Loc), t.heap = H1 → s.vm.Alike t.vm → post r u → B u t → H.size ≤ H1.size → (∀ q : Nat, q < H.size → ¬ A1 q → H1[q]? = H[q]?) → va_S A0 H0 H1 locs1 → W p l e R s m args below meth c H1 locs1 (cells + mc) (slots + ms) Q (F0 m (pc + 3) ls (.float r :: rest))) : W p l e R s m args below meth c H locs cells slots Q (F0 m pc ls st0) := by
  intro T hT X
  rcases hr T hT X with ⟨v, st₀, t, T', L, h0, X', hL, e1, e2, ⟨⟨r, u, hv, hp, hb⟩, hF⟩, st⟩ | ⟨q, st₀, t, T', L, E, ce, h0, X', hL, e1, e2, ⟨u, hp, hb, hF⟩, hce, hcv, hcl, st⟩
  · cases hv
    obtain ⟨k1, k2, k3⟩ := vx_keep h0 e1 hS hA hf hL hF
    obtain ⟨t2, a1, b1⟩ := kk r u t T'.heap (locs ++ L) e1.symm (by rw [← e2]; exact X'.warmed.alike) hp hb k1 k2 k3 T' rfl X'
    exact ⟨t2, st t2 a1, b1⟩
  · obtain ⟨k1, k2, k3⟩ := vx_keep h0 e1 hS hAX hf hL hF
    obtain ⟨t2, a1, b1⟩ := kx E ce q u t T'.heap (locs ++ L) e1.symm (by rw [← e2]; exact X'.warmed.alike) hp hb k1 k2 k3 (by rw [e1]; exact hce) hcv hcl T' rfl X'
    exact ⟨t2, st.trans a1, b1⟩
theorem vx_calld {S SX : Type} {post : UInt64 → S → Prop} {px : SX → Prop} {B : S → State → Prop} {BX : String → SX → State → Prop} {AX : Nat → Prop} (hr : vx_Run p l e R s m args below meth c H locs cells slots mc ms (F0 m pc ls st0) rest (va_Qd post B A1 a) (vx_X px BX AX) free) (hS : va_S A0 H0 H locs) (hA : ∀ q, q < H.size → A1 q → A0 q) (hf : ∀ q, free q → A0 q) (hAX : ∀ q, q < H.size → AX q → A0 q)
    (kx : ∀ (E : String) (ce : Cell) (q9 : Addr) (u : SX) (t : State) (H1 : Heap) (locs1 : List Loc), t.heap = H1 → s.vm.Alike t.vm → px u → BX E u t → H.size ≤ H1.size → (∀ q : Nat, q < H.size → ¬ AX q → H1[q]? = H[q]?) → va_S A0 H0 H1 locs1 → H1[q9]? = some ce → ce.vm = .none → s.vm.findClass E = some ce.cls → vx_W p l e R s m args below meth c H1 locs1 (cells + mc) (slots + ms) Q (F0 m pc ls rest) q9)
    (kk : ∀ (r : UInt64) (u : S) (t : State) (H1 : Heap) (locs1 : List Loc), t.heap = H1 → s.vm.Alike t.vm → post r u → B u t → H.size ≤ H1.size → (∀ q : Nat, q < H.size → ¬ A1 q → H1[q]? = H[q]?) → va_S A0 H0 H1 locs1 → W p l e R s m args below meth c H1 locs1 (cells + mc) (slots + ms) Q (F0 m (pc + 3) ls (.double r :: rest))) : W p l e R s m args below meth c H locs cells slots Q (F0 m pc ls st0) := by
  intro T hT X
  rcases hr T hT X with ⟨v, st₀, t, T', L, h0, X', hL, e1, e2, ⟨⟨r, u, hv, hp, hb⟩, hF⟩, st⟩ | ⟨q, st₀, t, T', L, E, ce, h0, X', hL, e1, e2, ⟨u, hp, hb, hF⟩, hce, hcv, hcl, st⟩
  · cases hv
    obtain ⟨k1, k2, k3⟩ := vx_keep h0 e1 hS hA hf hL hF
    obtain ⟨t2, a1, b1⟩ := kk r u t T'.heap (locs ++ L) e1.symm (by rw [← e2]; exact X'.warmed.alike) hp hb k1 k2 k3 T' rfl X'
    exact ⟨t2, st t2 a1, b1⟩
  · obtain ⟨k1, k2, k3⟩ := vx_keep h0 e1 hS hAX hf hL hF
    obtain ⟨t2, a1, b1⟩ := kx E ce q u t T'.heap (locs ++ L) e1.symm (by rw [← e2]; exact X'.warmed.alike) hp hb k1 k2 k3 (by rw [e1]; exact hce) hcv hcl T' rfl X'
    exact ⟨t2, st.trans a1, b1⟩
theorem vx_callv {S SX : Type} {post : S → Prop} {px : SX → Prop} {B : S → State → Prop} {BX : String → SX → State → Prop} {AX : Nat → Prop} (hr : vx_Run p l e R s m args below meth c H locs cells slots mc ms (F0 m pc ls st0) rest (va_Qv post B A1 a) (vx_X px BX AX) free) (hS : va_S A0 H0 H locs) (hA : ∀ q, q < H.size → A1 q → A0 q) (hf : ∀ q, free q → A0 q) (hAX : ∀ q, q < H.size → AX q → A0 q)
    (kx : ∀ (E : String) (ce : Cell) (q9 : Addr) (u : SX) (t : State) (H1 : Heap) (locs1 : List Loc), t.heap = H1 → s.vm.Alike t.vm → px u → BX E u t → H.size ≤ H1.size → (∀ q : Nat, q < H.size → ¬ AX q → H1[q]? = H[q]?) → va_S A0 H0 H1 locs1 → H1[q9]? = some ce → ce.vm = .none → s.vm.findClass E = some ce.cls → vx_W p l e R s m args below meth c H1 locs1 (cells + mc) (slots + ms) Q (F0 m pc ls rest) q9)
    (kk : ∀ (u : S) (t : State) (H1 : Heap) (locs1 : List Loc), t.heap = H1 → s.vm.Alike t.vm → post u → B u t → H.size ≤ H1.size → (∀ q : Nat, q < H.size → ¬ A1 q → H1[q]? = H[q]?) → va_S A0 H0 H1 locs1 → W p l e R s m args below meth c H1 locs1 (cells + mc) (slots + ms) Q (F0 m (pc + 3) ls (rest))) : W p l e R s m args below meth c H locs cells slots Q (F0 m pc ls st0) := by
  intro T hT X
  rcases hr T hT X with ⟨v, st₀, t, T', L, h0, X', hL, e1, e2, ⟨⟨u, hv, hp, hb⟩, hF⟩, st⟩ | ⟨q, st₀, t, T', L, E, ce, h0, X', hL, e1, e2, ⟨u, hp, hb, hF⟩, hce, hcv, hcl, st⟩
  · cases hv
    obtain ⟨k1, k2, k3⟩ := vx_keep h0 e1 hS hA hf hL hF
    obtain ⟨t2, a1, b1⟩ := kk u t T'.heap (locs ++ L) e1.symm (by rw [← e2]; exact X'.warmed.alike) hp hb k1 k2 k3 T' rfl X'
    exact ⟨t2, st t2 a1, b1⟩
  · obtain ⟨k1, k2, k3⟩ := vx_keep h0 e1 hS hAX hf hL hF
    obtain ⟨t2, a1, b1⟩ := kx E ce q u t T'.heap (locs ++ L) e1.symm (by rw [← e2]; exact X'.warmed.alike) hp hb k1 k2 k3 (by rw [e1]; exact hce) hcv hcl T' rfl X'
    exact ⟨t2, st.trans a1, b1⟩
/-- caught by the row x of this method's table; the rows ahead don't take it -/
theorem vx_catch {own name : String} {E : String} {ce : Cell} {q : Addr} (hown : s.vm.findClass own = some m.cls) (pre : List ExceptionTableEntry) (x : ExceptionTableEntry) (suf : List ExceptionTableEntry) (hsplit : c.exceptionTable.toList = pre ++ x :: suf)
    (hpass : ∀ z ∈ pre, covers z pc = false ∨ (z.catchType ≠ 0 ∧ ∃ nm : String, (Cond.classLink own z.catchType nm).before args s = true ∧ va_Nc E nm s)) (hx : covers x pc = true) (h0 : x.catchType ≠ 0)
    (hlink : (Cond.classLink own x.catchType name).before args s = true) (hcast : (Cond.castable E name).before args s = true) (hcell : H[q]? = some ce) (hv : ce.vm = .none) (hcl : s.vm.findClass E = some ce.cls)
    (kk : W p l e R s m args below meth c H locs cells slots Q (F0 m x.handlerPc ls [.ref q])) : vx_W p l e R s m args below meth c H locs cells slots Q (F0 m pc ls rest) q := by
  intro T hT X
  have hpl : e.platform.magicAccessors = ({} : Platform).magicAccessors := by rw [X.admits.platform]
  obtain ⟨c3, c4, hc3, hc4, hasg⟩ := Cond.castable_spec hcast
  cases Option.some.inj (hc3.symm.trans hcl)
  obtain ⟨c5, hc5, hcl5⟩ := Cond.classLink_spec hown hlink e.platform hpl
  cases Option.some.inj (hc4.symm.trans hc5)
  obtain ⟨vm', X', st⟩ := X.thenCaughtThrough q (g := F0 m pc ls rest) rfl (Steps.refl _) (by rw [hT]; exact hcell) (by rw [hv]; rfl) (by obtain ⟨k9, h9, -⟩ := Vm.findClass_spec hcl; exact ⟨k9, h9⟩) pre x suf hsplit
    (fun z hz => by
      rcases hpass z hz with h | ⟨hz0, nm, hl1, hn1⟩
      · exact Or.inl h
      · obtain ⟨c6, hc6, hcl6⟩ := Cond.classLink_spec hown hl1 e.platform hpl
        obtain ⟨a8, b8, h1, h2, h3⟩ := hn1
        cases Option.some.inj (h1.symm.trans hcl)
        cases Option.some.inj (h2.symm.trans hc6)
        exact Or.inr ⟨hz0, _, hcl6, h3⟩) hx (Or.inr ⟨h0, c4, hcl5, hasg⟩)
  obtain ⟨t, a1, b1⟩ := kk (T.setVm vm') hT X'
  exact ⟨t, st.trans a1, b1⟩
end Rows
section Ends
variable {p : Program} {l : Launch} {e : Env} {R : Room} {s : State} {m : MethodId} {args : Array Value} {below : List Frame} {meth : Method} {c : Code} {H : Heap} {locs : List Loc} {cells slots : Nat} {Q : State → Prop}
variable {mc ms : Nat} {free : Addr → Prop} {A0 A1 : Nat → Prop} {H0 : Heap} {a : Array Value} {ls : Array Slot} {st0 rest : List Value}
variable {Qc : Array Value → State → Outcome → State → Prop} {XC : String → State → State → Prop}
/-- what a body that may throw owes at its end -/
def vx_MQ (below : List Frame) (Qc : Array Value → State → Outcome → State → Prop) (XC : String → State → State → Prop) (a : Array Value) (s : State) (mc ms : Nat) (free : Addr → Prop) : State → Prop := fun t =>
  ∃ o, t.status = .running ∧ Ended t below o ∧ vx_Q Qc XC mc ms free a s o t
theorem vx_ret {g : JFrame} {mc ms : Nat} (k : W p l e R s m args below meth c H locs cells slots (MQ below Qc args s mc ms free) g) : W p l e R s m args below meth c H locs cells slots (vx_MQ below Qc XC args s mc ms free) g := by
  intro T hT X
  obtain ⟨t, a1, o, b1, b2, b3, b4⟩ := k T hT X
  exact ⟨t, a1, o, b1, b2, Or.inl ⟨b3, b4⟩⟩
/-- not caught here: it goes on to the caller -/
theorem vx_widen {g : JFrame} {q : Addr} {k n : Nat} (h1 : cells ≤ k) (h2 : slots ≤ n) (kk : vx_W p l e R s m args below meth c H locs k n Q g q) : vx_W p l e R s m args below meth c H locs cells slots Q g q := fun T hT X => kk T hT (stand_widen X h1 h2)
theorem vx_out {pc : Nat} {E : String} {ce : Cell} {q : Addr} {mc ms : Nat} (hout : ∀ x ∈ c.exceptionTable.toList, covers x pc = false) (hlocks : meth.locks = false) (hcell : H[q]? = some ce) (hv : ce.vm = .none) (hcl : s.vm.findClass E = some ce.cls)
    (hx : ∀ t : State, t.heap = H → s.vm.Alike t.vm → XC E s t) (hf : ∀ z ∈ locs, free z.base) (hc : cells ≤ mc) (hs : slots ≤ ms) :
    vx_W p l e R s m args below meth c H locs cells slots (vx_MQ below Qc XC args s mc ms free) (F0 m pc ls rest) q := by
  intro T hT X
  obtain ⟨st1, hrun, hend, hW, hsm⟩ := X.leaveThrown q (g := F0 m pc ls rest) rfl rfl rfl hout hlocks
  have hcell9 : (T.setFrames (.throwing q :: below)).heap[q]? = some ce := by
    show T.heap[q]? = some ce
    rw [hT]; exact hcell
  exact ⟨_, st1, .threw q, hrun, hend, Or.inr ⟨q, rfl, E, ce, locs, hx _ hT hW.alike, hcell9, hv, hcl, hW, hsm.mono hc hs, hf⟩⟩
theorem vx_frame {U : State} {k n : Nat} (h : s.sameButNew ({ U with vm := s.vm } : State) locs k n) : s.heap.size ≤ U.heap.size ∧ ∀ q : Nat, q < s.heap.size → (∀ z ∈ locs, z.base ≠ q) → U.heap[q]? = s.heap[q]? := by
  obtain ⟨-, h2, -, -, -, h6⟩ := h
  refine ⟨h2, fun q hq hz => ?_⟩
  obtain ⟨c9, e1, e2, e3, e4⟩ := h6 q _ (Array.getElem?_eq_getElem hq)
  have hs : c9.slots = (s.heap[q]).slots := Array.ext_getElem? fun i => e4 i fun hm => hz _ hm rfl
  have h9 : c9 = s.heap[q] := by
    rw [hs] at e2
    exact e2
  have e5 : U.heap[q]? = some c9 := e1
  rw [e5, h9, Array.getElem?_eq_getElem hq]
/-- the words of a throw but the four that speak of the heap -/
def vx_no (w : Cond) : Bool := decide (w ≠ .isRef (.static Bundle.tN "UNASSIGNED_STACK" Bundle.steD)) && decide (w ≠ .isRef (.static Bundle.tN "SUPPRESSED_SENTINEL" Bundle.listD)) && decide (w ≠ .laysStatic Bundle.tN "UNASSIGNED_STACK" Bundle.steD) && decide (w ≠ .laysStatic Bundle.tN "SUPPRESSED_SENTINEL" Bundle.listD)
def vx_at0 (own : String) (ic : Nat) (X : String) (names : List String) : List Cond := (Bundle.ownAtoms0 own ic X names).filter vx_no
def vx_atS (own : String) (ic : Nat) (X : String) (names : List String) : List Cond := (Bundle.ownAtoms own ic X names).filter vx_no
/-- a word that the tables alone decide, or a good one -/
def vx_ot (w : Cond) : Bool := w.onTables || goodWord w
theorem vx_ot_at {args a' : Array Value} {s U : State} {w : Cond} (hW : s.WarmedH U.vm) (hvm : s.vm = U.vm) (hg : vx_ot w = true) (h : w.before args s = true) : w.before a' U = true := by
  simp only [vx_ot, Bool.or_eq_true] at hg
  rcases hg with hg | hg
  · exact va_tabs hg hvm h
  · exact word_at hW (good_of_word hg) h
/-- a list's words: the good ones out of the method's own list, the others by premises of their own -/
theorem vx_hat {args : Array Value} {s : State} {L B : List Cond} (h1 : ∀ w ∈ L.filter goodWord, w.before args s = true) (h2 : ∀ w ∈ L.filter (fun w => !goodWord w), w ∈ B) (h3 : ∀ w ∈ B, w.before args s = true) : ∀ w ∈ L, w.before args s = true := by
  intro w hw
  by_cases g : goodWord w = true
  · exact h1 w (List.mem_filter.mpr ⟨hw, g⟩)
  · refine h3 w (h2 w (List.mem_filter.mpr ⟨hw, ?_⟩))
    show (!goodWord w) = true
    cases hgw : goodWord w
    · rfl
    · exact absurd hgw g
theorem vx_c {args : Array Value} {s : State} {w : Cond} {B : List Cond} (h : w.before args s = true) (t : ∀ w ∈ B, w.before args s = true) : ∀ w' ∈ w :: B, w'.before args s = true := fun w' h' => (List.mem_cons.mp h').elim (fun e => by rw [e]; exact h) (t w')
theorem vx_n {args : Array Value} {s : State} : ∀ w ∈ ([] : List Cond), w.before args s = true := fun _ h => nomatch h
theorem vx_own {args : Array Value} {s : State} {L : List Cond} (h1 : ∀ w ∈ L.filter vx_no, w.before args s = true)
    (hU : (Cond.isRef (.static Bundle.tN "UNASSIGNED_STACK" Bundle.steD)).before args s = true) (hN : (Cond.isRef (.static Bundle.tN "SUPPRESSED_SENTINEL" Bundle.listD)).before args s = true)
    (lU : (Cond.laysStatic Bundle.tN "UNASSIGNED_STACK" Bundle.steD).before args s = true) (lN : (Cond.laysStatic Bundle.tN "SUPPRESSED_SENTINEL" Bundle.listD).before args s = true) : ∀ w ∈ L, w.before args s = true := by
  intro w hw
  by_cases e1 : w = .isRef (.static Bundle.tN "UNASSIGNED_STACK" Bundle.steD)
  · rw [e1]; exact hU
  · by_cases e2 : w = .isRef (.static Bundle.tN "SUPPRESSED_SENTINEL" Bundle.listD)
    · rw [e2]; exact hN
    · by_cases e3 : w = .laysStatic Bundle.tN "UNASSIGNED_STACK" Bundle.steD
      · rw [e3]; exact lU
      · by_cases e4 : w = .laysStatic Bundle.tN "SUPPRESSED_SENTINEL" Bundle.listD
        · rw [e4]; exact lN
        · exact h1 w (List.mem_filter.mpr ⟨hw, by unfold vx_no; rw [decide_eq_true e1, decide_eq_true e2, decide_eq_true e3, decide_eq_true e4]; rfl⟩)
/-- where a static field lies, its class's statics cell in H -/
def vx_L (C n d : String) (A : Nat → Prop) (U : State) (H : Heap) : Prop := ∃ (c : ClassId) (k : Class) (i : Nat) (f : Field) (a : Nat) (cell : Cell), U.vm.findClass C = some c ∧ U.fieldFound? C n d = some (c, k, i, f) ∧ f.isStatic = true ∧ k.statics = some a ∧ H[a]? = some cell ∧ cell.vm.isStatics = true ∧ cell.cls = c ∧ f.slot < cell.slots.size ∧ k.staticTypes[f.slot]? = some f.type ∧ ¬ A a
theorem vx_L.moved {C n d : String} {A : Nat → Prop} {u U : State} {H : Heap} (hvm : u.vm.Alike U.vm) (h : vx_L C n d A u H) : vx_L C n d A U H := by
  obtain ⟨c, k, i, f, a, cell, h1, h2, h3, h4, h5, h6, h7, h8, h9, h10⟩ := h
  obtain ⟨k', hi', he⟩ := State.fieldFound?_setVm hvm h2
  exact ⟨c, k', i, f, a, cell, by rw [hvm.findClass]; exact h1, hi', h3, by rw [he]; exact h4, h5, h6, h7, h8, by rw [he]; exact h9, h10⟩
theorem vx_L.kept {C n d : String} {A : Nat → Prop} {U : State} {H H1 : Heap} (h : vx_L C n d A U H) (hq : ∀ a : Nat, a < H.size → ¬ A a → H1[a]? = H[a]?) : vx_L C n d A U H1 := by
  obtain ⟨c, k, i, f, a, cell, h1, h2, h3, h4, h5, h6, h7, h8, h9, h10⟩ := h
  exact ⟨c, k, i, f, a, cell, h1, h2, h3, h4, by rw [hq a (Array.getElem?_eq_some_iff.mp h5).1 h10]; exact h5, h6, h7, h8, h9, h10⟩
theorem vx_L.narrow {C n d : String} {A B : Nat → Prop} {U : State} {H : Heap} (h : vx_L C n d A U H) (hAB : ∀ q, B q → A q) : vx_L C n d B U H := by
  obtain ⟨c, k, i, f, a, cell, h1, h2, h3, h4, h5, h6, h7, h8, h9, h10⟩ := h
  exact ⟨c, k, i, f, a, cell, h1, h2, h3, h4, h5, h6, h7, h8, h9, fun z => h10 (hAB _ z)⟩
theorem vx_L.word {C n d : String} {A : Nat → Prop} {s : State} {args : Array Value} (h : vx_L C n d A s s.heap) : (Cond.laysStatic C n d).before args s = true := by
  obtain ⟨c, k, i, f, a, cell, h1, h2, h3, h4, h5, h6, h7, h8, h9, -⟩ := h
  show (Cond.laysStatic C n d).holds args s none s [] = true
  exact Cond.laysStatic_of h1 h2 h3 h4 h5 h6 h7 h8 h9
/-- .. and what it holds: null or some reference -/
def vx_Zq (C n d : String) (A : Nat → Prop) (U : State) (H : Heap) : Prop := va_Zq C n d A U H ∧ vx_L C n d A U H
theorem vx_Zq.moved {C n d : String} {A : Nat → Prop} {u U : State} {H : Heap} (hvm : u.vm.Alike U.vm) (h : vx_Zq C n d A u H) : vx_Zq C n d A U H := ⟨va_Zq.moved hvm h.1, vx_L.moved hvm h.2⟩
theorem vx_Zq.kept {C n d : String} {A : Nat → Prop} {U : State} {H H1 : Heap} (h : vx_Zq C n d A U H) (hq : ∀ a : Nat, a < H.size → ¬ A a → H1[a]? = H[a]?) : vx_Zq C n d A U H1 := ⟨va_Zq.kept h.1 hq, vx_L.kept h.2 hq⟩
theorem vx_Zq.narrow {C n d : String} {A B : Nat → Prop} {U : State} {H : Heap} (h : vx_Zq C n d A U H) (hAB : ∀ q, B q → A q) : vx_Zq C n d B U H := ⟨va_Zq.narrow h.1 hAB, vx_L.narrow h.2 hAB⟩
theorem vx_Zqof {args : Array Value} {s : State} {C n d : String} {A : Nat → Prop} (hl : (Cond.laysStatic C n d).before args s = true) (hini : (Cond.initialized C).before args s = true) (h : (Cond.isRef (.static C n d)).before args s = true) (hA : ∀ a : Nat, a < s.heap.size → ¬ A a) : vx_Zq C n d A s s.heap := by
  refine ⟨va_Zqof hl hini h hA, ?_⟩
  obtain ⟨c, k, i, f, a, cell, h1, h2, h3, h4, h5, h6, h7, h8, h9⟩ := Cond.laysStatic_spec hl
  exact ⟨c, k, i, f, a, cell, h1, h2, h3, h4, h5, h6, h7, h8, h9, hA a (Array.getElem?_eq_some_iff.mp h5).1⟩
theorem vx_isRef {C n d : String} {v : Value} {A : Nat → Prop} {s : State} {args : Array Value} (h : va_Z C n d v A s s.heap) (hv : v.isRef = true) : (Cond.isRef (.static C n d)).before args s = true := by
  obtain ⟨cf, kf, fi, f, a, cell, h1, h2, h3, h4, h5, h6, h7, -⟩ := h
  have he : (Term.static C n d).eval args s none [] s = some v := by
    simp [Term.eval, State.fieldNamed?, h1, h2, h4, h5, h6, h7]
  simp only [Cond.before, Cond.holds, Cond.value, he]
  cases v <;> simp_all [Value.isRef]
theorem vx_isRefq {C n d : String} {A : Nat → Prop} {s : State} {args : Array Value} (h : va_Zq C n d A s s.heap) : (Cond.isRef (.static C n d)).before args s = true := by
  rcases h with h | ⟨t, h⟩
  · exact vx_isRef h rfl
  · exact vx_isRef h rfl
/-- the same frame, seen from here: as if the method were called anew in this heap -/
theorem vx_rebase {T : State} (X : Stand p l e R s m args below meth c T locs cells slots) {R' : Room} (hf : R'.frames ≤ R.frames) (hl : R'.locals ≤ R.locals) (hc : cells + R'.cells ≤ R.cells) (hs : slots + R'.slots ≤ R.slots) :
    Stand p l e R' ((T.setVm s.vm).setFrames (.invoking m args :: below)) m args below meth c T [] 0 0 := by
  have htop : (T.setVm s.vm).topJava?.isSome := X.here.top
  have hF : ((T.setVm s.vm).setFrames (.invoking m args :: below)).frames = .invoking m args :: below := State.frames_setFrames _ (State.cur_lt_of_top htop)
  obtain ⟨g₀, hg0⟩ := Option.isSome_iff_exists.mp htop
  obtain ⟨r, hr⟩ := State.topJava?_eq_some.mp hg0
  have hl9 : e.platform.stackLimits (T.setVm s.vm).me = e.platform.stackLimits s.me := X.limits
  have hb9 : (T.setVm s.vm).me.stackBytes = s.me.stackBytes := X.bytes
  refine ⟨X.admits, X.cas, X.clock, hF, ?_, X.hears, X.method, X.code, X.here, X.tail, X.warmed, ?_, ?_, ?_⟩
  · have h := X.room
    have hU : ((T.setVm s.vm).setFrames (.invoking m args :: below)).localsInUse = s.localsInUse := by
      rw [State.localsInUse_invoking hF (meth := meth) (c := c) X.method X.code, State.localsInUse_invoking X.frames X.method X.code]
    simp only [State.hasRoom, Bool.and_eq_true, decide_eq_true_eq] at h ⊢
    obtain ⟨⟨⟨⟨h1, h2, h3, h4, h5, h6⟩, h7⟩, h8⟩, h9⟩ := h
    rw [X.frames, List.length_cons] at h2 h3
    have q1 := X.heapSize
    have q2 := X.used
    simp only [hF, hU, List.length_cons, State.stackLimits_setFrames, State.stackBytes_setFrames, hl9, hb9]
    refine ⟨⟨⟨⟨by omega, by omega, by omega, by omega, by omega, h6⟩, ?_⟩, ?_⟩, X.book⟩
    · show T.heap.size + R'.cells ≤ e.platform.maxCells
      omega
    · show T.slotsUsed + R'.slots ≤ e.platform.maxSlots
      omega
  · rw [State.stackLimits_setFrames]; rfl
  · rw [State.stackBytes_setFrames]; rfl
  · refine ⟨?_, Nat.le_refl _, Nat.le_refl _, ?_, ?_, fun a c9 h9 => ⟨c9, h9, rfl, rfl, fun _ _ => rfl⟩⟩
    · obtain ⟨t, ht, -⟩ := State.frames_cons hr
      show T.setVm s.vm = { ((T.setVm s.vm).setFrames (.invoking m args :: below)).setFrames (T.setVm s.vm).frames with heap := T.heap, slotsUsed := T.slotsUsed }
      rw [State.setFrames_setFrames, State.setFrames_self ht]
      rfl
    · show T.slotsUsed = T.slotsUsed + ((T.heap.toList.drop T.heap.size).map (·.slots.size)).sum
      rw [List.drop_eq_nil_of_le (Nat.le_of_eq Array.length_toList)]
      rfl
    · show ((T.heap.toList.drop T.heap.size).map (·.slots.size)).sum ≤ 0
      rw [List.drop_eq_nil_of_le (Nat.le_of_eq Array.length_toList)]
      exact Nat.le_refl _
/-- 'throw new E()': new; dup; invokespecial; athrow -/
theorem vx_throw0 {cc : ByteArray} {pc : Nat} (hexec : p.tables.exec = Jvm.exec) (hb : c.code = cc) (hl : l.stackTraces = false) {own cls : String} {names : List String} {ik ic mc ms : Nat} {A : Nat → Prop}
    (hown : s.vm.findClass own = some m.cls) (hcls : Bundle.fit cls = true) (hnames : ∀ n ∈ names, Bundle.fit n = true)
    (hk : (Cond.classLink own ik cls).before args s = true) (hini : (Cond.initialized cls).before args s = true) (hat : ∀ w ∈ vx_at0 own ic cls names, w.before args s = true)
    (hgood : ∀ w ∈ Cond.classLink own ik cls :: Cond.initialized cls :: vx_at0 own ic cls names, vx_ot w = true)
    (hU : vx_Zq Bundle.tN "UNASSIGNED_STACK" Bundle.steD A s s.heap) (hN : vx_Zq Bundle.tN "SUPPRESSED_SENTINEL" Bundle.listD A s s.heap) (hS : va_S A s.heap H locs) (hsize : ls.size = c.maxLocals)
    (d0 : decode cc pc = .ok (.new ik, 3)) (d3 : decode cc (pc + 3) = .ok (.dup, 1)) (d4 : decode cc (pc + 4) = .ok (.invokespecial ic, 3)) (d7 : decode cc (pc + 7) = .ok (.athrow, 1))
    (hout : ∀ x ∈ c.exceptionTable.toList, covers x (pc + 7) = false)
    (hRframes : names.length + 3 < R.frames) (hRlocals : (rest.map fun v => v.category).sum + (13 * (names.length + 1) + 42) ≤ R.locals) (hRcells : cells + 1 ≤ R.cells) (hRslots : slots + 6 ≤ R.slots) (hlocks : meth.locks = false)
    (hx : ∀ t : State, s.vm.Alike t.vm → H.size ≤ t.heap.size → (∀ q : Nat, q < H.size → t.heap[q]? = H[q]?) → XC cls s t)
    (hf : ∀ z ∈ locs, free z.base) (hc : cells + 1 ≤ mc) (hs : slots + 6 ≤ ms) :
    W p l e R s m args below meth c H locs cells slots (vx_MQ below Qc XC args s mc ms free) (F0 m pc ls rest) := by
  intro T hT X
  have htr : e.platform.stackTraces = false := (show e.platform.stackTraces = l.stackTraces by rw [X.admits.platform]).trans hl
  have Y := vx_rebase X (R' := { frames := R.frames, locals := R.locals, cells := 1, slots := 6 }) (Nat.le_refl _) (Nat.le_refl _) hRcells hRslots
  obtain ⟨s', hA⟩ : ∃ z, z = (T.setVm s.vm).setFrames (.invoking m args :: below) := ⟨_, rfl⟩
  rw [← hA] at Y
  have hvm : s'.vm = s.vm := by rw [hA]; rfl
  have hhp : s'.heap = H := by rw [hA]; exact hT
  have hW0 : s.WarmedH s'.vm := by rw [hvm]; exact State.WarmedH.refl s
  have hat' : ∀ w ∈ vx_at0 own ic cls names, w.before args s' = true := fun w hw => vx_ot_at hW0 hvm.symm (hgood w (List.mem_cons_of_mem _ (List.mem_cons_of_mem _ hw))) (hat w hw)
  have hk' : (Cond.classLink own ik cls).before args s' = true := vx_ot_at hW0 hvm.symm (hgood _ List.mem_cons_self) hk
  have hini' : (Cond.initialized cls).before args s' = true := vx_ot_at hW0 hvm.symm (hgood _ (List.mem_cons_of_mem _ List.mem_cons_self)) hini
  have hU' : vx_Zq Bundle.tN "UNASSIGNED_STACK" Bundle.steD A s' s'.heap := by rw [hhp]; exact vx_Zq.moved hW0.alike (hU.kept hS.2.1)
  have hN' : vx_Zq Bundle.tN "SUPPRESSED_SENTINEL" Bundle.listD A s' s'.heap := by rw [hhp]; exact vx_Zq.moved hW0.alike (hN.kept hS.2.1)
  have h : ∀ w ∈ Bundle.ownAtoms0 own ic cls names, w.before args s' = true := vx_own hat' (vx_isRefq hU'.1) (vx_isRefq hN'.1) hU'.2.word hN'.2.word
  have hown' : s'.vm.findClass own = some m.cls := by rw [hvm]; exact hown
  have hins : (Cond.instantiable cls 6).before args s' = true := h _ (by simp [Bundle.ownAtoms0])
  obtain ⟨vm₁, cX, kX, hfX, hkX, -, -, X₁, st1⟩ := Y.newCold hexec (own := own) (C := cls) (index := ik) (n := 6) hown' hk' hins hini'
    (g := F0 m pc ls rest) rfl (by rw [hb]; exact d0) (Nat.le_refl _) (Nat.le_refl _)
  generalize hT1 : (T.setVm vm₁).pushCell { cls := cX, slots := kX.instanceTypes.map defaultValue, vm := .none } = T1 at X₁ st1
  have hcat : (Value.ref T.heap.size).category = 1 := rfl
  have hcellA : T1.heap[T.heap.size]? = some (freshCell cX kX) := by rw [← hT1]; exact State.heap_pushCell_size _ _
  have d3' : decode c.code (pc + 3) = .ok (.dup, 1) := by rw [hb]; exact d3
  obtain ⟨U, hsteps, hrun, hend, hW, hsame, ce, hce, hO⟩ := X₁.ctorThrow0 hexec htr (own := own) (cls := cls) (names := names) (ic := ic) hown' hcls hnames h (fun x hx => nomatch hx) hfX hkX hcellA (by rw [hhp, hT]; exact Nat.le_refl _)
    (g := { method := m, pc := pc + 4, locals := ls, stack := .ref T.heap.size :: .ref T.heap.size :: rest, locked := none }) rfl hsize rfl rfl (rest := rest) rfl
    (by rw [hb]; exact d4) (by rw [hb]; exact d7) hout hRframes (by simp only [List.map_cons, List.sum_cons, hcat]; omega) hlocks
  obtain ⟨f1, f2⟩ := vx_frame hsame
  rw [hhp] at f1 f2
  have hWs : s.WarmedH U.vm := State.WarmedH.trans hW0 hW
  have hcl : s.vm.findClass cls = some ce.cls := by
    have h9 := hO.cls
    rw [hvm] at h9
    exact h9
  have hall : s.sameButNew ({ U with vm := s.vm } : State) locs mc ms := by
    subst hA
    obtain ⟨e1, e2⟩ := hsame
    rw [State.setFrames_setFrames] at e1
    have h2 : (T.setVm s.vm).sameButNew ({ U with vm := s.vm } : State) [] (0 + 1) (0 + 6) := ⟨e1, e2⟩
    have h3 := X.same.trans h2
    rw [List.append_nil] at h3
    exact h3.mono hc hs
  refine ⟨U, ?_, .threw T.heap.size, hrun, hend, Or.inr ⟨T.heap.size, rfl, cls, ce, locs, hx U hWs.alike f1 (fun q hq => f2 q hq (fun z hz => nomatch hz)), hce, hO.vm, hcl, hWs, hall, hf⟩⟩
  refine st1 _ ?_
  show Steps p.tables e below (T1.setTop { method := m, pc := pc + 3, locals := ls, stack := .ref T.heap.size :: rest, locked := none }) _
  jvm_step X₁.here [X₁.here.top, hexec, d3', Value.category]
  exact hsteps
/-- 'throw new E("text")': new; dup; ldc; invokespecial; athrow -/
theorem vx_throwS {cc : ByteArray} {pc : Nat} (hexec : p.tables.exec = Jvm.exec) (hb : c.code = cc) (hl : l.stackTraces = false) {own cls text : String} {names : List String} {ik is ic mc ms sa : Nat} {A : Nat → Prop}
    (hown : s.vm.findClass own = some m.cls) (hcls : Bundle.fit cls = true) (hnames : ∀ n ∈ names, Bundle.fit n = true)
    (hk : (Cond.classLink own ik cls).before args s = true) (hini : (Cond.initialized cls).before args s = true) (hstr : vk_R own is text sa s) (hat : ∀ w ∈ vx_atS own ic cls names, w.before args s = true)
    (hgood : ∀ w ∈ Cond.classLink own ik cls :: Cond.initialized cls :: vx_atS own ic cls names, vx_ot w = true)
    (hU : vx_Zq Bundle.tN "UNASSIGNED_STACK" Bundle.steD A s s.heap) (hN : vx_Zq Bundle.tN "SUPPRESSED_SENTINEL" Bundle.listD A s s.heap) (hS : va_S A s.heap H locs) (hsize : ls.size = c.maxLocals)
    (d0 : decode cc pc = .ok (.new ik, 3)) (d3 : decode cc (pc + 3) = .ok (.dup, 1)) (d4 : decode cc (pc + 4) = .ok (.ldc is, 2)) (d6 : decode cc (pc + 6) = .ok (.invokespecial ic, 3)) (d9 : decode cc (pc + 9) = .ok (.athrow, 1))
    (hout : ∀ x ∈ c.exceptionTable.toList, covers x (pc + 9) = false)
    (hRframes : names.length + 3 < R.frames) (hRlocals : (rest.map fun v => v.category).sum + (13 * (names.length + 1) + 43) ≤ R.locals) (hRcells : cells + 1 ≤ R.cells) (hRslots : slots + 6 ≤ R.slots) (hlocks : meth.locks = false)
    (hx : ∀ t : State, s.vm.Alike t.vm → H.size ≤ t.heap.size → (∀ q : Nat, q < H.size → t.heap[q]? = H[q]?) → XC cls s t)
    (hf : ∀ z ∈ locs, free z.base) (hc : cells + 1 ≤ mc) (hs : slots + 6 ≤ ms) :
    W p l e R s m args below meth c H locs cells slots (vx_MQ below Qc XC args s mc ms free) (F0 m pc ls rest) := by
  intro T hT X
  have htr : e.platform.stackTraces = false := (show e.platform.stackTraces = l.stackTraces by rw [X.admits.platform]).trans hl
  have Y := vx_rebase X (R' := { frames := R.frames, locals := R.locals, cells := 1, slots := 6 }) (Nat.le_refl _) (Nat.le_refl _) hRcells hRslots
  obtain ⟨s', hA⟩ : ∃ z, z = (T.setVm s.vm).setFrames (.invoking m args :: below) := ⟨_, rfl⟩
  rw [← hA] at Y
  have hvm : s'.vm = s.vm := by rw [hA]; rfl
  have hhp : s'.heap = H := by rw [hA]; exact hT
  have hW0 : s.WarmedH s'.vm := by rw [hvm]; exact State.WarmedH.refl s
  have hat' : ∀ w ∈ vx_atS own ic cls names, w.before args s' = true := fun w hw => vx_ot_at hW0 hvm.symm (hgood w (List.mem_cons_of_mem _ (List.mem_cons_of_mem _ hw))) (hat w hw)
  have hk' : (Cond.classLink own ik cls).before args s' = true := vx_ot_at hW0 hvm.symm (hgood _ List.mem_cons_self) hk
  have hini' : (Cond.initialized cls).before args s' = true := vx_ot_at hW0 hvm.symm (hgood _ (List.mem_cons_of_mem _ List.mem_cons_self)) hini
  have hU' : vx_Zq Bundle.tN "UNASSIGNED_STACK" Bundle.steD A s' s'.heap := by rw [hhp]; exact vx_Zq.moved hW0.alike (hU.kept hS.2.1)
  have hN' : vx_Zq Bundle.tN "SUPPRESSED_SENTINEL" Bundle.listD A s' s'.heap := by rw [hhp]; exact vx_Zq.moved hW0.alike (hN.kept hS.2.1)
  have h : ∀ w ∈ Bundle.ownAtoms own ic cls names, w.before args s' = true := vx_own hat' (vx_isRefq hU'.1) (vx_isRefq hN'.1) hU'.2.word hN'.2.word
  have hown' : s'.vm.findClass own = some m.cls := by rw [hvm]; exact hown
  have hins : (Cond.instantiable cls 6).before args s' = true := h _ (by simp [Bundle.ownAtoms])
  obtain ⟨vm₁, cX, kX, hfX, hkX, -, -, X₁, st1⟩ := Y.newCold hexec (own := own) (C := cls) (index := ik) (n := 6) hown' hk' hins hini'
    (g := F0 m pc ls rest) rfl (by rw [hb]; exact d0) (Nat.le_refl _) (Nat.le_refl _)
  generalize hT1 : (T.setVm vm₁).pushCell { cls := cX, slots := kX.instanceTypes.map defaultValue, vm := .none } = T1 at X₁ st1
  have hcat : (Value.ref T.heap.size).category = 1 := rfl
  have hcellA : T1.heap[T.heap.size]? = some (freshCell cX kX) := by rw [← hT1]; exact State.heap_pushCell_size _ _
  have d3' : decode c.code (pc + 3) = .ok (.dup, 1) := by rw [hb]; exact d3
  have d4' : decode c.code (pc + 4) = .ok (.ldc is, 2) := by rw [hb]; exact d4
  have hstr' : vk_R own is text sa s' := vk_R.warm hW0 hstr
  obtain ⟨U, hsteps, hrun, hend, hW, hsame, ce, hce, hO⟩ := X₁.ctorThrowS hexec htr (own := own) (cls := cls) (names := names) (ic := ic) hown' hcls hnames h (fun x hx => nomatch hx) hfX hkX hcellA (by rw [hhp, hT]; exact Nat.le_refl _) (msg := .ref sa) rfl
    (g := { method := m, pc := pc + 6, locals := ls, stack := .ref sa :: .ref T.heap.size :: .ref T.heap.size :: rest, locked := none }) rfl hsize rfl rfl (rest := rest) rfl
    (by rw [hb]; exact d6) (by rw [hb]; exact d9) hout hRframes (by simp only [List.map_cons, List.sum_cons, hcat]; omega) hlocks
  obtain ⟨f1, f2⟩ := vx_frame hsame
  rw [hhp] at f1 f2
  have hWs : s.WarmedH U.vm := State.WarmedH.trans hW0 hW
  have hcl : s.vm.findClass cls = some ce.cls := by
    have h9 := hO.cls
    rw [hvm] at h9
    exact h9
  have hall : s.sameButNew ({ U with vm := s.vm } : State) locs mc ms := by
    subst hA
    obtain ⟨e1, e2⟩ := hsame
    rw [State.setFrames_setFrames] at e1
    have h2 : (T.setVm s.vm).sameButNew ({ U with vm := s.vm } : State) [] (0 + 1) (0 + 6) := ⟨e1, e2⟩
    have h3 := X.same.trans h2
    rw [List.append_nil] at h3
    exact h3.mono hc hs
  refine ⟨U, ?_, .threw T.heap.size, hrun, hend, Or.inr ⟨T.heap.size, rfl, cls, ce, locs, hx U hWs.alike f1 (fun q hq => f2 q hq (fun z hz => nomatch hz)), hce, hO.vm, hcl, hWs, hall, hf⟩⟩
  refine st1 _ ?_
  show Steps p.tables e below (T1.setTop { method := m, pc := pc + 3, locals := ls, stack := .ref T.heap.size :: rest, locked := none }) _
  jvm_step X₁.here [X₁.here.top, hexec, d3', Value.category]
  exact X₁.ldcString hexec (own := own) (text := text) (index := is) (a := sa) hown' hstr'.1 hstr'.2
    (g := { method := m, pc := pc + 4, locals := ls, stack := .ref T.heap.size :: .ref T.heap.size :: rest, locked := none }) rfl d4' _ hsteps
/-- 'throw new E("text")', the text by a wide index -/
theorem vx_throwSW {cc : ByteArray} {pc : Nat} (hexec : p.tables.exec = Jvm.exec) (hb : c.code = cc) (hl : l.stackTraces = false) {own cls text : String} {names : List String} {ik is ic mc ms sa : Nat} {A : Nat → Prop}
    (hown : s.vm.findClass own = some m.cls) (hcls : Bundle.fit cls = true) (hnames : ∀ n ∈ names, Bundle.fit n = true)
    (hk : (Cond.classLink own ik cls).before args s = true) (hini : (Cond.initialized cls).before args s = true) (hstr : vk_R own is text sa s) (hat : ∀ w ∈ vx_atS own ic cls names, w.before args s = true)
    (hgood : ∀ w ∈ Cond.classLink own ik cls :: Cond.initialized cls :: vx_atS own ic cls names, vx_ot w = true)
    (hU : vx_Zq Bundle.tN "UNASSIGNED_STACK" Bundle.steD A s s.heap) (hN : vx_Zq Bundle.tN "SUPPRESSED_SENTINEL" Bundle.listD A s s.heap) (hS : va_S A s.heap H locs) (hsize : ls.size = c.maxLocals)
    (d0 : decode cc pc = .ok (.new ik, 3)) (d3 : decode cc (pc + 3) = .ok (.dup, 1)) (d4 : decode cc (pc + 4) = .ok (.ldc_w is, 3)) (d7 : decode cc (pc + 7) = .ok (.invokespecial ic, 3)) (d10 : decode cc (pc + 10) = .ok (.athrow, 1))
    (hout : ∀ x ∈ c.exceptionTable.toList, covers x (pc + 10) = false)
    (hRframes : names.length + 3 < R.frames) (hRlocals : (rest.map fun v => v.category).sum + (13 * (names.length + 1) + 43) ≤ R.locals) (hRcells : cells + 1 ≤ R.cells) (hRslots : slots + 6 ≤ R.slots) (hlocks : meth.locks = false)
    (hx : ∀ t : State, s.vm.Alike t.vm → H.size ≤ t.heap.size → (∀ q : Nat, q < H.size → t.heap[q]? = H[q]?) → XC cls s t)
    (hf : ∀ z ∈ locs, free z.base) (hc : cells + 1 ≤ mc) (hs : slots + 6 ≤ ms) :
    W p l e R s m args below meth c H locs cells slots (vx_MQ below Qc XC args s mc ms free) (F0 m pc ls rest) := by
  intro T hT X
  have htr : e.platform.stackTraces = false := (show e.platform.stackTraces = l.stackTraces by rw [X.admits.platform]).trans hl
  have Y := vx_rebase X (R' := { frames := R.frames, locals := R.locals, cells := 1, slots := 6 }) (Nat.le_refl _) (Nat.le_refl _) hRcells hRslots
  obtain ⟨s', hA⟩ : ∃ z, z = (T.setVm s.vm).setFrames (.invoking m args :: below) := ⟨_, rfl⟩
  rw [← hA] at Y
  have hvm : s'.vm = s.vm := by rw [hA]; rfl
  have hhp : s'.heap = H := by rw [hA]; exact hT
  have hW0 : s.WarmedH s'.vm := by rw [hvm]; exact State.WarmedH.refl s
  have hat' : ∀ w ∈ vx_atS own ic cls names, w.before args s' = true := fun w hw => vx_ot_at hW0 hvm.symm (hgood w (List.mem_cons_of_mem _ (List.mem_cons_of_mem _ hw))) (hat w hw)
  have hk' : (Cond.classLink own ik cls).before args s' = true := vx_ot_at hW0 hvm.symm (hgood _ List.mem_cons_self) hk
  have hini' : (Cond.initialized cls).before args s' = true := vx_ot_at hW0 hvm.symm (hgood _ (List.mem_cons_of_mem _ List.mem_cons_self)) hini
  have hU' : vx_Zq Bundle.tN "UNASSIGNED_STACK" Bundle.steD A s' s'.heap := by rw [hhp]; exact vx_Zq.moved hW0.alike (hU.kept hS.2.1)
  have hN' : vx_Zq Bundle.tN "SUPPRESSED_SENTINEL" Bundle.listD A s' s'.heap := by rw [hhp]; exact vx_Zq.moved hW0.alike (hN.kept hS.2.1)
  have h : ∀ w ∈ Bundle.ownAtoms own ic cls names, w.before args s' = true := vx_own hat' (vx_isRefq hU'.1) (vx_isRefq hN'.1) hU'.2.word hN'.2.word
  have hown' : s'.vm.findClass own = some m.cls := by rw [hvm]; exact hown
  have hins : (Cond.instantiable cls 6).before args s' = true := h _ (by simp [Bundle.ownAtoms])
  obtain ⟨vm₁, cX, kX, hfX, hkX, -, -, X₁, st1⟩ := Y.newCold hexec (own := own) (C := cls) (index := ik) (n := 6) hown' hk' hins hini'
    (g := F0 m pc ls rest) rfl (by rw [hb]; exact d0) (Nat.le_refl _) (Nat.le_refl _)
  generalize hT1 : (T.setVm vm₁).pushCell { cls := cX, slots := kX.instanceTypes.map defaultValue, vm := .none } = T1 at X₁ st1
  have hcat : (Value.ref T.heap.size).category = 1 := rfl
  have hcellA : T1.heap[T.heap.size]? = some (freshCell cX kX) := by rw [← hT1]; exact State.heap_pushCell_size _ _
  have d3' : decode c.code (pc + 3) = .ok (.dup, 1) := by rw [hb]; exact d3
  have d4' : decode c.code (pc + 4) = .ok (.ldc_w is, 3) := by rw [hb]; exact d4
  have hstr' : vk_R own is text sa s' := vk_R.warm hW0 hstr
  obtain ⟨U, hsteps, hrun, hend, hW, hsame, ce, hce, hO⟩ := X₁.ctorThrowS hexec htr (own := own) (cls := cls) (names := names) (ic := ic) hown' hcls hnames h (fun x hx => nomatch hx) hfX hkX hcellA (by rw [hhp, hT]; exact Nat.le_refl _) (msg := .ref sa) rfl
    (g := { method := m, pc := pc + 7, locals := ls, stack := .ref sa :: .ref T.heap.size :: .ref T.heap.size :: rest, locked := none }) rfl hsize rfl rfl (rest := rest) rfl
    (by rw [hb]; exact d7) (by rw [hb]; exact d10) hout hRframes (by simp only [List.map_cons, List.sum_cons, hcat]; omega) hlocks
  obtain ⟨f1, f2⟩ := vx_frame hsame
  rw [hhp] at f1 f2
  have hWs : s.WarmedH U.vm := State.WarmedH.trans hW0 hW
  have hcl : s.vm.findClass cls = some ce.cls := by
    have h9 := hO.cls
    rw [hvm] at h9
    exact h9
  have hall : s.sameButNew ({ U with vm := s.vm } : State) locs mc ms := by
    subst hA
    obtain ⟨e1, e2⟩ := hsame
    rw [State.setFrames_setFrames] at e1
    have h2 : (T.setVm s.vm).sameButNew ({ U with vm := s.vm } : State) [] (0 + 1) (0 + 6) := ⟨e1, e2⟩
    have h3 := X.same.trans h2
    rw [List.append_nil] at h3
    exact h3.mono hc hs
  refine ⟨U, ?_, .threw T.heap.size, hrun, hend, Or.inr ⟨T.heap.size, rfl, cls, ce, locs, hx U hWs.alike f1 (fun q hq => f2 q hq (fun z hz => nomatch hz)), hce, hO.vm, hcl, hWs, hall, hf⟩⟩
  refine st1 _ ?_
  show Steps p.tables e below (T1.setTop { method := m, pc := pc + 3, locals := ls, stack := .ref T.heap.size :: rest, locked := none }) _
  jvm_step X₁.here [X₁.here.top, hexec, d3', Value.category]
  exact X₁.ldcStringW hexec (own := own) (text := text) (index := is) (a := sa) hown' hstr'.1 hstr'.2
    (g := { method := m, pc := pc + 4, locals := ls, stack := .ref T.heap.size :: .ref T.heap.size :: rest, locked := none }) rfl d4' _ hsteps
end Ends
section Bodies
variable {l : Launch}
theorem vx_ofW {y : MethodName} {ws ws' : List Cond} {rm : Room} {Pc : Array Value → State → Prop} {Qc : Array Value → State → Outcome → State → Prop} {XC : String → State → State → Prop} {mc ms : Nat} {free : Addr → Prop} {cc : ByteArray} {maxL : Nat} {ret : Option FieldType}
    (hy : plainName y.cls = true) (hw : ws = Cond.code y cc maxL ret :: ws')
    (body : ∀ p e s m args below meth c s₁, BodyLoose p l y (headSpec ws rm) cc maxL ret e s m args below meth c s₁ → c.maxLocals = maxL → (∀ x ∈ c.exceptionTable.toList, False) → Pc args s →
      W p l e (headSpec ws rm).room s m args below meth c s.heap [] 0 0 (vx_MQ below Qc XC args s mc ms free) (entryFrame m args maxL)) : vx_Met l y ws rm Pc Qc XC mc ms free := by
  refine MetFree.of_bodyS (code := cc) (maxLocals := maxL) (ret := ret) hy ?_ ?_
  · intro args s m h hn
    obtain ⟨meth, c, h1, h2, h3, h4, h5, h6, -, -⟩ := Cond.code_spec hn (atoms_spec (ws := ws) h _ (by rw [hw]; exact List.mem_cons_self))
    exact ⟨meth, c, h1, h2, h3, h4, h5, h6⟩
  · intro p e s m args below meth c s₁ B hml hP _
    have hh0 : s₁.heap = s.heap := by rw [B.state]; rfl
    have ht : ∀ x ∈ c.exceptionTable.toList, False := by
      obtain ⟨meth9, c9, h1, h2, -, -, -, -, h7, -⟩ := Cond.code_spec B.named (atoms_spec (ws := ws) B.pre _ (by rw [hw]; exact List.mem_cons_self))
      cases Option.some.inj (h1.symm.trans B.method)
      cases Option.some.inj (h2.symm.trans (Stand.of_body B).code)
      intro x hx
      rw [Array.isEmpty_iff.mp h7] at hx
      cases hx
    obtain ⟨t, a1, o, b1, b2, b3⟩ := body p e s m args below meth c s₁ B hml ht hP s₁ hh0 (Stand.of_body B)
    exact ⟨t, o, a1, b1, b2, b3⟩
/-- the table of a body with handlers -/
theorem vx_table {p : Program} {x y : MethodName} {S : Spec} {cc bytes : ByteArray} {maxL maxL' : Nat} {ret ret' : Option FieldType} {e : Env} {s s₁ : State} {m : MethodId} {args : Array Value} {below : List Frame} {meth : Method} {c : Code} {hh : List (Nat × Nat × Nat × Nat)}
    (B : BodyLoose p l y S cc maxL ret e s m args below meth c s₁) (h : (Cond.codeWith y bytes maxL' ret' hh).before args s = true) : c.exceptionTable.toList = tableOf hh := by
  obtain ⟨m9, meth9, c9, hn9, h1, h2, -, -, h6, -⟩ := Cond.codeWith_spec h
  cases Option.some.inj (hn9.symm.trans B.named)
  cases Option.some.inj (h1.symm.trans B.method)
  cases Option.some.inj (h2.symm.trans (Stand.of_body B).code)
  rw [← h6, table_eq]
end Bodies
end VXA
/-! ===== END ===== -/
/-! ===== BEGIN a static call of a method with an exception table ===== -/
section VXS
variable {p : Program} {l : Launch} {e : Env} {R : Room} {s : State} {m : MethodId} {args : Array Value} {below : List Frame} {meth : Method} {c : Code} {T : State} {H : Heap} {locs : List Loc} {cells slots : Nat}
abbrev vx_CSW (R : Room) (s : State) (args : Array Value) (own : String) (index : Nat) (y : MethodName) (bytes : ByteArray) (maxL : Nat) (ret : Option FieldType) (hh : List (Nat × Nat × Nat × Nat)) (ws : List Cond) (rm : Room) (mc ms n : Nat) : Prop :=
  (rm.cells = mc ∧ rm.slots = ms ∧ rm.frames + 1 ≤ R.frames ∧ 8 + (maxL + 11) + rm.locals ≤ R.locals ∧ (∀ w ∈ ws, ∀ (a' : Array Value) (U : State), s.WarmedH U.vm → w.before a' U = true) ∧ Cond.codeWith y bytes maxL ret hh ∈ ws) ∧
  (Cond.codeWith y bytes maxL ret hh).before args s = true ∧ (Cond.initialized y.cls).before args s = true ∧ (y.cls ≠ "java/lang/invoke/MethodHandle" ∧ y.cls ≠ "java/lang/invoke/VarHandle") ∧
  (∀ sig, parseMethodDescriptor y.desc = some sig → n = sig.parameters.length) ∧ (Cond.methodLink own index y).before args s = true ∧ (Cond.static y).before args s = true
theorem vx_cwSW {own : String} {index maxL mc ms : Nat} {y : MethodName} {bytes : ByteArray} {ret : Option FieldType} {hh : List (Nat × Nat × Nat × Nat)} {Ts ws ws' : List Cond} {rm : Room} (n : Nat) (ht : ∀ w ∈ Ts, w.before args s = true) (hT : GoodIn Ts (va_wsS own index y ws)) (hw : ws = Cond.codeWith y bytes maxL ret hh :: ws') (hrc : rm.cells = mc) (hrs : rm.slots = ms)
    (hd : y.cls ≠ "java/lang/invoke/MethodHandle" ∧ y.cls ≠ "java/lang/invoke/VarHandle" ∧ (parseMethodDescriptor y.desc).map (fun d => d.parameters.length) = some n) (hR : rm.frames + 1 ≤ R.frames ∧ 8 + (maxL + 11) + rm.locals ≤ R.locals) :
    vx_CSW R s args own index y bytes maxL ret hh ws rm mc ms n := by
  have ok : ∀ w ∈ va_wsS own index y ws, w.before args s = true := fun w h => ht w (hT w h).1
  have hG : GoodIn Ts ws := fun w h => hT w (by unfold va_wsS; exact List.mem_append_right _ h)
  have hc : Cond.codeWith y bytes maxL ret hh ∈ ws := by rw [hw]; exact List.mem_cons_self
  refine ⟨⟨hrc, hrs, hR.1, hR.2, pay_in ht hG, hc⟩, ht _ (hG _ hc).1, ok _ (by simp [va_wsS]), ⟨hd.1, hd.2.1⟩, fun sig h => ?_, ok _ (by simp [va_wsS]), ok _ (by simp [va_wsS])⟩
  have h2 := hd.2.2
  rw [h] at h2
  exact (Option.some.inj h2).symm
theorem vx_callSW (X : Stand p l e R s m args below meth c T locs cells slots) (hexec : p.tables.exec = Jvm.exec) {own : String} {index : Nat} {y : MethodName} {bytes : ByteArray} {maxL : Nat} {ret : Option FieldType} {hh : List (Nat × Nat × Nat × Nat)}
    (hown : s.vm.findClass own = some m.cls) (hlink : (Cond.methodLink own index y).before args s = true) (hstat : (Cond.static y).before args s = true) (hinit : (Cond.initialized y.cls).before args s = true)
    (hcode : (Cond.codeWith y bytes maxL ret hh).before args s = true) (hy : y.cls ≠ "java/lang/invoke/MethodHandle" ∧ y.cls ≠ "java/lang/invoke/VarHandle")
    {W9 : Nat} {Pre : Pt → Array Value → Prop} {Post : Pt → Array Value → Option Value → Pt → Prop} (hK : Back l R p e below s args y 3 W9 Pre Post)
    {g : JFrame} (hg : g.method = m) (hsize : g.locals.size = c.maxLocals) {argsL rest : List Value} (hlen : ∀ sig, parseMethodDescriptor y.desc = some sig → argsL.length = sig.parameters.length)
    (hstack : g.stack = argsL.reverse ++ rest) (hW : 2 * g.monitorRoom + (rest.map fun v => v.category).sum ≤ W9) (hdg : decode c.code g.pc = .ok (.invokestatic index, 3))
    (hpre : ∀ vm₁, s.WarmedH vm₁ → Pre ⟨T.setVm vm₁, locs, cells, slots⟩ argsL.toArray) :
    ∃ (v : Option Value) (vm₁ : Vm) (B : Pt), s.WarmedH vm₁ ∧ Stand p l e R s m args below meth c B.U B.locs B.cells B.slots ∧ Post ⟨T.setVm vm₁, locs, cells, slots⟩ argsL.toArray v B ∧
      ∀ target, Steps p.tables e below (B.U.setTop { g with pc := g.pc + 3, stack := v.toList ++ rest }) target → Steps p.tables e below (T.setTop g) target := by
  obtain ⟨mk, methM, cM, hnamed, hmethM, -, -, -, -, -, -, hsigM⟩ := Cond.codeWith_spec hcode
  have hstatic : methM.isStatic = true := Cond.static_spec hnamed hmethM hstat
  obtain ⟨kP, hkP, -⟩ := className_of_methodNamed hnamed
  have hinitP : kP.init = .initialized := Cond.initialized_spec (findClass_of_methodNamed hnamed) hkP hinit
  obtain ⟨vm₁, X₁, hstep₁⟩ := X.invokestatic hexec hown hlink hnamed hmethM hstatic hkP hinitP hy (g := g) hg (argsL := argsL) (rest := rest) (hlen _ hsigM) hstack hdg
  obtain ⟨v, B, X', hpost, hsteps⟩ := hK m meth c ⟨T.setVm vm₁, locs, cells, slots⟩ { g with stack := rest } (.invokestatic index) mk argsL.toArray X₁ hg hsize hdg hW (X₁.named hnamed) (hpre vm₁ X₁.warmed)
  exact ⟨v, vm₁, B, X₁.warmed, X', hpost, fun target h => hstep₁ _ fun acts => by rw [doInvoke_state]; exact hsteps.trans h⟩
theorem vx_runSW {y : MethodName} {bytes cc : ByteArray} {maxL nL mc ms n index : Nat} {ret : Option FieldType} {hh : List (Nat × Nat × Nat × Nat)} {ws : List Cond} {rm : Room} {Pc : Array Value → State → Prop} {Qc : Array Value → State → Outcome → State → Prop} {free : Addr → Prop} {Ts : List Cond} {own : String} {As rest : List Value} {g : JFrame}
    (S : CallFix p m c cc nL s args Ts own) (hM : Met l y ws rm Pc Qc mc ms free) (cw : vx_CSW R s args own index y bytes maxL ret hh ws rm mc ms n) (hp : PreS s H Pc As)
    (hg : g.method = m) (hn : As.length = n) (hsize : g.locals.size = nL) (hstack : g.stack = As.reverse ++ rest) (hW : 2 * g.monitorRoom + (rest.map fun v => v.category).sum ≤ 8) (hdg : decode cc g.pc = .ok (.invokestatic index, 3)) (hf : cells + mc ≤ R.cells ∧ slots + ms ≤ R.slots) :
    va_Run p l e R s m args below meth c H locs cells slots mc ms g rest (Qc As.toArray) (free) := by
  obtain ⟨⟨hrc, hrs, hfr, hlo, hws, hcw⟩, hcode, hini, hy, hlen, hl, hstt⟩ := cw
  have hK : Back l R p e below s args y 3 8 (PreOf R mc ms Pc) (PostOf Qc mc ms free) := va_backW (hh := hh) (bytes := bytes) (maxL := maxL) (ret := ret) hM hp.1 hrc hrs hfr hlo hws hcw (fun a' U hW => word_at hW (Or.inl (by first | rfl | simp [Cond.onTables, Cond.keeps, Cond.steady])) hini)
  obtain ⟨hx, hb, hml, ho, -⟩ := S
  intro T hT X
  obtain ⟨v, vm₁, ⟨U', l2, c2, s2⟩, hW₁, X', ⟨g', mk, t, L, e1, e2, hq, h1, hL, h2, h3⟩, st⟩ := vx_callSW X hx (hh := hh) (bytes := bytes) (maxL := maxL) (ret := ret) ho hl hstt hini hcode hy hK hg (hsize.trans hml.symm) (argsL := As) (rest := rest) (fun sig h => hn.trans (hlen sig h)) hstack hW (by rw [hb]; exact hdg)
    (fun vm₁ hW₁ => ⟨hf.1, hf.2, hp.2 (T.setVm vm₁) hT hW₁⟩)
  dsimp only [Pt.U, Pt.locs, Pt.cells, Pt.slots] at X' e1 e2 h1 h2 h3 st
  subst h1; subst h2; subst h3
  exact ⟨v, (T.setVm vm₁).calling g' mk As.toArray, t, U', L, hT, X', hL, e1, e2, hq, st⟩
/-- not caught here, past rows that name other classes: it goes on to the caller -/
theorem vx_outP {p : Program} {l : Launch} {e : Env} {R : Room} {s : State} {m : MethodId} {args : Array Value} {below : List Frame} {meth : Method} {c : Code} {H : Heap} {locs : List Loc} {cells slots : Nat} {free : Addr → Prop} {ls : Array Slot} {rest : List Value} {Qc : Array Value → State → Outcome → State → Prop} {XC : String → State → State → Prop}
    {pc : Nat} {own E : String} {ce : Cell} {q : Addr} {mc ms : Nat} (hown : s.vm.findClass own = some m.cls) (hlocks : meth.locks = false)
    (hpass : ∀ z ∈ c.exceptionTable.toList, covers z pc = false ∨ (z.catchType ≠ 0 ∧ ∃ nm : String, (Cond.classLink own z.catchType nm).before args s = true ∧ va_Nc E nm s)) (hcell : H[q]? = some ce) (hv : ce.vm = .none) (hcl : s.vm.findClass E = some ce.cls)
    (hx : ∀ t : State, t.heap = H → s.vm.Alike t.vm → XC E s t) (hf : ∀ z ∈ locs, free z.base) (hc : cells ≤ mc) (hs : slots ≤ ms) :
    vx_W p l e R s m args below meth c H locs cells slots (vx_MQ below Qc XC args s mc ms free) (F0 m pc ls rest) q := by
  intro T hT X
  have hpl : e.platform.magicAccessors = ({} : Platform).magicAccessors := by rw [X.admits.platform]
  obtain ⟨vm', hW', X', st⟩ := X.outThrough hlocks q (g := F0 m pc ls rest) rfl rfl rfl (cell := ce) (by rw [hT]; exact hcell) (by rw [hv]; rfl)
    (by obtain ⟨k9, h9, -⟩ := Vm.findClass_spec hcl; exact ⟨k9, h9⟩) (fun z hz => by
      rcases hpass z hz with h | ⟨hz0, nm, hl1, hn1⟩
      · exact Or.inl h
      · obtain ⟨c6, hc6, hcl6⟩ := Cond.classLink_spec hown hl1 e.platform hpl
        obtain ⟨a8, b8, h1, h2, h3⟩ := hn1
        cases Option.some.inj (h1.symm.trans hcl)
        cases Option.some.inj (h2.symm.trans hc6)
        exact Or.inr ⟨hz0, _, hcl6, h3⟩)
  obtain ⟨g₀, hfr⟩ := X'.frames_eq
  have hcell9 : ((T.setVm vm').setFrames (.throwing q :: below)).heap[q]? = some ce := by
    show T.heap[q]? = some ce
    rw [hT]; exact hcell
  have hend : Ended ((T.setVm vm').setFrames (.throwing q :: below)) below (.threw q) := State.frames_setFrames _ (State.cur_lt_of_frames hfr)
  refine ⟨(T.setVm vm').setFrames (.throwing q :: below), ?_, .threw q, X'.here.running, hend, Or.inr ⟨q, rfl, E, ce, locs, hx _ hT (X'.ends _).1.alike, hcell9, hv, hcl, (X'.ends _).1, (X'.ends _).2.mono hc hs, hf⟩⟩
  rw [X.pushThrowing_eq]
  exact st
/-- a thing of a world lies in the heap -/
theorem vx_lt {D : va_G} {cl : List vw_C} {ws : va_W} {H1 : Heap} (h : va_P D cl ws H1) {k : Nat} {q : Nat × va_E} (hk : ws[k]? = some q) : q.1 < H1.size := (h k q hk).lt
end VXS
/-! ===== END ===== -/
/-! ===== BEGIN methods with a table of their own: called by a name, returning or throwing ===== -/
section VXH
/-! vx_backW, vx_callVX, vx_callSX, vx_callVW, vx_runVW, vx_runVX, vx_runSX, vx_ofWH follow the same proofs as their sisters above (Free/Laws.lean, Shelf42/LK1.lean); vx_outP calls Shelf42/NT130.lean (outThrough). -/
section
variable {l : Launch} {R : Room} {p : Program} {e : Env} {below : List Frame} {s : State} {sargs : Array Value} {y : MethodName} {len W9 : Nat}
theorem vx_backW {ws : List Cond} {rm : Room} {Pc : Array Value → State → Prop} {Qc : Array Value → State → Outcome → State → Prop} {XC : String → State → State → Prop} {mc ms : Nat} {free : Addr → Prop} {bytes : ByteArray} {maxL : Nat} {ret : Option FieldType} {hh : List (Nat × Nat × Nat × Nat)}
    (hM : vx_Met l y ws rm Pc Qc XC mc ms free) (hblind : FrameBlind Pc) (hrc : rm.cells = mc) (hrs : rm.slots = ms)
    (hframes : rm.frames + 1 ≤ R.frames) (hlocals : W9 + (maxL + 11) + rm.locals ≤ R.locals)
    (hws : ∀ w ∈ ws, ∀ a' U, s.WarmedH U.vm → w.before a' U = true) (hcode : Cond.codeWith y bytes maxL ret hh ∈ ws) (hinit : ∀ a' U, s.WarmedH U.vm → (Cond.initialized y.cls).before a' U = true) :
    vx_Back l R p e below s sargs y len W9 (PreOf R mc ms Pc) (PostOf Qc mc ms free) (vx_Post XC mc ms free) := by
  intro m meth c A g ig mk a X hg hsize hdg hW hn hp
  have h1 : (headSpec ws rm).pre.before a A.U = true := atoms_intro fun w hw => hws w hw _ _ X.warmed
  have h2 : (Cond.codeWith y bytes maxL ret hh).before a A.U = true := hws _ hcode _ _ X.warmed
  have h3 : (Cond.initialized y.cls).before a A.U = true := hinit _ _ X.warmed
  have h4 : A.cells + (headSpec ws rm).room.cells ≤ R.cells := by rw [show (headSpec ws rm).room.cells = mc from hrc]; exact hp.1
  have h5 : A.slots + (headSpec ws rm).room.slots ≤ R.slots := by rw [show (headSpec ws rm).room.slots = ms from hrs]; exact hp.2.1
  have hPc : Pc a (A.U.calling g mk a) := hblind _ _ _ _ hp.2.2
  obtain ⟨U, Ls, c0, s0⟩ := A
  dsimp only [Pt.U, Pt.locs, Pt.cells, Pt.slots] at h1 h2 h3 h4 h5 X hn hPc ⊢
  obtain ⟨m9, methY, cY, hn9, hmY, hcY, -, hlY, -⟩ := Cond.codeWith_spec h2
  cases Option.some.inj (hn9.symm.trans hn)
  obtain ⟨kY, hkY, -⟩ := className_of_methodNamed hn
  have hinitY : kY.init = .initialized := Cond.initialized_spec (findClass_of_methodNamed hn) hkY h3
  have h : At U g.method c below := by rw [hg]; exact X.here
  have hlocals9 : W9 + (maxL + 11) + (headSpec ws rm).room.locals ≤ R.locals := hlocals
  have happ : (headSpec ws rm).appliesLoose y e.platform (U.calling g mk a) = true :=
    Spec.appliesLoose_calling (g := g) h hdg hn hkY hinitY
      (X.room_calling (g := g) (R' := (headSpec ws rm).room) hsize hmY hcY hframes (by rw [hlY]; omega) h4 h5) h1
  obtain ⟨mid, hmid⟩ := h.above
  have hfr : (U.setTop g).frames = (.java g :: mid) ++ below := by rw [State.frames_setTop' g h.top, hmid]; rfl
  obtain ⟨o, s₂, hsteps, -, hend, hq⟩ := Steps.callFree hM p X.admits X.cas X.clock (acts := []) hfr happ hPc trivial
  have hq' : vx_Q Qc XC mc ms free a (U.calling g mk a) o s₂ := hq
  rw [State.frames_setTop' g h.top] at hend
  obtain ⟨g₀, hg0⟩ := Option.isSome_iff_exists.mp h.top
  obtain ⟨r, hr⟩ := State.topJava?_eq_some.mp hg0
  have hr' : (({ U with heap := s₂.heap, slotsUsed := s₂.slotsUsed } : State).setVm s₂.vm).frames = .java g₀ :: r := hr
  rcases hq' with ⟨hqc, L, hfe, hL⟩ | ⟨q, rfl, E, ce, L, hx, hce, hcv, hcl, hW₂, hsm, hL⟩
  · obtain ⟨⟨v, rfl⟩, hW₂, e2, q2, q3, q4, q5, q6⟩ := id hfe
    have e3 : s₂ = ({ (U.calling g mk a).setFrames s₂.frames with heap := s₂.heap, slotsUsed := s₂.slotsUsed } : State).setVm s₂.vm := by
      have : s₂ = ({ s₂ with vm := (U.calling g mk a).vm } : State).setVm s₂.vm := rfl
      rw [e2] at this
      exact this
    obtain ⟨c₂, i₂, len₂, hc₂, hd₂, hf₂⟩ := hend
    have hW' : U.WarmedH s₂.vm := hW₂
    have hcc : c₂ = c := by
      have h1 : s₂.code? g.method = U.code? g.method := by
        rw [State.code?_eq, State.code?_eq, hW'.alike.method?]
      exact Option.some.inj (hc₂.symm.trans (h1.trans h.code))
    subst hcc
    have hlen : len₂ = len := by rw [hdg] at hd₂; cases hd₂; rfl
    subst hlen
    have hs₂ : s₂ = (({ U with heap := s₂.heap, slotsUsed := s₂.slotsUsed } : State).setVm s₂.vm).setTop { g with pc := g.pc + len₂, stack := v.toList ++ g.stack } := by
      refine e3.trans ?_
      rw [hf₂, State.calling_eq h.top, State.setFrames_setFrames, State.setTop_of_frames _ hr', hr]
      rfl
    have hsame : U.sameButNew ({ U with heap := s₂.heap, slotsUsed := s₂.slotsUsed } : State) L mc ms := by
      refine ⟨?_, q2, q3, q4, q5, q6⟩
      obtain ⟨t, ht, -⟩ := State.frames_cons hr
      show ({ U with heap := s₂.heap, slotsUsed := s₂.slotsUsed } : State) = { U.setFrames U.frames with heap := s₂.heap, slotsUsed := s₂.slotsUsed }
      rw [State.setFrames_self ht]
    subst hg
    refine Or.inl ⟨v, ⟨(({ U with heap := s₂.heap, slotsUsed := s₂.slotsUsed } : State).setVm s₂.vm), Ls ++ L, c0 + mc, s0 + ms⟩,
      ⟨X.admits, X.cas, X.clock, X.frames, X.room, X.hears, X.method, X.code, (X.here.setHeapUsed s₂.heap s₂.slotsUsed).setVm hW'.alike, X.tail, State.WarmedH.trans X.warmed hW', X.limits, X.bytes, X.same.trans (hsame.setVm s.vm)⟩,
      ⟨g, mk, s₂, L, rfl, rfl, hqc, rfl, hL, rfl, rfl⟩, ?_⟩
    show Steps p.tables e below _ ((({ U with heap := s₂.heap, slotsUsed := s₂.slotsUsed } : State).setVm s₂.vm).setTop { g with pc := g.pc + len₂, stack := v.toList ++ g.stack })
    rw [← hs₂]
    exact hsteps
  · obtain ⟨e2, q2, q3, q4, q5, q6⟩ := id hsm
    have e3 : s₂ = ({ (U.calling g mk a).setFrames s₂.frames with heap := s₂.heap, slotsUsed := s₂.slotsUsed } : State).setVm s₂.vm := by
      have : s₂ = ({ s₂ with vm := (U.calling g mk a).vm } : State).setVm s₂.vm := rfl
      rw [e2] at this
      exact this
    have hf₂ : s₂.frames = .throwing q :: .java g :: U.frames.tail := hend
    have hW' : U.WarmedH s₂.vm := hW₂
    have hs₂ : s₂ = ((({ U with heap := s₂.heap, slotsUsed := s₂.slotsUsed } : State).setVm s₂.vm).setTop g).pushFrame (.throwing q) := by
      refine e3.trans ?_
      rw [hf₂, State.calling_eq h.top, State.setFrames_setFrames, State.pushFrame, State.frames_setTop _ hr', State.setTop_of_frames _ hr', State.setFrames_setFrames, hr]
      rfl
    have hsame : U.sameButNew ({ U with heap := s₂.heap, slotsUsed := s₂.slotsUsed } : State) L mc ms := by
      refine ⟨?_, q2, q3, q4, q5, q6⟩
      obtain ⟨t, ht, -⟩ := State.frames_cons hr
      show ({ U with heap := s₂.heap, slotsUsed := s₂.slotsUsed } : State) = { U.setFrames U.frames with heap := s₂.heap, slotsUsed := s₂.slotsUsed }
      rw [State.setFrames_self ht]
    subst hg
    refine Or.inr ⟨q, ⟨(({ U with heap := s₂.heap, slotsUsed := s₂.slotsUsed } : State).setVm s₂.vm), Ls ++ L, c0 + mc, s0 + ms⟩,
      ⟨X.admits, X.cas, X.clock, X.frames, X.room, X.hears, X.method, X.code, (X.here.setHeapUsed s₂.heap s₂.slotsUsed).setVm hW'.alike, X.tail, State.WarmedH.trans X.warmed hW', X.limits, X.bytes, X.same.trans (hsame.setVm s.vm)⟩,
      ⟨g, mk, s₂, L, E, ce, rfl, rfl, hx, hce, hcv, hcl, rfl, hL, rfl, rfl⟩, ?_⟩
    show Steps p.tables e below _ (((({ U with heap := s₂.heap, slotsUsed := s₂.slotsUsed } : State).setVm s₂.vm).setTop g).pushFrame (.throwing q))
    rw [← hs₂]
    exact hsteps
end
variable {p : Program} {l : Launch} {e : Env} {R : Room} {s : State} {m : MethodId} {args : Array Value} {below : List Frame} {meth : Method} {c : Code} {T : State} {H : Heap} {locs : List Loc} {cells slots : Nat}
theorem vx_callVX (X : Stand p l e R s m args below meth c T locs cells slots) (hexec : p.tables.exec = Jvm.exec) {own C : String} {index : Nat} {y : MethodName} {bytes : ByteArray} {maxL : Nat} {ret : Option FieldType} {hh : List (Nat × Nat × Nat × Nat)}
    (hown : s.vm.findClass own = some m.cls) (hlink : (Cond.methodLink own index y).before args s = true) (hinst : (Cond.instanceMethod y).before args s = true) (hsel : (Cond.selects C y y).before args s = true)
    (hcode : (Cond.codeWith y bytes maxL ret hh).before args s = true) (hy : y.cls ≠ "java/lang/invoke/MethodHandle" ∧ y.cls ≠ "java/lang/invoke/VarHandle")
    {W9 : Nat} {Pre : Pt → Array Value → Prop} {Post : Pt → Array Value → Option Value → Pt → Prop} {PostX : Pt → Array Value → Addr → Pt → Prop} (hK : vx_Back l R p e below s args y 3 W9 Pre Post PostX)
    {b : Addr} {cellB : Cell} (hcell : T.heap[b]? = some cellB) (hobj : cellB.vm.isStatics = false) (hcls : s.vm.findClass C = some cellB.cls)
    {g : JFrame} (hg : g.method = m) (hsize : g.locals.size = c.maxLocals) {argsL rest : List Value} (hlen : ∀ sig, parseMethodDescriptor y.desc = some sig → argsL.length = sig.parameters.length)
    (hstack : g.stack = argsL.reverse ++ .ref b :: rest) (hW : 2 * g.monitorRoom + (rest.map fun v => v.category).sum ≤ W9) (hdg : decode c.code g.pc = .ok (.invokevirtual index, 3))
    (hpre : ∀ vm₁, s.WarmedH vm₁ → Pre ⟨T.setVm vm₁, locs, cells, slots⟩ (Value.ref b :: argsL).toArray) :
    (∃ (v : Option Value) (vm₁ : Vm) (B : Pt), s.WarmedH vm₁ ∧ Stand p l e R s m args below meth c B.U B.locs B.cells B.slots ∧ Post ⟨T.setVm vm₁, locs, cells, slots⟩ (Value.ref b :: argsL).toArray v B ∧
      ∀ target, Steps p.tables e below (B.U.setTop { g with pc := g.pc + 3, stack := v.toList ++ rest }) target → Steps p.tables e below (T.setTop g) target) ∨
    (∃ (q : Addr) (vm₁ : Vm) (B : Pt), s.WarmedH vm₁ ∧ Stand p l e R s m args below meth c B.U B.locs B.cells B.slots ∧ PostX ⟨T.setVm vm₁, locs, cells, slots⟩ (Value.ref b :: argsL).toArray q B ∧
      Steps p.tables e below (T.setTop g) ((B.U.setTop { g with stack := rest }).pushFrame (.throwing q))) := by
  obtain ⟨mk, methM, hnamed, hmethM, hstM, habM⟩ := Cond.instanceMethod_spec hinst
  obtain ⟨m8, methM', cM, hn8, hmethM', -, -, -, -, -, -, hsigM⟩ := Cond.codeWith_spec hcode
  cases Option.some.inj (hn8.symm.trans hnamed)
  cases hmethM.symm.trans hmethM'
  obtain ⟨c2, r2, m2, q1, q2, q3, q4, kP, hkP, hkPi⟩ := Cond.selects_spec hsel
  cases hcls.symm.trans q1
  cases (State.methodFound?_of_named hnamed hy).symm.trans q2
  cases hnamed.symm.trans q3
  have hselP : selectMethod e.platform s.vm cellB.cls mk = .method mk := by rw [Launch.admits_selectMethod X.admits]; exact q4
  obtain ⟨vm₁, X₁, hstep₁⟩ := X.invokevirtual hexec hown hlink hnamed hmethM hstM hkP hkPi hy (a := b) (cell := cellB) hcell
    (fun z h => by rw [h] at hobj; cases hobj) hselP hmethM habM hkP hkPi (g := g) hg (argsL := argsL) (rest := rest) (hlen _ hsigM) hstack hdg
  rcases hK m meth c ⟨T.setVm vm₁, locs, cells, slots⟩ { g with stack := rest } (.invokevirtual index) mk (Value.ref b :: argsL).toArray X₁ hg hsize hdg hW (X₁.named hnamed) (hpre vm₁ X₁.warmed) with ⟨v, B, X', hpost, hsteps⟩ | ⟨q, B, X', hpost, hsteps⟩
  · exact Or.inl ⟨v, vm₁, B, X₁.warmed, X', hpost, fun target h => hstep₁ _ fun acts => by rw [doInvoke_state]; exact hsteps.trans h⟩
  · exact Or.inr ⟨q, vm₁, B, X₁.warmed, X', hpost, hstep₁ _ fun acts => by rw [doInvoke_state]; exact hsteps⟩
theorem vx_callSX (X : Stand p l e R s m args below meth c T locs cells slots) (hexec : p.tables.exec = Jvm.exec) {own : String} {index : Nat} {y : MethodName} {bytes : ByteArray} {maxL : Nat} {ret : Option FieldType} {hh : List (Nat × Nat × Nat × Nat)}
    (hown : s.vm.findClass own = some m.cls) (hlink : (Cond.methodLink own index y).before args s = true) (hstat : (Cond.static y).before args s = true) (hinit : (Cond.initialized y.cls).before args s = true)
    (hcode : (Cond.codeWith y bytes maxL ret hh).before args s = true) (hy : y.cls ≠ "java/lang/invoke/MethodHandle" ∧ y.cls ≠ "java/lang/invoke/VarHandle")
    {W9 : Nat} {Pre : Pt → Array Value → Prop} {Post : Pt → Array Value → Option Value → Pt → Prop} {PostX : Pt → Array Value → Addr → Pt → Prop} (hK : vx_Back l R p e below s args y 3 W9 Pre Post PostX)
    {g : JFrame} (hg : g.method = m) (hsize : g.locals.size = c.maxLocals) {argsL rest : List Value} (hlen : ∀ sig, parseMethodDescriptor y.desc = some sig → argsL.length = sig.parameters.length)
    (hstack : g.stack = argsL.reverse ++ rest) (hW : 2 * g.monitorRoom + (rest.map fun v => v.category).sum ≤ W9) (hdg : decode c.code g.pc = .ok (.invokestatic index, 3))
    (hpre : ∀ vm₁, s.WarmedH vm₁ → Pre ⟨T.setVm vm₁, locs, cells, slots⟩ argsL.toArray) :
    (∃ (v : Option Value) (vm₁ : Vm) (B : Pt), s.WarmedH vm₁ ∧ Stand p l e R s m args below meth c B.U B.locs B.cells B.slots ∧ Post ⟨T.setVm vm₁, locs, cells, slots⟩ argsL.toArray v B ∧
      ∀ target, Steps p.tables e below (B.U.setTop { g with pc := g.pc + 3, stack := v.toList ++ rest }) target → Steps p.tables e below (T.setTop g) target) ∨
    (∃ (q : Addr) (vm₁ : Vm) (B : Pt), s.WarmedH vm₁ ∧ Stand p l e R s m args below meth c B.U B.locs B.cells B.slots ∧ PostX ⟨T.setVm vm₁, locs, cells, slots⟩ argsL.toArray q B ∧
      Steps p.tables e below (T.setTop g) ((B.U.setTop { g with stack := rest }).pushFrame (.throwing q))) := by
  obtain ⟨mk, methM, cM, hnamed, hmethM, -, -, -, -, -, -, hsigM⟩ := Cond.codeWith_spec hcode
  have hstatic : methM.isStatic = true := Cond.static_spec hnamed hmethM hstat
  obtain ⟨kP, hkP, -⟩ := className_of_methodNamed hnamed
  have hinitP : kP.init = .initialized := Cond.initialized_spec (findClass_of_methodNamed hnamed) hkP hinit
  obtain ⟨vm₁, X₁, hstep₁⟩ := X.invokestatic hexec hown hlink hnamed hmethM hstatic hkP hinitP hy (g := g) hg (argsL := argsL) (rest := rest) (hlen _ hsigM) hstack hdg
  rcases hK m meth c ⟨T.setVm vm₁, locs, cells, slots⟩ { g with stack := rest } (.invokestatic index) mk argsL.toArray X₁ hg hsize hdg hW (X₁.named hnamed) (hpre vm₁ X₁.warmed) with ⟨v, B, X', hpost, hsteps⟩ | ⟨q, B, X', hpost, hsteps⟩
  · exact Or.inl ⟨v, vm₁, B, X₁.warmed, X', hpost, fun target h => hstep₁ _ fun acts => by rw [doInvoke_state]; exact hsteps.trans h⟩
  · exact Or.inr ⟨q, vm₁, B, X₁.warmed, X', hpost, hstep₁ _ fun acts => by rw [doInvoke_state]; exact hsteps⟩
theorem vx_callVW (X : Stand p l e R s m args below meth c T locs cells slots) (hexec : p.tables.exec = Jvm.exec) {own C : String} {index : Nat} {y : MethodName} {bytes : ByteArray} {maxL : Nat} {ret : Option FieldType} {hh : List (Nat × Nat × Nat × Nat)}
    (hown : s.vm.findClass own = some m.cls) (hlink : (Cond.methodLink own index y).before args s = true) (hinst : (Cond.instanceMethod y).before args s = true) (hsel : (Cond.selects C y y).before args s = true)
    (hcode : (Cond.codeWith y bytes maxL ret hh).before args s = true) (hy : y.cls ≠ "java/lang/invoke/MethodHandle" ∧ y.cls ≠ "java/lang/invoke/VarHandle")
    {W9 : Nat} {Pre : Pt → Array Value → Prop} {Post : Pt → Array Value → Option Value → Pt → Prop} (hK : Back l R p e below s args y 3 W9 Pre Post)
    {b : Addr} {cellB : Cell} (hcell : T.heap[b]? = some cellB) (hobj : cellB.vm.isStatics = false) (hcls : s.vm.findClass C = some cellB.cls)
    {g : JFrame} (hg : g.method = m) (hsize : g.locals.size = c.maxLocals) {argsL rest : List Value} (hlen : ∀ sig, parseMethodDescriptor y.desc = some sig → argsL.length = sig.parameters.length)
    (hstack : g.stack = argsL.reverse ++ .ref b :: rest) (hW : 2 * g.monitorRoom + (rest.map fun v => v.category).sum ≤ W9) (hdg : decode c.code g.pc = .ok (.invokevirtual index, 3))
    (hpre : ∀ vm₁, s.WarmedH vm₁ → Pre ⟨T.setVm vm₁, locs, cells, slots⟩ (Value.ref b :: argsL).toArray) :
    ∃ (v : Option Value) (vm₁ : Vm) (B : Pt), s.WarmedH vm₁ ∧ Stand p l e R s m args below meth c B.U B.locs B.cells B.slots ∧ Post ⟨T.setVm vm₁, locs, cells, slots⟩ (Value.ref b :: argsL).toArray v B ∧
      ∀ target, Steps p.tables e below (B.U.setTop { g with pc := g.pc + 3, stack := v.toList ++ rest }) target → Steps p.tables e below (T.setTop g) target := by
  obtain ⟨mk, methM, hnamed, hmethM, hstM, habM⟩ := Cond.instanceMethod_spec hinst
  obtain ⟨m8, methM', cM, hn8, hmethM', -, -, -, -, -, -, hsigM⟩ := Cond.codeWith_spec hcode
  cases Option.some.inj (hn8.symm.trans hnamed)
  cases hmethM.symm.trans hmethM'
  obtain ⟨c2, r2, m2, q1, q2, q3, q4, kP, hkP, hkPi⟩ := Cond.selects_spec hsel
  cases hcls.symm.trans q1
  cases (State.methodFound?_of_named hnamed hy).symm.trans q2
  cases hnamed.symm.trans q3
  have hselP : selectMethod e.platform s.vm cellB.cls mk = .method mk := by rw [Launch.admits_selectMethod X.admits]; exact q4
  obtain ⟨vm₁, X₁, hstep₁⟩ := X.invokevirtual hexec hown hlink hnamed hmethM hstM hkP hkPi hy (a := b) (cell := cellB) hcell
    (fun z h => by rw [h] at hobj; cases hobj) hselP hmethM habM hkP hkPi (g := g) hg (argsL := argsL) (rest := rest) (hlen _ hsigM) hstack hdg
  obtain ⟨v, B, X', hpost, hsteps⟩ := hK m meth c ⟨T.setVm vm₁, locs, cells, slots⟩ { g with stack := rest } (.invokevirtual index) mk (Value.ref b :: argsL).toArray X₁ hg hsize hdg hW (X₁.named hnamed) (hpre vm₁ X₁.warmed)
  exact ⟨v, vm₁, B, X₁.warmed, X', hpost, fun target h => hstep₁ _ fun acts => by rw [doInvoke_state]; exact hsteps.trans h⟩
abbrev vx_CVW (R : Room) (s : State) (args : Array Value) (own C : String) (index : Nat) (y : MethodName) (bytes : ByteArray) (maxL : Nat) (ret : Option FieldType) (hh : List (Nat × Nat × Nat × Nat)) (ws : List Cond) (rm : Room) (mc ms n : Nat) : Prop :=
  (rm.cells = mc ∧ rm.slots = ms ∧ rm.frames + 1 ≤ R.frames ∧ 8 + (maxL + 11) + rm.locals ≤ R.locals ∧ (∀ w ∈ ws, ∀ (a' : Array Value) (U : State), s.WarmedH U.vm → w.before a' U = true) ∧ Cond.codeWith y bytes maxL ret hh ∈ ws) ∧
  (Cond.codeWith y bytes maxL ret hh).before args s = true ∧ (Cond.initialized y.cls).before args s = true ∧ (y.cls ≠ "java/lang/invoke/MethodHandle" ∧ y.cls ≠ "java/lang/invoke/VarHandle") ∧
  (∀ sig, parseMethodDescriptor y.desc = some sig → n = sig.parameters.length) ∧ (Cond.methodLink own index y).before args s = true ∧ (Cond.instanceMethod y).before args s = true ∧ (Cond.selects C y y).before args s = true
theorem vx_cwVW {own C : String} {index maxL mc ms : Nat} {y : MethodName} {bytes : ByteArray} {ret : Option FieldType} {hh : List (Nat × Nat × Nat × Nat)} {Ts ws ws' : List Cond} {rm : Room} (n : Nat) (ht : ∀ w ∈ Ts, w.before args s = true) (hT : GoodIn Ts (wsV own index C y ws)) (hw : ws = Cond.codeWith y bytes maxL ret hh :: ws') (hrc : rm.cells = mc) (hrs : rm.slots = ms)
    (hd : y.cls = C ∧ y.cls ≠ "java/lang/invoke/MethodHandle" ∧ y.cls ≠ "java/lang/invoke/VarHandle" ∧ (parseMethodDescriptor y.desc).map (fun d => d.parameters.length) = some n) (hR : rm.frames + 1 ≤ R.frames ∧ 8 + (maxL + 11) + rm.locals ≤ R.locals) :
    vx_CVW R s args own C index y bytes maxL ret hh ws rm mc ms n := by
  obtain ⟨hC, hd⟩ := hd
  subst hC
  have ok : ∀ w ∈ wsV own index y.cls y ws, w.before args s = true := fun w h => ht w (hT w h).1
  have hG : GoodIn Ts ws := fun w h => hT w (by unfold wsV; exact List.mem_append_right _ h)
  have hc : Cond.codeWith y bytes maxL ret hh ∈ ws := by rw [hw]; exact List.mem_cons_self
  refine ⟨⟨hrc, hrs, hR.1, hR.2, pay_in ht hG, hc⟩, ht _ (hG _ hc).1, ok _ (by simp [wsV]), ⟨hd.1, hd.2.1⟩, fun sig h => ?_, ok _ (by simp [wsV]), ok _ (by simp [wsV]), ok _ (by simp [wsV])⟩
  have h2 := hd.2.2
  rw [h] at h2
  exact (Option.some.inj h2).symm
theorem vx_runVW {y : MethodName} {bytes cc : ByteArray} {maxL nL mc ms n index : Nat} {ret : Option FieldType} {hh : List (Nat × Nat × Nat × Nat)} {ws : List Cond} {rm : Room} {Pc : Array Value → State → Prop} {Qc : Array Value → State → Outcome → State → Prop} {free : Addr → Prop} {Ts : List Cond} {own C : String} {b : Addr} {As rest : List Value} {g : JFrame}
    (S : CallFix p m c cc nL s args Ts own) (hM : Met l y ws rm Pc Qc mc ms free) (cw : vx_CVW R s args own C index y bytes maxL ret hh ws rm mc ms n) (hp : PreV s H C b Pc As)
    (hg : g.method = m) (hn : As.length = n) (hsize : g.locals.size = nL) (hstack : g.stack = As.reverse ++ .ref b :: rest) (hW : 2 * g.monitorRoom + (rest.map fun v => v.category).sum ≤ 8) (hdg : decode cc g.pc = .ok (.invokevirtual index, 3)) (hf : cells + mc ≤ R.cells ∧ slots + ms ≤ R.slots) :
    va_Run p l e R s m args below meth c H locs cells slots mc ms g rest (Qc (Value.ref b :: As).toArray) free := by
  obtain ⟨⟨hrc, hrs, hfr, hlo, hws, hcw⟩, hcode, hini, hy, hlen, hl, hin, hse⟩ := cw
  have hK : Back l R p e below s args y 3 8 (PreOf R mc ms Pc) (PostOf Qc mc ms free) := va_backW (hh := hh) (bytes := bytes) (maxL := maxL) (ret := ret) hM hp.1 hrc hrs hfr hlo hws hcw (fun a' U hW => word_at hW (Or.inl (by first | rfl | simp [Cond.onTables, Cond.keeps, Cond.steady])) hini)
  obtain ⟨hx, hb, hml, ho, -⟩ := S
  obtain ⟨-, ⟨cellB, hcB, hoB, hclB⟩, hPc⟩ := hp
  intro T hT X
  obtain ⟨v, vm₁, ⟨U', l2, c2, s2⟩, hW₁, X', ⟨g', mk, t, L, e1, e2, hq, h1, hL, h2, h3⟩, st⟩ := vx_callVW X hx (C := C) (hh := hh) (bytes := bytes) (maxL := maxL) (ret := ret) ho hl hin hse hcode hy hK (by rw [hT]; exact hcB) hoB hclB hg (hsize.trans hml.symm) (argsL := As) (rest := rest) (fun sig h => hn.trans (hlen sig h)) hstack hW (by rw [hb]; exact hdg)
    (fun vm₁ hW₁ => ⟨hf.1, hf.2, hPc (T.setVm vm₁) hT hW₁⟩)
  dsimp only [Pt.U, Pt.locs, Pt.cells, Pt.slots] at X' e1 e2 h1 h2 h3 st
  subst h1; subst h2; subst h3
  exact ⟨v, (T.setVm vm₁).calling g' mk (Value.ref b :: As).toArray, t, U', L, hT, X', hL, e1, e2, hq, st⟩
section
variable {y : MethodName} {bytes cc : ByteArray} {maxL nL mc ms n index : Nat} {ret : Option FieldType} {ws : List Cond} {rm : Room} {Pc : Array Value → State → Prop} {Qc : Array Value → State → Outcome → State → Prop} {XC : String → State → State → Prop} {free : Addr → Prop} {Ts : List Cond} {own C : String} {b : Addr} {As rest : List Value} {g : JFrame}
theorem vx_runVX {hh : List (Nat × Nat × Nat × Nat)} (S : CallFix p m c cc nL s args Ts own) (hM : vx_Met l y ws rm Pc Qc XC mc ms free) (cw : vx_CVW R s args own C index y bytes maxL ret hh ws rm mc ms n) (hp : PreV s H C b Pc As)
    (hg : g.method = m) (hn : As.length = n) (hsize : g.locals.size = nL) (hstack : g.stack = As.reverse ++ .ref b :: rest) (hW : 2 * g.monitorRoom + (rest.map fun v => v.category).sum ≤ 8) (hdg : decode cc g.pc = .ok (.invokevirtual index, 3)) (hf : cells + mc ≤ R.cells ∧ slots + ms ≤ R.slots) :
    vx_Run p l e R s m args below meth c H locs cells slots mc ms g rest (Qc (Value.ref b :: As).toArray) XC free := by
  obtain ⟨⟨hrc, hrs, hfr, hlo, hws, hcw⟩, hcode, hini, hy, hlen, hl, hin, hse⟩ := cw
  have hK : vx_Back l R p e below s args y 3 8 (PreOf R mc ms Pc) (PostOf Qc mc ms free) (vx_Post XC mc ms free) := vx_backW (hh := hh) (bytes := bytes) (maxL := maxL) (ret := ret) hM hp.1 hrc hrs hfr hlo hws hcw (fun a' U hW => word_at hW (Or.inl (by first | rfl | simp [Cond.onTables, Cond.keeps, Cond.steady])) hini)
  obtain ⟨hx, hb, hml, ho, -⟩ := S
  obtain ⟨-, ⟨cellB, hcB, hoB, hclB⟩, hPc⟩ := hp
  intro T hT X
  rcases vx_callVX X hx (C := C) (hh := hh) (bytes := bytes) (maxL := maxL) (ret := ret) ho hl hin hse hcode hy hK (by rw [hT]; exact hcB) hoB hclB hg (hsize.trans hml.symm) (argsL := As) (rest := rest) (fun sig h => hn.trans (hlen sig h)) hstack hW (by rw [hb]; exact hdg)
    (fun vm₁ hW₁ => ⟨hf.1, hf.2, hPc (T.setVm vm₁) hT hW₁⟩) with ⟨v, vm₁, ⟨U', l2, c2, s2⟩, hW₁, X', ⟨g', mk, t, L, e1, e2, hq, h1, hL, h2, h3⟩, st⟩ | ⟨q, vm₁, ⟨U', l2, c2, s2⟩, hW₁, X', ⟨g', mk, t, L, E, ce, e1, e2, hq, hce, hcv, hcl, h1, hL, h2, h3⟩, st⟩
  · dsimp only [Pt.U, Pt.locs, Pt.cells, Pt.slots] at X' e1 e2 h1 h2 h3 st
    subst h1; subst h2; subst h3
    exact Or.inl ⟨v, (T.setVm vm₁).calling g' mk (Value.ref b :: As).toArray, t, U', L, hT, X', hL, e1, e2, hq, st⟩
  · dsimp only [Pt.U, Pt.locs, Pt.cells, Pt.slots] at X' e1 e2 h1 h2 h3 st hcl
    subst h1; subst h2; subst h3
    exact Or.inr ⟨q, (T.setVm vm₁).calling g' mk (Value.ref b :: As).toArray, t, U', L, E, ce, hT, X', hL, e1, e2, hq, hce, hcv, vx_cls hW₁ hcl, st⟩
theorem vx_runSX {hh : List (Nat × Nat × Nat × Nat)} (S : CallFix p m c cc nL s args Ts own) (hM : vx_Met l y ws rm Pc Qc XC mc ms free) (cw : vx_CSW R s args own index y bytes maxL ret hh ws rm mc ms n) (hp : PreS s H Pc As)
    (hg : g.method = m) (hn : As.length = n) (hsize : g.locals.size = nL) (hstack : g.stack = As.reverse ++ rest) (hW : 2 * g.monitorRoom + (rest.map fun v => v.category).sum ≤ 8) (hdg : decode cc g.pc = .ok (.invokestatic index, 3)) (hf : cells + mc ≤ R.cells ∧ slots + ms ≤ R.slots) :
    vx_Run p l e R s m args below meth c H locs cells slots mc ms g rest (Qc As.toArray) XC free := by
  obtain ⟨⟨hrc, hrs, hfr, hlo, hws, hcw⟩, hcode, hini, hy, hlen, hl, hstt⟩ := cw
  have hK : vx_Back l R p e below s args y 3 8 (PreOf R mc ms Pc) (PostOf Qc mc ms free) (vx_Post XC mc ms free) := vx_backW (hh := hh) (bytes := bytes) (maxL := maxL) (ret := ret) hM hp.1 hrc hrs hfr hlo hws hcw (fun a' U hW => word_at hW (Or.inl (by first | rfl | simp [Cond.onTables, Cond.keeps, Cond.steady])) hini)
  obtain ⟨hx, hb, hml, ho, -⟩ := S
  intro T hT X
  rcases vx_callSX X hx (hh := hh) (bytes := bytes) (maxL := maxL) (ret := ret) ho hl hstt hini hcode hy hK hg (hsize.trans hml.symm) (argsL := As) (rest := rest) (fun sig h => hn.trans (hlen sig h)) hstack hW (by rw [hb]; exact hdg)
    (fun vm₁ hW₁ => ⟨hf.1, hf.2, hp.2 (T.setVm vm₁) hT hW₁⟩) with ⟨v, vm₁, ⟨U', l2, c2, s2⟩, hW₁, X', ⟨g', mk, t, L, e1, e2, hq, h1, hL, h2, h3⟩, st⟩ | ⟨q, vm₁, ⟨U', l2, c2, s2⟩, hW₁, X', ⟨g', mk, t, L, E, ce, e1, e2, hq, hce, hcv, hcl, h1, hL, h2, h3⟩, st⟩
  · dsimp only [Pt.U, Pt.locs, Pt.cells, Pt.slots] at X' e1 e2 h1 h2 h3 st
    subst h1; subst h2; subst h3
    exact Or.inl ⟨v, (T.setVm vm₁).calling g' mk As.toArray, t, U', L, hT, X', hL, e1, e2, hq, st⟩
  · dsimp only [Pt.U, Pt.locs, Pt.cells, Pt.slots] at X' e1 e2 h1 h2 h3 st hcl
    subst h1; subst h2; subst h3
    exact Or.inr ⟨q, (T.setVm vm₁).calling g' mk As.toArray, t, U', L, E, ce, hT, X', hL, e1, e2, hq, hce, hcv, vx_cls hW₁ hcl, st⟩
end
end VXH
theorem vx_ofWH {l : Launch} {y : MethodName} {ws ws' : List Cond} {rm : Room} {Pc : Array Value → State → Prop} {Qc : Array Value → State → Outcome → State → Prop} {XC : String → State → State → Prop} {mc ms : Nat} {free : Addr → Prop} {cc : ByteArray} {maxL : Nat} {ret : Option FieldType} {hh : List (Nat × Nat × Nat × Nat)}
    (hy : plainName y.cls = true) (hw : ws = Cond.codeWith y cc maxL ret hh :: ws')
    (body : ∀ p e s m args below meth c s₁, BodyLoose p l y (headSpec ws rm) cc maxL ret e s m args below meth c s₁ → c.maxLocals = maxL → Pc args s →
      W p l e (headSpec ws rm).room s m args below meth c s.heap [] 0 0 (vx_MQ below Qc XC args s mc ms free) (entryFrame m args maxL)) : vx_Met l y ws rm Pc Qc XC mc ms free := by
  refine MetFree.of_bodyS (code := cc) (maxLocals := maxL) (ret := ret) hy ?_ ?_
  · intro args s m h hn
    obtain ⟨m9, meth, c, hn9, h1, h2, h3, h4, -, h5, h6, -⟩ := Cond.codeWith_spec (atoms_spec (ws := ws) h _ (by rw [hw]; exact List.mem_cons_self))
    cases hn.symm.trans hn9
    exact ⟨meth, c, h1, h2, h3, h4, h5, h6⟩
  · intro p e s m args below meth c s₁ B hml hP _
    have hh0 : s₁.heap = s.heap := by rw [B.state]; rfl
    obtain ⟨t, a1, o, b1, b2, b3⟩ := body p e s m args below meth c s₁ B hml hP s₁ hh0 (Stand.of_body B)
    exact ⟨t, o, a1, b1, b2, b3⟩
/-! ===== END ===== -/
end
section
def mR_D : String := "HingeTables$Door"
def mT_D : u_T := fun k => match k with
  | 0 => ("HingeTables$Door", "width", "J", false)
  | 1 => ("HingeTables$Door", "height", "J", false)
  | 2 => ("HingeTables$Door", "thickness", "J", false)
  | _ => ("HingeTables$Door", "heaviness", "J", false)
def mF_D : Nat → FieldType := fun k => match k with
  | 0 => .long
  | 1 => .long
  | 2 => .long
  | _ => .long
theorem mN_D : ∀ a, a < 4 → ∀ b, b < 4 → a ≠ b → (mT_D a).2.1 ≠ (mT_D b).2.1 := by decide +kernel
theorem mO_D : ∀ k, k < 4 → parseFieldDescriptor (mT_D k).2.2.1 = some (mF_D k) := by decide +kernel
def mR_H : String := "HingeTables$Holes"
def mT_H : u_T := fun k => match k with
  | 0 => ("HingeTables$Holes", "xs", "[I", true)
  | 1 => ("HingeTables$Holes", "ys", "[I", true)
  | _ => ("HingeTables$Holes", "radii", "[I", true)
def mF_H : Nat → FieldType := fun k => match k with
  | 0 => .array .int
  | 1 => .array .int
  | _ => .array .int
theorem mN_H : ∀ a, a < 3 → ∀ b, b < 3 → a ≠ b → (mT_H a).2.1 ≠ (mT_H b).2.1 := by decide +kernel
theorem mO_H : ∀ k, k < 3 → parseFieldDescriptor (mT_H k).2.2.1 = some (mF_H k) := by decide +kernel
def mR_T : String := "HingeTables$Table"
def mT_T : u_T := fun k => match k with
  | 0 => ("HingeTables$Table", "letters", "[C", true)
  | 1 => ("HingeTables$Table", "numbers", "[I", true)
  | 2 => ("HingeTables$Table", "stocks", "[I", true)
  | _ => ("HingeTables$Table", "size", "I", false)
def mF_T : Nat → FieldType := fun k => match k with
  | 0 => .array .char
  | 1 => .array .int
  | 2 => .array .int
  | _ => .int
theorem mN_T : ∀ a, a < 4 → ∀ b, b < 4 → a ≠ b → (mT_T a).2.1 ≠ (mT_T b).2.1 := by decide +kernel
theorem mO_T : ∀ k, k < 4 → parseFieldDescriptor (mT_T k).2.2.1 = some (mF_T k) := by decide +kernel
def mR_S : String := "HingeTables$Text"
def mT_S : u_T := fun k => match k with
  | 0 => ("HingeTables$Text", "characters", "[C", true)
  | _ => ("HingeTables$Text", "length", "I", false)
def mF_S : Nat → FieldType := fun k => match k with
  | 0 => .array .char
  | _ => .int
theorem mN_S : ∀ a, a < 2 → ∀ b, b < 2 → a ≠ b → (mT_S a).2.1 ≠ (mT_S b).2.1 := by decide +kernel
theorem mO_S : ∀ k, k < 2 → parseFieldDescriptor (mT_S k).2.2.1 = some (mF_S k) := by decide +kernel
def mR_K : String := "HingeTables"
def mT_K : u_T := fun k => match k with
  | 0 => ("HingeTables", "text", "LHingeTables$Text;", true)
  | 1 => ("HingeTables", "ownDoor", "LHingeTables$Door;", true)
  | 2 => ("HingeTables", "holes", "LHingeTables$Holes;", true)
  | 3 => ("HingeTables", "table", "LHingeTables$Table;", false)
  | _ => ("HingeTables", "spare", "LHingeTables$Table;", false)
def mF_K : Nat → FieldType := fun k => match k with
  | 0 => .object "HingeTables$Text"
  | 1 => .object "HingeTables$Door"
  | 2 => .object "HingeTables$Holes"
  | 3 => .object "HingeTables$Table"
  | _ => .object "HingeTables$Table"
theorem mN_K : ∀ a, a < 5 → ∀ b, b < 5 → a ≠ b → (mT_K a).2.1 ≠ (mT_K b).2.1 := by decide +kernel
theorem mO_K : ∀ k, k < 5 → parseFieldDescriptor (mT_K k).2.2.1 = some (mF_K k) := by decide +kernel
def mR_M : String := "HingeTablesModel"
def mT_M : u_T := fun k => match k with
  | 0 => ("HingeTablesModel", "code", "I", false)
  | 1 => ("HingeTablesModel", "typed", "[I", true)
  | 2 => ("HingeTablesModel", "size", "I", false)
  | 3 => ("HingeTablesModel", "at", "I", false)
  | 4 => ("HingeTablesModel", "failed", "I", false)
  | 5 => ("HingeTablesModel", "rows", "I", false)
  | 6 => ("HingeTablesModel", "told", "[I", true)
  | 7 => ("HingeTablesModel", "draft", "[I", true)
  | 8 => ("HingeTablesModel", "stocks", "[I", true)
  | 9 => ("HingeTablesModel", "width", "J", false)
  | 10 => ("HingeTablesModel", "height", "J", false)
  | 11 => ("HingeTablesModel", "thick", "J", false)
  | 12 => ("HingeTablesModel", "density", "J", false)
  | 13 => ("HingeTablesModel", "xs", "[J", true)
  | 14 => ("HingeTablesModel", "ys", "[J", true)
  | 15 => ("HingeTablesModel", "radii", "[J", true)
  | 16 => ("HingeTablesModel", "cosines", "[I", true)
  | _ => ("HingeTablesModel", "sines", "[I", true)
def mF_M : Nat → FieldType := fun k => match k with
  | 0 => .int
  | 1 => .array .int
  | 2 => .int
  | 3 => .int
  | 4 => .int
  | 5 => .int
  | 6 => .array .int
  | 7 => .array .int
  | 8 => .array .int
  | 9 => .long
  | 10 => .long
  | 11 => .long
  | 12 => .long
  | 13 => .array .long
  | 14 => .array .long
  | 15 => .array .long
  | 16 => .array .int
  | _ => .array .int
theorem mN_M : ∀ a, a < 18 → ∀ b, b < 18 → a ≠ b → (mT_M a).2.1 ≠ (mT_M b).2.1 := by decide +kernel
theorem mO_M : ∀ k, k < 18 → parseFieldDescriptor (mT_M k).2.2.1 = some (mF_M k) := by decide +kernel
abbrev mC : List vw_C := [(mR_D, mT_D, 4), (mR_H, mT_H, 3), (mR_T, mT_T, 4), (mR_S, mT_S, 2), (mR_K, mT_K, 5), (mR_M, mT_M, 18)]
abbrev mb_K_init : ByteArray := prog_1_method_1_code
def my_K_init : MethodName := ⟨"HingeTables", "<init>", "()V"⟩
abbrev mb_S_init : ByteArray := prog_5_method_1_code
def my_S_init : MethodName := ⟨"HingeTables$Text", "<init>", "()V"⟩
abbrev mb_D_init : ByteArray := prog_2_method_1_code
def my_D_init : MethodName := ⟨"HingeTables$Door", "<init>", "()V"⟩
abbrev mb_H_init : ByteArray := prog_3_method_1_code
def my_H_init : MethodName := ⟨"HingeTables$Holes", "<init>", "()V"⟩
abbrev mb_T_init : ByteArray := prog_4_method_1_code
def my_T_init : MethodName := ⟨"HingeTables$Table", "<init>", "()V"⟩
abbrev mb_K_unit : ByteArray := prog_1_method_2_code
def my_K_unit : MethodName := ⟨"HingeTables", "unit", "(I)Z"⟩
abbrev mb_S_add : ByteArray := prog_5_method_2_code
def my_S_add : MethodName := ⟨"HingeTables$Text", "add", "(I)Z"⟩
abbrev mb_K_read : ByteArray := prog_1_method_3_code
def my_K_read : MethodName := ⟨"HingeTables", "read", "()I"⟩
abbrev mb_T_fill : ByteArray := prog_4_method_2_code
def my_T_fill : MethodName := ⟨"HingeTables$Table", "fill", "(LHingeTables$Text;)I"⟩
abbrev mb_S_endsAt : ByteArray := prog_5_method_4_code
def my_S_endsAt : MethodName := ⟨"HingeTables$Text", "endsAt", "(I)Z"⟩
abbrev mb_T_finish : ByteArray := prog_4_method_3_code
def my_T_finish : MethodName := ⟨"HingeTables$Table", "finish", "(I)I"⟩
abbrev mb_S_at : ByteArray := prog_5_method_3_code
def my_S_at : MethodName := ⟨"HingeTables$Text", "at", "(I)C"⟩
abbrev mb_T_fault : ByteArray := prog_4_method_4_code
def my_T_fault : MethodName := ⟨"HingeTables$Table", "fault", "(I)I"⟩
abbrev mb_T_fillRow : ByteArray := prog_4_method_5_code
def my_T_fillRow : MethodName := ⟨"HingeTables$Table", "fillRow", "(LHingeTables$Text;II)I"⟩
abbrev mb_K_numbersBehind : ByteArray := prog_1_method_25_code
def my_K_numbersBehind : MethodName := ⟨"HingeTables", "numbersBehind", "(C)I"⟩
abbrev mb_T_fillNumber : ByteArray := prog_4_method_6_code
def my_T_fillNumber : MethodName := ⟨"HingeTables$Table", "fillNumber", "(LHingeTables$Text;III)I"⟩
abbrev mb_T_isDigit : ByteArray := prog_4_method_7_code
def my_T_isDigit : MethodName := ⟨"HingeTables$Table", "isDigit", "(C)Z"⟩
abbrev mb_T_mayStand : ByteArray := prog_4_method_8_code
def my_T_mayStand : MethodName := ⟨"HingeTables$Table", "mayStand", "(III)Z"⟩
abbrev mb_T_number : ByteArray := prog_4_method_10_code
def my_T_number : MethodName := ⟨"HingeTables$Table", "number", "(II)I"⟩
abbrev mb_S_clear : ByteArray := prog_5_method_5_code
def my_S_clear : MethodName := ⟨"HingeTables$Text", "clear", "()V"⟩
abbrev mb_L_row : ByteArray := method_3_code
def my_L_row : MethodName := ⟨"HingeTablesLaw", "row", "(LHingeTables;II[J)I"⟩
abbrev mb_K_row : ByteArray := prog_1_method_4_code
def my_K_row : MethodName := ⟨"HingeTables", "row", "(II)I"⟩
abbrev mb_K_needTable : ByteArray := prog_1_method_19_code
def my_K_needTable : MethodName := ⟨"HingeTables", "needTable", "()V"⟩
abbrev mb_K_needRow : ByteArray := prog_1_method_20_code
def my_K_needRow : MethodName := ⟨"HingeTables", "needRow", "(I)V"⟩
abbrev mb_T_letter : ByteArray := prog_4_method_9_code
def my_T_letter : MethodName := ⟨"HingeTables$Table", "letter", "(I)C"⟩
abbrev mb_L_stock : ByteArray := method_4_code
def my_L_stock : MethodName := ⟨"HingeTablesLaw", "stock", "(LHingeTables;II[J)I"⟩
abbrev mb_K_stock : ByteArray := prog_1_method_5_code
def my_K_stock : MethodName := ⟨"HingeTables", "stock", "(II)Z"⟩
abbrev mb_T_changeStock : ByteArray := prog_4_method_11_code
def my_T_changeStock : MethodName := ⟨"HingeTables$Table", "changeStock", "(II)Z"⟩
abbrev mb_L_hinge : ByteArray := method_5_code
def my_L_hinge : MethodName := ⟨"HingeTablesLaw", "hinge", "(LHingeTables;JJI[J)I"⟩
abbrev mb_K_hinge : ByteArray := prog_1_method_6_code
def my_K_hinge : MethodName := ⟨"HingeTables", "hinge", "(JJI)I"⟩
abbrev mb_T_firstHinge : ByteArray := prog_4_method_13_code
def my_T_firstHinge : MethodName := ⟨"HingeTables$Table", "firstHinge", "(JJI)I"⟩
abbrev mb_T_isStocked : ByteArray := prog_4_method_12_code
def my_T_isStocked : MethodName := ⟨"HingeTables$Table", "isStocked", "(IC)Z"⟩
abbrev mb_T_holds : ByteArray := prog_4_method_14_code
def my_T_holds : MethodName := ⟨"HingeTables$Table", "holds", "(IIJJ)Z"⟩
abbrev mb_L_other : ByteArray := method_6_code
def my_L_other : MethodName := ⟨"HingeTablesLaw", "other", "(LHingeTables;II[J)I"⟩
abbrev mb_K_other : ByteArray := prog_1_method_7_code
def my_K_other : MethodName := ⟨"HingeTables", "other", "(II)I"⟩
abbrev mb_T_otherHinge : ByteArray := prog_4_method_15_code
def my_T_otherHinge : MethodName := ⟨"HingeTables$Table", "otherHinge", "(II)I"⟩
abbrev mb_T_canReplace : ByteArray := prog_4_method_16_code
def my_T_canReplace : MethodName := ⟨"HingeTables$Table", "canReplace", "(II)Z"⟩
abbrev mb_L_slide : ByteArray := method_7_code
def my_L_slide : MethodName := ⟨"HingeTablesLaw", "slide", "(LHingeTables;J[J)I"⟩
abbrev mb_K_slide : ByteArray := prog_1_method_8_code
def my_K_slide : MethodName := ⟨"HingeTables", "slide", "(J)I"⟩
abbrev mb_T_longestSlide : ByteArray := prog_4_method_17_code
def my_T_longestSlide : MethodName := ⟨"HingeTables$Table", "longestSlide", "(J)I"⟩
abbrev mb_L_door : ByteArray := method_8_code
def my_L_door : MethodName := ⟨"HingeTablesLaw", "door", "(LHingeTables;JJJJ[J)I"⟩
abbrev mb_K_door : ByteArray := prog_1_method_9_code
def my_K_door : MethodName := ⟨"HingeTables", "door", "(JJJJ)Z"⟩
abbrev mb_K_isOfDoor : ByteArray := prog_1_method_23_code
def my_K_isOfDoor : MethodName := ⟨"HingeTables", "isOfDoor", "(J)Z"⟩
abbrev mb_K_isWithin : ByteArray := prog_1_method_24_code
def my_K_isWithin : MethodName := ⟨"HingeTables", "isWithin", "(JII)Z"⟩
abbrev mb_D_change : ByteArray := prog_2_method_2_code
def my_D_change : MethodName := ⟨"HingeTables$Door", "change", "(JJJJ)Z"⟩
abbrev mb_L_weight : ByteArray := method_9_code
def my_L_weight : MethodName := ⟨"HingeTablesLaw", "weight", "(LHingeTables;I[J)I"⟩
abbrev mb_K_weight : ByteArray := prog_1_method_10_code
def my_K_weight : MethodName := ⟨"HingeTables", "weight", "(I)J"⟩
abbrev mb_K_needPart : ByteArray := prog_1_method_22_code
def my_K_needPart : MethodName := ⟨"HingeTables", "needPart", "(I)V"⟩
abbrev mb_D_millionWeights : ByteArray := prog_2_method_3_code
def my_D_millionWeights : MethodName := ⟨"HingeTables$Door", "millionWeights", "()J"⟩
abbrev mb_K_partOfFraction : ByteArray := prog_1_method_26_code
def my_K_partOfFraction : MethodName := ⟨"HingeTables", "partOfFraction", "(JJI)J"⟩
abbrev mb_K_commonDivisor : ByteArray := prog_1_method_27_code
def my_K_commonDivisor : MethodName := ⟨"HingeTables", "commonDivisor", "(JJ)J"⟩
abbrev mb_L_count : ByteArray := method_10_code
def my_L_count : MethodName := ⟨"HingeTablesLaw", "count", "(LHingeTables;[J)I"⟩
abbrev mb_K_count : ByteArray := prog_1_method_11_code
def my_K_count : MethodName := ⟨"HingeTables", "count", "()I"⟩
abbrev mb_T_hingesOf : ByteArray := prog_4_method_18_code
def my_T_hingesOf : MethodName := ⟨"HingeTables$Table", "hingesOf", "(LHingeTables$Door;)I"⟩
abbrev mb_L_place : ByteArray := method_11_code
def my_L_place : MethodName := ⟨"HingeTablesLaw", "place", "(LHingeTables;II[J)I"⟩
abbrev mb_K_place : ByteArray := prog_1_method_12_code
def my_K_place : MethodName := ⟨"HingeTables", "place", "(II)J"⟩
abbrev mb_D_placeNumerator : ByteArray := prog_2_method_4_code
def my_D_placeNumerator : MethodName := ⟨"HingeTables$Door", "placeNumerator", "(II)J"⟩
abbrev mb_L_hole : ByteArray := method_12_code
def my_L_hole : MethodName := ⟨"HingeTablesLaw", "hole", "(LHingeTables;IJJJ[J)I"⟩
abbrev mb_K_hole : ByteArray := prog_1_method_13_code
def my_K_hole : MethodName := ⟨"HingeTables", "hole", "(IJJJ)Z"⟩
abbrev mb_K_needHole : ByteArray := prog_1_method_21_code
def my_K_needHole : MethodName := ⟨"HingeTables", "needHole", "(I)V"⟩
abbrev mb_H_change : ByteArray := prog_3_method_2_code
def my_H_change : MethodName := ⟨"HingeTables$Holes", "change", "(IJJJ)Z"⟩
abbrev mb_L_meet : ByteArray := method_13_code
def my_L_meet : MethodName := ⟨"HingeTablesLaw", "meet", "(LHingeTables;II[J)I"⟩
abbrev mb_K_meet : ByteArray := prog_1_method_14_code
def my_K_meet : MethodName := ⟨"HingeTables", "meet", "(II)Z"⟩
abbrev mb_H_overlap : ByteArray := prog_3_method_3_code
def my_H_overlap : MethodName := ⟨"HingeTables$Holes", "overlap", "(II)Z"⟩
abbrev mb_L_pair : ByteArray := method_14_code
def my_L_pair : MethodName := ⟨"HingeTablesLaw", "pair", "(LHingeTables;I[J)I"⟩
abbrev mb_K_pair : ByteArray := prog_1_method_15_code
def my_K_pair : MethodName := ⟨"HingeTables", "pair", "(I)I"⟩
abbrev mb_H_overlappingPair : ByteArray := prog_3_method_4_code
def my_H_overlappingPair : MethodName := ⟨"HingeTables$Holes", "overlappingPair", "(I)I"⟩
abbrev mb_L_wall : ByteArray := method_15_code
def my_L_wall : MethodName := ⟨"HingeTablesLaw", "wall", "(LHingeTables;J[J)I"⟩
abbrev mb_K_wall : ByteArray := prog_1_method_16_code
def my_K_wall : MethodName := ⟨"HingeTables", "wall", "(J)I"⟩
abbrev mb_D_leastX : ByteArray := prog_2_method_9_code
def my_D_leastX : MethodName := ⟨"HingeTables$Door", "leastX", "(I)J"⟩
abbrev mb_D_turnedX : ByteArray := prog_2_method_7_code
def my_D_turnedX : MethodName := ⟨"HingeTables$Door", "turnedX", "(II)J"⟩
abbrev mb_D_shutX : ByteArray := prog_2_method_5_code
def my_D_shutX : MethodName := ⟨"HingeTables$Door", "shutX", "(I)J"⟩
abbrev mb_D_shutY : ByteArray := prog_2_method_6_code
def my_D_shutY : MethodName := ⟨"HingeTables$Door", "shutY", "(I)J"⟩
abbrev mb_L_corner : ByteArray := method_16_code
def my_L_corner : MethodName := ⟨"HingeTablesLaw", "corner", "(LHingeTables;III[J)I"⟩
abbrev mb_K_corner : ByteArray := prog_1_method_17_code
def my_K_corner : MethodName := ⟨"HingeTables", "corner", "(III)J"⟩
abbrev mb_D_turnedY : ByteArray := prog_2_method_8_code
def my_D_turnedY : MethodName := ⟨"HingeTables$Door", "turnedY", "(II)J"⟩
abbrev mb_L_rows32 : ByteArray := method_17_code
def my_L_rows32 : MethodName := ⟨"HingeTablesLaw", "rows32", "(LHingeTables;JI[J)I"⟩
abbrev mb_K_rows32 : ByteArray := prog_1_method_18_code
def my_K_rows32 : MethodName := ⟨"HingeTables", "rows32", "(JI)I"⟩
abbrev mb_M_init : ByteArray := prog_7_method_1_code
def my_M_init : MethodName := ⟨"HingeTablesModel", "<init>", "()V"⟩
abbrev mb_M_turn : ByteArray := prog_7_method_2_code
def my_M_turn : MethodName := ⟨"HingeTablesModel", "turn", "(III)V"⟩
abbrev mb_M_thrown : ByteArray := prog_7_method_3_code
def my_M_thrown : MethodName := ⟨"HingeTablesModel", "thrown", "()I"⟩
abbrev mb_M_unit : ByteArray := prog_7_method_5_code
def my_M_unit : MethodName := ⟨"HingeTablesModel", "unit", "(I)Z"⟩
abbrev mb_M_read : ByteArray := prog_7_method_11_code
def my_M_read : MethodName := ⟨"HingeTablesModel", "read", "()I"⟩
abbrev mb_M_readRow : ByteArray := prog_7_method_10_code
def my_M_readRow : MethodName := ⟨"HingeTablesModel", "readRow", "(I)V"⟩
abbrev mb_M_here : ByteArray := prog_7_method_6_code
def my_M_here : MethodName := ⟨"HingeTablesModel", "here", "()I"⟩
abbrev mb_M_sizeOf : ByteArray := prog_7_method_9_code
def my_M_sizeOf : MethodName := ⟨"HingeTablesModel", "sizeOf", "(I)I"⟩
abbrev mb_M_failAt : ByteArray := prog_7_method_7_code
def my_M_failAt : MethodName := ⟨"HingeTablesModel", "failAt", "(I)V"⟩
abbrev mb_M_readNumber : ByteArray := prog_7_method_8_code
def my_M_readNumber : MethodName := ⟨"HingeTablesModel", "readNumber", "()I"⟩
abbrev mb_M_isIn : ByteArray := prog_7_method_4_code
def my_M_isIn : MethodName := ⟨"HingeTablesModel", "isIn", "(JJJ)Z"⟩
abbrev mb_M_row : ByteArray := prog_7_method_14_code
def my_M_row : MethodName := ⟨"HingeTablesModel", "row", "(II)I"⟩
abbrev mb_M_rowCode : ByteArray := prog_7_method_12_code
def my_M_rowCode : MethodName := ⟨"HingeTablesModel", "rowCode", "(I)I"⟩
abbrev mb_M_stock : ByteArray := prog_7_method_15_code
def my_M_stock : MethodName := ⟨"HingeTablesModel", "stock", "(II)Z"⟩
abbrev mb_M_hinge : ByteArray := prog_7_method_17_code
def my_M_hinge : MethodName := ⟨"HingeTablesModel", "hinge", "(JJI)I"⟩
abbrev mb_M_number : ByteArray := prog_7_method_13_code
def my_M_number : MethodName := ⟨"HingeTablesModel", "number", "(II)J"⟩
abbrev mb_M_isThere : ByteArray := prog_7_method_16_code
def my_M_isThere : MethodName := ⟨"HingeTablesModel", "isThere", "(II)Z"⟩
abbrev mb_M_other : ByteArray := prog_7_method_19_code
def my_M_other : MethodName := ⟨"HingeTablesModel", "other", "(II)I"⟩
abbrev mb_M_replaces : ByteArray := prog_7_method_18_code
def my_M_replaces : MethodName := ⟨"HingeTablesModel", "replaces", "(II)Z"⟩
abbrev mb_M_slide : ByteArray := prog_7_method_20_code
def my_M_slide : MethodName := ⟨"HingeTablesModel", "slide", "(J)I"⟩
abbrev mb_M_door : ByteArray := prog_7_method_22_code
def my_M_door : MethodName := ⟨"HingeTablesModel", "door", "(JJJJ)Z"⟩
abbrev mb_M_isSize : ByteArray := prog_7_method_21_code
def my_M_isSize : MethodName := ⟨"HingeTablesModel", "isSize", "(J)Z"⟩
abbrev mb_M_weight : ByteArray := prog_7_method_25_code
def my_M_weight : MethodName := ⟨"HingeTablesModel", "weight", "(I)J"⟩
abbrev mb_M_grams : ByteArray := prog_7_method_24_code
def my_M_grams : MethodName := ⟨"HingeTablesModel", "grams", "()J"⟩
abbrev mb_M_common : ByteArray := prog_7_method_23_code
def my_M_common : MethodName := ⟨"HingeTablesModel", "common", "(JJ)J"⟩
abbrev mb_M_count : ByteArray := prog_7_method_27_code
def my_M_count : MethodName := ⟨"HingeTablesModel", "count", "()I"⟩
abbrev mb_M_hinges : ByteArray := prog_7_method_26_code
def my_M_hinges : MethodName := ⟨"HingeTablesModel", "hinges", "()I"⟩
abbrev mb_M_place : ByteArray := prog_7_method_28_code
def my_M_place : MethodName := ⟨"HingeTablesModel", "place", "(II)J"⟩
abbrev mb_M_hole : ByteArray := prog_7_method_29_code
def my_M_hole : MethodName := ⟨"HingeTablesModel", "hole", "(IJJJ)Z"⟩
abbrev mb_M_meet : ByteArray := prog_7_method_31_code
def my_M_meet : MethodName := ⟨"HingeTablesModel", "meet", "(II)Z"⟩
abbrev mb_M_meets : ByteArray := prog_7_method_30_code
def my_M_meets : MethodName := ⟨"HingeTablesModel", "meets", "(II)Z"⟩
abbrev mb_M_pair : ByteArray := prog_7_method_32_code
def my_M_pair : MethodName := ⟨"HingeTablesModel", "pair", "(I)I"⟩
abbrev mb_M_corner : ByteArray := prog_7_method_34_code
def my_M_corner : MethodName := ⟨"HingeTablesModel", "corner", "(III)J"⟩
abbrev mb_M_placeOf : ByteArray := prog_7_method_33_code
def my_M_placeOf : MethodName := ⟨"HingeTablesModel", "placeOf", "(III)J"⟩
abbrev mb_M_wall : ByteArray := prog_7_method_35_code
def my_M_wall : MethodName := ⟨"HingeTablesModel", "wall", "(J)I"⟩
abbrev mb_M_rows32 : ByteArray := prog_7_method_36_code
def my_M_rows32 : MethodName := ⟨"HingeTablesModel", "rows32", "(JI)I"⟩
abbrev mb_L_law : ByteArray := code
def gw_l : List Cond := lw_tbl.filter goodWord
theorem gw_mem {w : Cond} (h : w ∈ lw_tbl) (g : goodWord w = true) : w ∈ gw_l := List.mem_filter.mpr ⟨h, g⟩
theorem gw_t {w : Cond} (i : Nat) (h : tables_1[i]? = some w) (g : goodWord w = true) : w ∈ gw_l := gw_mem (List.mem_append_right _ (List.mem_of_getElem? h)) g
theorem gw_p {w : Cond} (i : Nat) (h : (k2_sels lw_privs)[i]? = some w) (g : goodWord w = true) : w ∈ gw_l := gw_mem (List.mem_append_left _ (List.mem_of_getElem? h)) g
theorem wd_0 : Cond.initialized "HingeTablesLaw" ∈ gw_l := gw_t 0 (by decide +kernel) rfl
theorem wd_1 : Cond.initialized "HingeTables" ∈ gw_l := gw_t 1 (by decide +kernel) rfl
theorem wd_2 : Cond.initialized "HingeTables$Text" ∈ gw_l := gw_t 2 (by decide +kernel) rfl
theorem wd_3 : Cond.initialized "HingeTables$Door" ∈ gw_l := gw_t 3 (by decide +kernel) rfl
theorem wd_4 : Cond.initialized "HingeTables$Holes" ∈ gw_l := gw_t 4 (by decide +kernel) rfl
theorem wd_5 : Cond.initialized "HingeTables$Table" ∈ gw_l := gw_t 5 (by decide +kernel) rfl
theorem wd_6 : Cond.initialized "HingeTablesModel" ∈ gw_l := gw_t 6 (by decide +kernel) rfl
theorem wd_7 : Cond.initialized "java/lang/Throwable" ∈ gw_l := gw_t 7 (by decide +kernel) rfl
theorem wd_8 : Cond.initialized "java/lang/Exception" ∈ gw_l := gw_t 8 (by decide +kernel) rfl
theorem wd_9 : Cond.initialized "java/lang/RuntimeException" ∈ gw_l := gw_t 9 (by decide +kernel) rfl
theorem wd_10 : Cond.initialized "java/lang/IllegalStateException" ∈ gw_l := gw_t 10 (by decide +kernel) rfl
theorem wd_11 : Cond.initialized "java/lang/IndexOutOfBoundsException" ∈ gw_l := gw_t 11 (by decide +kernel) rfl
theorem wd_12 : Cond.initialized "java/lang/IllegalArgumentException" ∈ gw_l := gw_t 12 (by decide +kernel) rfl
theorem wd_13 : Cond.initialized "java/lang/Math" ∈ gw_l := gw_t 13 (by decide +kernel) rfl
theorem wd_14 : Cond.classLink "HingeTablesLaw" 8 "HingeTables" ∈ gw_l := gw_t 14 (by decide +kernel) rfl
theorem wd_15 : Cond.instantiable "HingeTables" 5 ∈ gw_l := gw_t 15 (by decide +kernel) rfl
theorem wd_16 : Cond.methodLink "HingeTablesLaw" 72 my_K_init ∈ gw_l := gw_t 16 (by decide +kernel) rfl
theorem wd_17 : Cond.instanceMethod my_K_init ∈ gw_l := gw_t 17 (by decide +kernel) rfl
theorem wd_18 : Cond.code my_K_init mb_K_init 1 none ∈ gw_l := gw_t 18 (by decide +kernel) rfl
theorem wd_19 : Cond.methodLink "HingeTables" 1 ⟨"java/lang/Object", "<init>", "()V"⟩ ∈ gw_l := gw_t 19 (by decide +kernel) rfl
theorem wd_20 : Cond.instanceMethod ⟨"java/lang/Object", "<init>", "()V"⟩ ∈ gw_l := gw_t 20 (by decide +kernel) rfl
theorem wd_22 : Cond.classLink "HingeTables" 7 "HingeTables$Text" ∈ gw_l := gw_t 22 (by decide +kernel) rfl
theorem wd_23 : Cond.instantiable "HingeTables$Text" 2 ∈ gw_l := gw_t 23 (by decide +kernel) rfl
theorem wd_25 : Cond.instanceMethod my_S_init ∈ gw_l := gw_t 25 (by decide +kernel) rfl
theorem wd_26 : Cond.code my_S_init mb_S_init 1 none ∈ gw_l := gw_t 26 (by decide +kernel) rfl
theorem wd_27 : Cond.methodLink "HingeTables$Text" 3 ⟨"java/lang/Object", "<init>", "()V"⟩ ∈ gw_l := gw_t 27 (by decide +kernel) rfl
theorem wd_28 : Cond.fieldLink "HingeTables$Text" 9 "HingeTables$Text" "characters" "[C" ∈ gw_l := gw_t 28 (by decide +kernel) rfl
theorem wd_29 : Cond.fieldLink "HingeTables$Text" 15 "HingeTables$Text" "length" "I" ∈ gw_l := gw_t 29 (by decide +kernel) rfl
theorem wd_30 : Cond.laysFinal "HingeTables$Text" "HingeTables$Text" "characters" "[C" ∈ gw_l := gw_t 30 (by decide +kernel) rfl
theorem wd_32 : Cond.lays "HingeTables$Text" "HingeTables$Text" "length" "I" ∈ gw_l := gw_t 32 (by decide +kernel) rfl
theorem wd_35 : Cond.arrayClass .char ∈ gw_l := gw_t 35 (by decide +kernel) rfl
theorem wd_36 : Cond.classLink "HingeTables" 16 "HingeTables$Door" ∈ gw_l := gw_t 36 (by decide +kernel) rfl
theorem wd_37 : Cond.instantiable "HingeTables$Door" 4 ∈ gw_l := gw_t 37 (by decide +kernel) rfl
theorem wd_39 : Cond.instanceMethod my_D_init ∈ gw_l := gw_t 39 (by decide +kernel) rfl
theorem wd_40 : Cond.code my_D_init mb_D_init 1 none ∈ gw_l := gw_t 40 (by decide +kernel) rfl
theorem wd_41 : Cond.methodLink "HingeTables$Door" 3 ⟨"java/lang/Object", "<init>", "()V"⟩ ∈ gw_l := gw_t 41 (by decide +kernel) rfl
theorem wd_42 : Cond.constantLong "HingeTables$Door" 9 400 ∈ gw_l := gw_t 42 (by decide +kernel) rfl
theorem wd_43 : Cond.constantLong "HingeTables$Door" 17 700 ∈ gw_l := gw_t 43 (by decide +kernel) rfl
theorem wd_44 : Cond.constantLong "HingeTables$Door" 22 19 ∈ gw_l := gw_t 44 (by decide +kernel) rfl
theorem wd_45 : Cond.fieldLink "HingeTables$Door" 11 "HingeTables$Door" "width" "J" ∈ gw_l := gw_t 45 (by decide +kernel) rfl
theorem wd_46 : Cond.fieldLink "HingeTables$Door" 19 "HingeTables$Door" "height" "J" ∈ gw_l := gw_t 46 (by decide +kernel) rfl
theorem wd_49 : Cond.fieldLink "HingeTables$Door" 24 "HingeTables$Door" "thickness" "J" ∈ gw_l := gw_t 49 (by decide +kernel) rfl
theorem wd_50 : Cond.fieldLink "HingeTables$Door" 27 "HingeTables$Door" "heaviness" "J" ∈ gw_l := gw_t 50 (by decide +kernel) rfl
theorem wd_51 : Cond.lays "HingeTables$Door" "HingeTables$Door" "width" "J" ∈ gw_l := gw_t 51 (by decide +kernel) rfl
theorem wd_53 : Cond.lays "HingeTables$Door" "HingeTables$Door" "height" "J" ∈ gw_l := gw_t 53 (by decide +kernel) rfl
theorem wd_55 : Cond.lays "HingeTables$Door" "HingeTables$Door" "thickness" "J" ∈ gw_l := gw_t 55 (by decide +kernel) rfl
theorem wd_57 : Cond.lays "HingeTables$Door" "HingeTables$Door" "heaviness" "J" ∈ gw_l := gw_t 57 (by decide +kernel) rfl
theorem wd_60 : Cond.classLink "HingeTables" 23 "HingeTables$Holes" ∈ gw_l := gw_t 60 (by decide +kernel) rfl
theorem wd_61 : Cond.instantiable "HingeTables$Holes" 3 ∈ gw_l := gw_t 61 (by decide +kernel) rfl
theorem wd_63 : Cond.instanceMethod my_H_init ∈ gw_l := gw_t 63 (by decide +kernel) rfl
theorem wd_64 : Cond.code my_H_init mb_H_init 1 none ∈ gw_l := gw_t 64 (by decide +kernel) rfl
theorem wd_65 : Cond.methodLink "HingeTables$Holes" 3 ⟨"java/lang/Object", "<init>", "()V"⟩ ∈ gw_l := gw_t 65 (by decide +kernel) rfl
theorem wd_66 : Cond.fieldLink "HingeTables$Holes" 9 "HingeTables$Holes" "xs" "[I" ∈ gw_l := gw_t 66 (by decide +kernel) rfl
theorem wd_67 : Cond.fieldLink "HingeTables$Holes" 15 "HingeTables$Holes" "ys" "[I" ∈ gw_l := gw_t 67 (by decide +kernel) rfl
theorem wd_68 : Cond.fieldLink "HingeTables$Holes" 18 "HingeTables$Holes" "radii" "[I" ∈ gw_l := gw_t 68 (by decide +kernel) rfl
theorem wd_69 : Cond.laysFinal "HingeTables$Holes" "HingeTables$Holes" "xs" "[I" ∈ gw_l := gw_t 69 (by decide +kernel) rfl
theorem wd_71 : Cond.laysFinal "HingeTables$Holes" "HingeTables$Holes" "ys" "[I" ∈ gw_l := gw_t 71 (by decide +kernel) rfl
theorem wd_73 : Cond.laysFinal "HingeTables$Holes" "HingeTables$Holes" "radii" "[I" ∈ gw_l := gw_t 73 (by decide +kernel) rfl
theorem wd_76 : Cond.arrayClass .int ∈ gw_l := gw_t 76 (by decide +kernel) rfl
theorem wd_77 : Cond.classLink "HingeTables" 30 "HingeTables$Table" ∈ gw_l := gw_t 77 (by decide +kernel) rfl
theorem wd_78 : Cond.instantiable "HingeTables$Table" 4 ∈ gw_l := gw_t 78 (by decide +kernel) rfl
theorem wd_80 : Cond.instanceMethod my_T_init ∈ gw_l := gw_t 80 (by decide +kernel) rfl
theorem wd_81 : Cond.code my_T_init mb_T_init 1 none ∈ gw_l := gw_t 81 (by decide +kernel) rfl
theorem wd_82 : Cond.methodLink "HingeTables$Table" 3 ⟨"java/lang/Object", "<init>", "()V"⟩ ∈ gw_l := gw_t 82 (by decide +kernel) rfl
theorem wd_83 : Cond.fieldLink "HingeTables$Table" 9 "HingeTables$Table" "letters" "[C" ∈ gw_l := gw_t 83 (by decide +kernel) rfl
theorem wd_84 : Cond.fieldLink "HingeTables$Table" 15 "HingeTables$Table" "numbers" "[I" ∈ gw_l := gw_t 84 (by decide +kernel) rfl
theorem wd_85 : Cond.fieldLink "HingeTables$Table" 19 "HingeTables$Table" "stocks" "[I" ∈ gw_l := gw_t 85 (by decide +kernel) rfl
theorem wd_86 : Cond.fieldLink "HingeTables$Table" 22 "HingeTables$Table" "size" "I" ∈ gw_l := gw_t 86 (by decide +kernel) rfl
theorem wd_88 : Cond.laysFinal "HingeTables$Table" "HingeTables$Table" "letters" "[C" ∈ gw_l := gw_t 88 (by decide +kernel) rfl
theorem wd_90 : Cond.laysFinal "HingeTables$Table" "HingeTables$Table" "numbers" "[I" ∈ gw_l := gw_t 90 (by decide +kernel) rfl
theorem wd_92 : Cond.laysFinal "HingeTables$Table" "HingeTables$Table" "stocks" "[I" ∈ gw_l := gw_t 92 (by decide +kernel) rfl
theorem wd_94 : Cond.lays "HingeTables$Table" "HingeTables$Table" "size" "I" ∈ gw_l := gw_t 94 (by decide +kernel) rfl
theorem wd_97 : Cond.fieldLink "HingeTables" 10 "HingeTables" "text" "LHingeTables$Text;" ∈ gw_l := gw_t 97 (by decide +kernel) rfl
theorem wd_98 : Cond.fieldLink "HingeTables" 19 "HingeTables" "ownDoor" "LHingeTables$Door;" ∈ gw_l := gw_t 98 (by decide +kernel) rfl
theorem wd_99 : Cond.fieldLink "HingeTables" 26 "HingeTables" "holes" "LHingeTables$Holes;" ∈ gw_l := gw_t 99 (by decide +kernel) rfl
theorem wd_100 : Cond.fieldLink "HingeTables" 33 "HingeTables" "table" "LHingeTables$Table;" ∈ gw_l := gw_t 100 (by decide +kernel) rfl
theorem wd_101 : Cond.fieldLink "HingeTables" 37 "HingeTables" "spare" "LHingeTables$Table;" ∈ gw_l := gw_t 101 (by decide +kernel) rfl
theorem wd_102 : Cond.laysFinal "HingeTables" "HingeTables" "text" "LHingeTables$Text;" ∈ gw_l := gw_t 102 (by decide +kernel) rfl
theorem wd_104 : Cond.laysFinal "HingeTables" "HingeTables" "ownDoor" "LHingeTables$Door;" ∈ gw_l := gw_t 104 (by decide +kernel) rfl
theorem wd_106 : Cond.laysFinal "HingeTables" "HingeTables" "holes" "LHingeTables$Holes;" ∈ gw_l := gw_t 106 (by decide +kernel) rfl
theorem wd_108 : Cond.lays "HingeTables" "HingeTables" "table" "LHingeTables$Table;" ∈ gw_l := gw_t 108 (by decide +kernel) rfl
theorem wd_110 : Cond.lays "HingeTables" "HingeTables" "spare" "LHingeTables$Table;" ∈ gw_l := gw_t 110 (by decide +kernel) rfl
theorem wd_113 : Cond.methodLink "HingeTablesLaw" 76 my_K_unit ∈ gw_l := gw_t 113 (by decide +kernel) rfl
theorem wd_114 : Cond.instanceMethod my_K_unit ∈ gw_l := gw_t 114 (by decide +kernel) rfl
theorem wd_115 : Cond.selects "HingeTables" my_K_unit my_K_unit ∈ gw_l := gw_t 115 (by decide +kernel) rfl
theorem wd_116 : Cond.code my_K_unit mb_K_unit 2 (some .boolean) ∈ gw_l := gw_t 116 (by decide +kernel) rfl
theorem wd_117 : Cond.methodLink "HingeTables" 40 my_S_add ∈ gw_l := gw_t 117 (by decide +kernel) rfl
theorem wd_118 : Cond.instanceMethod my_S_add ∈ gw_l := gw_t 118 (by decide +kernel) rfl
theorem wd_119 : Cond.selects "HingeTables$Text" my_S_add my_S_add ∈ gw_l := gw_t 119 (by decide +kernel) rfl
theorem wd_120 : Cond.code my_S_add mb_S_add 2 (some .boolean) ∈ gw_l := gw_t 120 (by decide +kernel) rfl
theorem wd_121 : Cond.methodLink "HingeTablesLaw" 81 my_K_read ∈ gw_l := gw_t 121 (by decide +kernel) rfl
theorem wd_122 : Cond.instanceMethod my_K_read ∈ gw_l := gw_t 122 (by decide +kernel) rfl
theorem wd_123 : Cond.selects "HingeTables" my_K_read my_K_read ∈ gw_l := gw_t 123 (by decide +kernel) rfl
theorem wd_124 : Cond.code my_K_read mb_K_read 3 (some .int) ∈ gw_l := gw_t 124 (by decide +kernel) rfl
theorem wd_125 : Cond.methodLink "HingeTables" 44 my_T_fill ∈ gw_l := gw_t 125 (by decide +kernel) rfl
theorem wd_126 : Cond.instanceMethod my_T_fill ∈ gw_l := gw_t 126 (by decide +kernel) rfl
theorem wd_127 : Cond.selects "HingeTables$Table" my_T_fill my_T_fill ∈ gw_l := gw_t 127 (by decide +kernel) rfl
theorem wd_128 : Cond.code my_T_fill mb_T_fill 4 (some .int) ∈ gw_l := gw_t 128 (by decide +kernel) rfl
theorem wd_129 : Cond.methodLink "HingeTables$Table" 26 my_S_endsAt ∈ gw_l := gw_t 129 (by decide +kernel) rfl
theorem wd_130 : Cond.instanceMethod my_S_endsAt ∈ gw_l := gw_t 130 (by decide +kernel) rfl
theorem wd_131 : Cond.selects "HingeTables$Text" my_S_endsAt my_S_endsAt ∈ gw_l := gw_t 131 (by decide +kernel) rfl
theorem wd_132 : Cond.code my_S_endsAt mb_S_endsAt 2 (some .boolean) ∈ gw_l := gw_t 132 (by decide +kernel) rfl
theorem wd_133 : Cond.methodLink "HingeTables$Table" 32 my_T_finish ∈ gw_l := gw_t 133 (by decide +kernel) rfl
theorem wd_135 : Cond.instanceMethod my_T_finish ∈ gw_l := gw_t 135 (by decide +kernel) rfl
theorem wd_136 : Cond.code my_T_finish mb_T_finish 3 (some .int) ∈ gw_l := gw_t 136 (by decide +kernel) rfl
theorem wd_137 : Cond.methodLink "HingeTables$Table" 36 my_S_at ∈ gw_l := gw_t 137 (by decide +kernel) rfl
theorem wd_138 : Cond.instanceMethod my_S_at ∈ gw_l := gw_t 138 (by decide +kernel) rfl
theorem wd_139 : Cond.selects "HingeTables$Text" my_S_at my_S_at ∈ gw_l := gw_t 139 (by decide +kernel) rfl
theorem wd_140 : Cond.code my_S_at mb_S_at 2 (some .char) ∈ gw_l := gw_t 140 (by decide +kernel) rfl
theorem wd_141 : Cond.methodLink "HingeTables$Table" 40 my_T_fault ∈ gw_l := gw_t 141 (by decide +kernel) rfl
theorem wd_142 : Cond.static my_T_fault ∈ gw_l := gw_t 142 (by decide +kernel) rfl
theorem wd_143 : Cond.code my_T_fault mb_T_fault 1 (some .int) ∈ gw_l := gw_t 143 (by decide +kernel) rfl
theorem wd_144 : Cond.methodLink "HingeTables$Table" 43 my_T_fillRow ∈ gw_l := gw_t 144 (by decide +kernel) rfl
theorem wd_146 : Cond.instanceMethod my_T_fillRow ∈ gw_l := gw_t 146 (by decide +kernel) rfl
theorem wd_147 : Cond.code my_T_fillRow mb_T_fillRow 8 (some .int) ∈ gw_l := gw_t 147 (by decide +kernel) rfl
theorem wd_149 : Cond.static my_K_numbersBehind ∈ gw_l := gw_t 149 (by decide +kernel) rfl
theorem wd_150 : Cond.code my_K_numbersBehind mb_K_numbersBehind 1 (some .int) ∈ gw_l := gw_t 150 (by decide +kernel) rfl
theorem wd_151 : Cond.methodLink "HingeTables$Table" 51 my_T_fillNumber ∈ gw_l := gw_t 151 (by decide +kernel) rfl
theorem wd_153 : Cond.instanceMethod my_T_fillNumber ∈ gw_l := gw_t 153 (by decide +kernel) rfl
theorem wd_154 : Cond.code my_T_fillNumber mb_T_fillNumber 8 (some .int) ∈ gw_l := gw_t 154 (by decide +kernel) rfl
theorem wd_155 : Cond.methodLink "HingeTables$Table" 55 my_T_isDigit ∈ gw_l := gw_t 155 (by decide +kernel) rfl
theorem wd_156 : Cond.static my_T_isDigit ∈ gw_l := gw_t 156 (by decide +kernel) rfl
theorem wd_157 : Cond.code my_T_isDigit mb_T_isDigit 1 (some .boolean) ∈ gw_l := gw_t 157 (by decide +kernel) rfl
theorem wd_158 : Cond.methodLink "HingeTables$Table" 59 my_T_mayStand ∈ gw_l := gw_t 158 (by decide +kernel) rfl
theorem wd_160 : Cond.instanceMethod my_T_mayStand ∈ gw_l := gw_t 160 (by decide +kernel) rfl
theorem wd_161 : Cond.code my_T_mayStand mb_T_mayStand 4 (some .boolean) ∈ gw_l := gw_t 161 (by decide +kernel) rfl
theorem wd_162 : Cond.methodLink "HingeTables$Table" 63 my_T_number ∈ gw_l := gw_t 162 (by decide +kernel) rfl
theorem wd_163 : Cond.instanceMethod my_T_number ∈ gw_l := gw_t 163 (by decide +kernel) rfl
theorem wd_164 : Cond.selects "HingeTables$Table" my_T_number my_T_number ∈ gw_l := gw_t 164 (by decide +kernel) rfl
theorem wd_165 : Cond.code my_T_number mb_T_number 3 (some .int) ∈ gw_l := gw_t 165 (by decide +kernel) rfl
theorem wd_166 : Cond.methodLink "HingeTables" 48 my_S_clear ∈ gw_l := gw_t 166 (by decide +kernel) rfl
theorem wd_167 : Cond.instanceMethod my_S_clear ∈ gw_l := gw_t 167 (by decide +kernel) rfl
theorem wd_168 : Cond.selects "HingeTables$Text" my_S_clear my_S_clear ∈ gw_l := gw_t 168 (by decide +kernel) rfl
theorem wd_169 : Cond.code my_S_clear mb_S_clear 1 none ∈ gw_l := gw_t 169 (by decide +kernel) rfl
theorem wd_170 : Cond.methodLink "HingeTablesLaw" 85 my_L_row ∈ gw_l := gw_t 170 (by decide +kernel) rfl
theorem wd_171 : Cond.static my_L_row ∈ gw_l := gw_t 171 (by decide +kernel) rfl
theorem wd_173 : Cond.classLink "HingeTablesLaw" 13 "java/lang/IllegalStateException" ∈ gw_l := gw_t 173 (by decide +kernel) rfl
theorem wd_174 : Cond.classLink "HingeTablesLaw" 15 "java/lang/IndexOutOfBoundsException" ∈ gw_l := gw_t 174 (by decide +kernel) rfl
theorem wd_175 : Cond.methodLink "HingeTablesLaw" 7 my_K_row ∈ gw_l := gw_t 175 (by decide +kernel) rfl
theorem wd_176 : Cond.instanceMethod my_K_row ∈ gw_l := gw_t 176 (by decide +kernel) rfl
theorem wd_177 : Cond.selects "HingeTables" my_K_row my_K_row ∈ gw_l := gw_t 177 (by decide +kernel) rfl
theorem wd_178 : Cond.code my_K_row mb_K_row 3 (some .int) ∈ gw_l := gw_t 178 (by decide +kernel) rfl
theorem wd_179 : Cond.methodLink "HingeTables" 51 my_K_needTable ∈ gw_l := gw_t 179 (by decide +kernel) rfl
theorem wd_181 : Cond.instanceMethod my_K_needTable ∈ gw_l := gw_t 181 (by decide +kernel) rfl
theorem wd_182 : Cond.code my_K_needTable mb_K_needTable 1 none ∈ gw_l := gw_t 182 (by decide +kernel) rfl
theorem wd_183 : Cond.classLink "HingeTables" 128 "java/lang/IllegalStateException" ∈ gw_l := gw_t 183 (by decide +kernel) rfl
theorem wd_184 : Cond.instantiable "java/lang/IllegalStateException" 6 ∈ gw_l := gw_t 184 (by decide +kernel) rfl
theorem wd_192 : Cond.selects "java/lang/IllegalStateException" ⟨"java/lang/Throwable", "fillInStackTrace", "(I)Ljava/lang/Throwable;"⟩ ⟨"java/lang/Throwable", "fillInStackTrace", "(I)Ljava/lang/Throwable;"⟩ ∈ gw_l := gw_t 192 (by decide +kernel) rfl
theorem wd_193 : Cond.selects "java/lang/IllegalStateException" ⟨"java/lang/Throwable", "fillInStackTrace", "()Ljava/lang/Throwable;"⟩ ⟨"java/lang/Throwable", "fillInStackTrace", "()Ljava/lang/Throwable;"⟩ ∈ gw_l := gw_t 193 (by decide +kernel) rfl
theorem wd_194 : Cond.lays "java/lang/IllegalStateException" "java/lang/Throwable" "cause" "Ljava/lang/Throwable;" ∈ gw_l := gw_t 194 (by decide +kernel) rfl
theorem wd_195 : Cond.lays "java/lang/Throwable" "java/lang/Throwable" "cause" "Ljava/lang/Throwable;" ∈ gw_l := gw_t 195 (by decide +kernel) rfl
theorem wd_196 : Cond.lays "java/lang/IllegalStateException" "java/lang/Throwable" "stackTrace" "[Ljava/lang/StackTraceElement;" ∈ gw_l := gw_t 196 (by decide +kernel) rfl
theorem wd_197 : Cond.lays "java/lang/Throwable" "java/lang/Throwable" "stackTrace" "[Ljava/lang/StackTraceElement;" ∈ gw_l := gw_t 197 (by decide +kernel) rfl
theorem wd_198 : Cond.lays "java/lang/IllegalStateException" "java/lang/Throwable" "suppressedExceptions" "Ljava/util/List;" ∈ gw_l := gw_t 198 (by decide +kernel) rfl
theorem wd_199 : Cond.lays "java/lang/Throwable" "java/lang/Throwable" "suppressedExceptions" "Ljava/util/List;" ∈ gw_l := gw_t 199 (by decide +kernel) rfl
theorem wd_200 : Cond.lays "java/lang/IllegalStateException" "java/lang/Throwable" "detailMessage" "Ljava/lang/String;" ∈ gw_l := gw_t 200 (by decide +kernel) rfl
theorem wd_201 : Cond.lays "java/lang/Throwable" "java/lang/Throwable" "detailMessage" "Ljava/lang/String;" ∈ gw_l := gw_t 201 (by decide +kernel) rfl
theorem wd_202 : Cond.lays "java/lang/IllegalStateException" "java/lang/Throwable" "backtrace" "Ljava/lang/Object;" ∈ gw_l := gw_t 202 (by decide +kernel) rfl
theorem wd_203 : Cond.lays "java/lang/Throwable" "java/lang/Throwable" "backtrace" "Ljava/lang/Object;" ∈ gw_l := gw_t 203 (by decide +kernel) rfl
theorem wd_204 : Cond.fieldLink "java/lang/Throwable" 198 "java/lang/Throwable" "backtrace" "Ljava/lang/Object;" ∈ gw_l := gw_t 204 (by decide +kernel) rfl
theorem wd_206 : Cond.instanceMethod ⟨"java/lang/Throwable", "<init>", "()V"⟩ ∈ gw_l := gw_t 206 (by decide +kernel) rfl
theorem wd_208 : Cond.methodLink "java/lang/Throwable" 1 ⟨"java/lang/Object", "<init>", "()V"⟩ ∈ gw_l := gw_t 208 (by decide +kernel) rfl
theorem wd_209 : Cond.fieldLink "java/lang/Throwable" 13 "java/lang/Throwable" "UNASSIGNED_STACK" "[Ljava/lang/StackTraceElement;" ∈ gw_l := gw_t 209 (by decide +kernel) rfl
theorem wd_211 : Cond.fieldLink "java/lang/Throwable" 20 "java/lang/Throwable" "SUPPRESSED_SENTINEL" "Ljava/util/List;" ∈ gw_l := gw_t 211 (by decide +kernel) rfl
theorem wd_213 : Cond.methodLink "java/lang/Throwable" 27 ⟨"java/lang/Throwable", "fillInStackTrace", "()Ljava/lang/Throwable;"⟩ ∈ gw_l := gw_t 213 (by decide +kernel) rfl
theorem wd_214 : Cond.instanceMethod ⟨"java/lang/Throwable", "fillInStackTrace", "()Ljava/lang/Throwable;"⟩ ∈ gw_l := gw_t 214 (by decide +kernel) rfl
theorem wd_216 : Cond.selects "java/lang/IllegalArgumentException" ⟨"java/lang/Throwable", "fillInStackTrace", "()Ljava/lang/Throwable;"⟩ ⟨"java/lang/Throwable", "fillInStackTrace", "()Ljava/lang/Throwable;"⟩ ∈ gw_l := gw_t 216 (by decide +kernel) rfl
theorem wd_217 : Cond.selects "java/lang/IndexOutOfBoundsException" ⟨"java/lang/Throwable", "fillInStackTrace", "()Ljava/lang/Throwable;"⟩ ⟨"java/lang/Throwable", "fillInStackTrace", "()Ljava/lang/Throwable;"⟩ ∈ gw_l := gw_t 217 (by decide +kernel) rfl
theorem wd_219 : Cond.methodLink "java/lang/Throwable" 202 ⟨"java/lang/Throwable", "fillInStackTrace", "(I)Ljava/lang/Throwable;"⟩ ∈ gw_l := gw_t 219 (by decide +kernel) rfl
theorem wd_221 : Cond.instanceMethod ⟨"java/lang/Throwable", "fillInStackTrace", "(I)Ljava/lang/Throwable;"⟩ ∈ gw_l := gw_t 221 (by decide +kernel) rfl
theorem wd_222 : Cond.instantiable "java/lang/Throwable" 6 ∈ gw_l := gw_t 222 (by decide +kernel) rfl
theorem wd_225 : Cond.methodLink "HingeTables" 132 ⟨"java/lang/IllegalStateException", "<init>", "(Ljava/lang/String;)V"⟩ ∈ gw_l := gw_t 225 (by decide +kernel) rfl
theorem wd_226 : Cond.instanceMethod ⟨"java/lang/IllegalStateException", "<init>", "(Ljava/lang/String;)V"⟩ ∈ gw_l := gw_t 226 (by decide +kernel) rfl
theorem wd_228 : Cond.methodLink "java/lang/IllegalStateException" 7 ⟨"java/lang/RuntimeException", "<init>", "(Ljava/lang/String;)V"⟩ ∈ gw_l := gw_t 228 (by decide +kernel) rfl
theorem wd_229 : Cond.instanceMethod ⟨"java/lang/RuntimeException", "<init>", "(Ljava/lang/String;)V"⟩ ∈ gw_l := gw_t 229 (by decide +kernel) rfl
theorem wd_231 : Cond.methodLink "java/lang/RuntimeException" 7 ⟨"java/lang/Exception", "<init>", "(Ljava/lang/String;)V"⟩ ∈ gw_l := gw_t 231 (by decide +kernel) rfl
theorem wd_232 : Cond.instanceMethod ⟨"java/lang/Exception", "<init>", "(Ljava/lang/String;)V"⟩ ∈ gw_l := gw_t 232 (by decide +kernel) rfl
theorem wd_234 : Cond.methodLink "java/lang/Exception" 7 ⟨"java/lang/Throwable", "<init>", "(Ljava/lang/String;)V"⟩ ∈ gw_l := gw_t 234 (by decide +kernel) rfl
theorem wd_235 : Cond.instanceMethod ⟨"java/lang/Throwable", "<init>", "(Ljava/lang/String;)V"⟩ ∈ gw_l := gw_t 235 (by decide +kernel) rfl
theorem wd_237 : Cond.fieldLink "java/lang/Throwable" 198 "java/lang/Throwable" "backtrace" "Ljava/lang/Object;" ∈ gw_l := gw_t 237 (by decide +kernel) rfl
theorem wd_238 : Cond.fieldLink "java/lang/Throwable" 31 "java/lang/Throwable" "detailMessage" "Ljava/lang/String;" ∈ gw_l := gw_t 238 (by decide +kernel) rfl
theorem wd_239 : Cond.fieldLink "java/lang/Throwable" 7 "java/lang/Throwable" "cause" "Ljava/lang/Throwable;" ∈ gw_l := gw_t 239 (by decide +kernel) rfl
theorem wd_240 : Cond.fieldLink "java/lang/Throwable" 17 "java/lang/Throwable" "stackTrace" "[Ljava/lang/StackTraceElement;" ∈ gw_l := gw_t 240 (by decide +kernel) rfl
theorem wd_241 : Cond.fieldLink "java/lang/Throwable" 24 "java/lang/Throwable" "suppressedExceptions" "Ljava/util/List;" ∈ gw_l := gw_t 241 (by decide +kernel) rfl
theorem wd_246 : Cond.lays "java/lang/IllegalStateException" "java/lang/Throwable" "depth" "I" ∈ gw_l := gw_t 246 (by decide +kernel) rfl
theorem wd_250 : Cond.arrayClass .byte ∈ gw_l := gw_t 250 (by decide +kernel) rfl
theorem wd_251 : Cond.methodLink "HingeTables" 54 my_K_needRow ∈ gw_l := gw_t 251 (by decide +kernel) rfl
theorem wd_253 : Cond.instanceMethod my_K_needRow ∈ gw_l := gw_t 253 (by decide +kernel) rfl
theorem wd_254 : Cond.code my_K_needRow mb_K_needRow 2 none ∈ gw_l := gw_t 254 (by decide +kernel) rfl
theorem wd_255 : Cond.classLink "HingeTables" 66 "java/lang/IndexOutOfBoundsException" ∈ gw_l := gw_t 255 (by decide +kernel) rfl
theorem wd_256 : Cond.instantiable "java/lang/IndexOutOfBoundsException" 6 ∈ gw_l := gw_t 256 (by decide +kernel) rfl
theorem wd_258 : Cond.selects "java/lang/IndexOutOfBoundsException" ⟨"java/lang/Throwable", "fillInStackTrace", "(I)Ljava/lang/Throwable;"⟩ ⟨"java/lang/Throwable", "fillInStackTrace", "(I)Ljava/lang/Throwable;"⟩ ∈ gw_l := gw_t 258 (by decide +kernel) rfl
theorem wd_259 : Cond.lays "java/lang/IndexOutOfBoundsException" "java/lang/Throwable" "cause" "Ljava/lang/Throwable;" ∈ gw_l := gw_t 259 (by decide +kernel) rfl
theorem wd_260 : Cond.lays "java/lang/IndexOutOfBoundsException" "java/lang/Throwable" "stackTrace" "[Ljava/lang/StackTraceElement;" ∈ gw_l := gw_t 260 (by decide +kernel) rfl
theorem wd_261 : Cond.lays "java/lang/IndexOutOfBoundsException" "java/lang/Throwable" "suppressedExceptions" "Ljava/util/List;" ∈ gw_l := gw_t 261 (by decide +kernel) rfl
theorem wd_262 : Cond.lays "java/lang/IndexOutOfBoundsException" "java/lang/Throwable" "detailMessage" "Ljava/lang/String;" ∈ gw_l := gw_t 262 (by decide +kernel) rfl
theorem wd_263 : Cond.lays "java/lang/IndexOutOfBoundsException" "java/lang/Throwable" "backtrace" "Ljava/lang/Object;" ∈ gw_l := gw_t 263 (by decide +kernel) rfl
theorem wd_265 : Cond.methodLink "HingeTables" 70 ⟨"java/lang/IndexOutOfBoundsException", "<init>", "(Ljava/lang/String;)V"⟩ ∈ gw_l := gw_t 265 (by decide +kernel) rfl
theorem wd_266 : Cond.instanceMethod ⟨"java/lang/IndexOutOfBoundsException", "<init>", "(Ljava/lang/String;)V"⟩ ∈ gw_l := gw_t 266 (by decide +kernel) rfl
theorem wd_268 : Cond.methodLink "java/lang/IndexOutOfBoundsException" 7 ⟨"java/lang/RuntimeException", "<init>", "(Ljava/lang/String;)V"⟩ ∈ gw_l := gw_t 268 (by decide +kernel) rfl
theorem wd_269 : Cond.lays "java/lang/IndexOutOfBoundsException" "java/lang/Throwable" "depth" "I" ∈ gw_l := gw_t 269 (by decide +kernel) rfl
theorem wd_271 : Cond.methodLink "HingeTables" 58 my_T_letter ∈ gw_l := gw_t 271 (by decide +kernel) rfl
theorem wd_272 : Cond.instanceMethod my_T_letter ∈ gw_l := gw_t 272 (by decide +kernel) rfl
theorem wd_273 : Cond.selects "HingeTables$Table" my_T_letter my_T_letter ∈ gw_l := gw_t 273 (by decide +kernel) rfl
theorem wd_274 : Cond.code my_T_letter mb_T_letter 2 (some .char) ∈ gw_l := gw_t 274 (by decide +kernel) rfl
theorem wd_275 : Cond.methodLink "HingeTables" 62 my_K_numbersBehind ∈ gw_l := gw_t 275 (by decide +kernel) rfl
theorem wd_277 : Cond.methodLink "HingeTables" 73 my_T_number ∈ gw_l := gw_t 277 (by decide +kernel) rfl
theorem wd_278 : Cond.methodLink "HingeTablesLaw" 91 my_L_stock ∈ gw_l := gw_t 278 (by decide +kernel) rfl
theorem wd_279 : Cond.static my_L_stock ∈ gw_l := gw_t 279 (by decide +kernel) rfl
theorem wd_281 : Cond.classLink "HingeTablesLaw" 21 "java/lang/IllegalArgumentException" ∈ gw_l := gw_t 281 (by decide +kernel) rfl
theorem wd_282 : Cond.methodLink "HingeTablesLaw" 17 my_K_stock ∈ gw_l := gw_t 282 (by decide +kernel) rfl
theorem wd_283 : Cond.instanceMethod my_K_stock ∈ gw_l := gw_t 283 (by decide +kernel) rfl
theorem wd_284 : Cond.selects "HingeTables" my_K_stock my_K_stock ∈ gw_l := gw_t 284 (by decide +kernel) rfl
theorem wd_285 : Cond.code my_K_stock mb_K_stock 3 (some .boolean) ∈ gw_l := gw_t 285 (by decide +kernel) rfl
theorem wd_286 : Cond.classLink "HingeTables" 77 "java/lang/IllegalArgumentException" ∈ gw_l := gw_t 286 (by decide +kernel) rfl
theorem wd_287 : Cond.instantiable "java/lang/IllegalArgumentException" 6 ∈ gw_l := gw_t 287 (by decide +kernel) rfl
theorem wd_289 : Cond.selects "java/lang/IllegalArgumentException" ⟨"java/lang/Throwable", "fillInStackTrace", "(I)Ljava/lang/Throwable;"⟩ ⟨"java/lang/Throwable", "fillInStackTrace", "(I)Ljava/lang/Throwable;"⟩ ∈ gw_l := gw_t 289 (by decide +kernel) rfl
theorem wd_290 : Cond.lays "java/lang/IllegalArgumentException" "java/lang/Throwable" "cause" "Ljava/lang/Throwable;" ∈ gw_l := gw_t 290 (by decide +kernel) rfl
theorem wd_291 : Cond.lays "java/lang/IllegalArgumentException" "java/lang/Throwable" "stackTrace" "[Ljava/lang/StackTraceElement;" ∈ gw_l := gw_t 291 (by decide +kernel) rfl
theorem wd_292 : Cond.lays "java/lang/IllegalArgumentException" "java/lang/Throwable" "suppressedExceptions" "Ljava/util/List;" ∈ gw_l := gw_t 292 (by decide +kernel) rfl
theorem wd_293 : Cond.lays "java/lang/IllegalArgumentException" "java/lang/Throwable" "detailMessage" "Ljava/lang/String;" ∈ gw_l := gw_t 293 (by decide +kernel) rfl
theorem wd_294 : Cond.lays "java/lang/IllegalArgumentException" "java/lang/Throwable" "backtrace" "Ljava/lang/Object;" ∈ gw_l := gw_t 294 (by decide +kernel) rfl
theorem wd_296 : Cond.methodLink "HingeTables" 81 ⟨"java/lang/IllegalArgumentException", "<init>", "(Ljava/lang/String;)V"⟩ ∈ gw_l := gw_t 296 (by decide +kernel) rfl
theorem wd_297 : Cond.instanceMethod ⟨"java/lang/IllegalArgumentException", "<init>", "(Ljava/lang/String;)V"⟩ ∈ gw_l := gw_t 297 (by decide +kernel) rfl
theorem wd_299 : Cond.methodLink "java/lang/IllegalArgumentException" 7 ⟨"java/lang/RuntimeException", "<init>", "(Ljava/lang/String;)V"⟩ ∈ gw_l := gw_t 299 (by decide +kernel) rfl
theorem wd_300 : Cond.lays "java/lang/IllegalArgumentException" "java/lang/Throwable" "depth" "I" ∈ gw_l := gw_t 300 (by decide +kernel) rfl
theorem wd_302 : Cond.methodLink "HingeTables" 82 my_T_changeStock ∈ gw_l := gw_t 302 (by decide +kernel) rfl
theorem wd_303 : Cond.instanceMethod my_T_changeStock ∈ gw_l := gw_t 303 (by decide +kernel) rfl
theorem wd_304 : Cond.selects "HingeTables$Table" my_T_changeStock my_T_changeStock ∈ gw_l := gw_t 304 (by decide +kernel) rfl
theorem wd_305 : Cond.code my_T_changeStock mb_T_changeStock 4 (some .boolean) ∈ gw_l := gw_t 305 (by decide +kernel) rfl
theorem wd_306 : Cond.methodLink "HingeTablesLaw" 96 my_L_hinge ∈ gw_l := gw_t 306 (by decide +kernel) rfl
theorem wd_307 : Cond.static my_L_hinge ∈ gw_l := gw_t 307 (by decide +kernel) rfl
theorem wd_309 : Cond.methodLink "HingeTablesLaw" 23 my_K_hinge ∈ gw_l := gw_t 309 (by decide +kernel) rfl
theorem wd_310 : Cond.instanceMethod my_K_hinge ∈ gw_l := gw_t 310 (by decide +kernel) rfl
theorem wd_311 : Cond.selects "HingeTables" my_K_hinge my_K_hinge ∈ gw_l := gw_t 311 (by decide +kernel) rfl
theorem wd_312 : Cond.code my_K_hinge mb_K_hinge 6 (some .int) ∈ gw_l := gw_t 312 (by decide +kernel) rfl
theorem wd_313 : Cond.methodLink "HingeTables" 86 my_T_firstHinge ∈ gw_l := gw_t 313 (by decide +kernel) rfl
theorem wd_314 : Cond.instanceMethod my_T_firstHinge ∈ gw_l := gw_t 314 (by decide +kernel) rfl
theorem wd_315 : Cond.selects "HingeTables$Table" my_T_firstHinge my_T_firstHinge ∈ gw_l := gw_t 315 (by decide +kernel) rfl
theorem wd_316 : Cond.code my_T_firstHinge mb_T_firstHinge 7 (some .int) ∈ gw_l := gw_t 316 (by decide +kernel) rfl
theorem wd_317 : Cond.methodLink "HingeTables$Table" 67 my_T_isStocked ∈ gw_l := gw_t 317 (by decide +kernel) rfl
theorem wd_319 : Cond.instanceMethod my_T_isStocked ∈ gw_l := gw_t 319 (by decide +kernel) rfl
theorem wd_320 : Cond.code my_T_isStocked mb_T_isStocked 3 (some .boolean) ∈ gw_l := gw_t 320 (by decide +kernel) rfl
theorem wd_321 : Cond.methodLink "HingeTables$Table" 71 my_T_holds ∈ gw_l := gw_t 321 (by decide +kernel) rfl
theorem wd_323 : Cond.instanceMethod my_T_holds ∈ gw_l := gw_t 323 (by decide +kernel) rfl
theorem wd_324 : Cond.code my_T_holds mb_T_holds 7 (some .boolean) ∈ gw_l := gw_t 324 (by decide +kernel) rfl
theorem wd_325 : Cond.methodLink "HingeTablesLaw" 100 my_L_other ∈ gw_l := gw_t 325 (by decide +kernel) rfl
theorem wd_326 : Cond.static my_L_other ∈ gw_l := gw_t 326 (by decide +kernel) rfl
theorem wd_328 : Cond.methodLink "HingeTablesLaw" 27 my_K_other ∈ gw_l := gw_t 328 (by decide +kernel) rfl
theorem wd_329 : Cond.instanceMethod my_K_other ∈ gw_l := gw_t 329 (by decide +kernel) rfl
theorem wd_330 : Cond.selects "HingeTables" my_K_other my_K_other ∈ gw_l := gw_t 330 (by decide +kernel) rfl
theorem wd_331 : Cond.code my_K_other mb_K_other 3 (some .int) ∈ gw_l := gw_t 331 (by decide +kernel) rfl
theorem wd_334 : Cond.methodLink "HingeTables" 94 my_T_otherHinge ∈ gw_l := gw_t 334 (by decide +kernel) rfl
theorem wd_335 : Cond.instanceMethod my_T_otherHinge ∈ gw_l := gw_t 335 (by decide +kernel) rfl
theorem wd_336 : Cond.selects "HingeTables$Table" my_T_otherHinge my_T_otherHinge ∈ gw_l := gw_t 336 (by decide +kernel) rfl
theorem wd_337 : Cond.code my_T_otherHinge mb_T_otherHinge 5 (some .int) ∈ gw_l := gw_t 337 (by decide +kernel) rfl
theorem wd_338 : Cond.methodLink "HingeTables$Table" 75 my_T_canReplace ∈ gw_l := gw_t 338 (by decide +kernel) rfl
theorem wd_340 : Cond.instanceMethod my_T_canReplace ∈ gw_l := gw_t 340 (by decide +kernel) rfl
theorem wd_341 : Cond.code my_T_canReplace mb_T_canReplace 3 (some .boolean) ∈ gw_l := gw_t 341 (by decide +kernel) rfl
theorem wd_342 : Cond.methodLink "HingeTablesLaw" 103 my_L_slide ∈ gw_l := gw_t 342 (by decide +kernel) rfl
theorem wd_343 : Cond.static my_L_slide ∈ gw_l := gw_t 343 (by decide +kernel) rfl
theorem wd_345 : Cond.methodLink "HingeTablesLaw" 30 my_K_slide ∈ gw_l := gw_t 345 (by decide +kernel) rfl
theorem wd_346 : Cond.instanceMethod my_K_slide ∈ gw_l := gw_t 346 (by decide +kernel) rfl
theorem wd_347 : Cond.selects "HingeTables" my_K_slide my_K_slide ∈ gw_l := gw_t 347 (by decide +kernel) rfl
theorem wd_348 : Cond.code my_K_slide mb_K_slide 3 (some .int) ∈ gw_l := gw_t 348 (by decide +kernel) rfl
theorem wd_349 : Cond.methodLink "HingeTables" 97 my_T_longestSlide ∈ gw_l := gw_t 349 (by decide +kernel) rfl
theorem wd_350 : Cond.instanceMethod my_T_longestSlide ∈ gw_l := gw_t 350 (by decide +kernel) rfl
theorem wd_351 : Cond.selects "HingeTables$Table" my_T_longestSlide my_T_longestSlide ∈ gw_l := gw_t 351 (by decide +kernel) rfl
theorem wd_352 : Cond.code my_T_longestSlide mb_T_longestSlide 5 (some .int) ∈ gw_l := gw_t 352 (by decide +kernel) rfl
theorem wd_353 : Cond.methodLink "HingeTablesLaw" 107 my_L_door ∈ gw_l := gw_t 353 (by decide +kernel) rfl
theorem wd_354 : Cond.static my_L_door ∈ gw_l := gw_t 354 (by decide +kernel) rfl
theorem wd_356 : Cond.methodLink "HingeTablesLaw" 34 my_K_door ∈ gw_l := gw_t 356 (by decide +kernel) rfl
theorem wd_357 : Cond.instanceMethod my_K_door ∈ gw_l := gw_t 357 (by decide +kernel) rfl
theorem wd_358 : Cond.selects "HingeTables" my_K_door my_K_door ∈ gw_l := gw_t 358 (by decide +kernel) rfl
theorem wd_359 : Cond.code my_K_door mb_K_door 9 (some .boolean) ∈ gw_l := gw_t 359 (by decide +kernel) rfl
theorem wd_360 : Cond.methodLink "HingeTables" 101 my_K_isOfDoor ∈ gw_l := gw_t 360 (by decide +kernel) rfl
theorem wd_361 : Cond.static my_K_isOfDoor ∈ gw_l := gw_t 361 (by decide +kernel) rfl
theorem wd_362 : Cond.code my_K_isOfDoor mb_K_isOfDoor 2 (some .boolean) ∈ gw_l := gw_t 362 (by decide +kernel) rfl
theorem wd_363 : Cond.methodLink "HingeTables" 152 my_K_isWithin ∈ gw_l := gw_t 363 (by decide +kernel) rfl
theorem wd_364 : Cond.static my_K_isWithin ∈ gw_l := gw_t 364 (by decide +kernel) rfl
theorem wd_365 : Cond.code my_K_isWithin mb_K_isWithin 4 (some .boolean) ∈ gw_l := gw_t 365 (by decide +kernel) rfl
theorem wd_367 : Cond.methodLink "HingeTables" 107 my_D_change ∈ gw_l := gw_t 367 (by decide +kernel) rfl
theorem wd_368 : Cond.instanceMethod my_D_change ∈ gw_l := gw_t 368 (by decide +kernel) rfl
theorem wd_369 : Cond.selects "HingeTables$Door" my_D_change my_D_change ∈ gw_l := gw_t 369 (by decide +kernel) rfl
theorem wd_370 : Cond.code my_D_change mb_D_change 10 (some .boolean) ∈ gw_l := gw_t 370 (by decide +kernel) rfl
theorem wd_371 : Cond.methodLink "HingeTablesLaw" 111 my_L_weight ∈ gw_l := gw_t 371 (by decide +kernel) rfl
theorem wd_372 : Cond.static my_L_weight ∈ gw_l := gw_t 372 (by decide +kernel) rfl
theorem wd_374 : Cond.methodLink "HingeTablesLaw" 38 my_K_weight ∈ gw_l := gw_t 374 (by decide +kernel) rfl
theorem wd_375 : Cond.instanceMethod my_K_weight ∈ gw_l := gw_t 375 (by decide +kernel) rfl
theorem wd_376 : Cond.selects "HingeTables" my_K_weight my_K_weight ∈ gw_l := gw_t 376 (by decide +kernel) rfl
theorem wd_377 : Cond.code my_K_weight mb_K_weight 2 (some .long) ∈ gw_l := gw_t 377 (by decide +kernel) rfl
theorem wd_378 : Cond.methodLink "HingeTables" 111 my_K_needPart ∈ gw_l := gw_t 378 (by decide +kernel) rfl
theorem wd_379 : Cond.static my_K_needPart ∈ gw_l := gw_t 379 (by decide +kernel) rfl
theorem wd_380 : Cond.code my_K_needPart mb_K_needPart 1 none ∈ gw_l := gw_t 380 (by decide +kernel) rfl
theorem wd_382 : Cond.methodLink "HingeTables" 114 my_D_millionWeights ∈ gw_l := gw_t 382 (by decide +kernel) rfl
theorem wd_383 : Cond.instanceMethod my_D_millionWeights ∈ gw_l := gw_t 383 (by decide +kernel) rfl
theorem wd_384 : Cond.selects "HingeTables$Door" my_D_millionWeights my_D_millionWeights ∈ gw_l := gw_t 384 (by decide +kernel) rfl
theorem wd_385 : Cond.code my_D_millionWeights mb_D_millionWeights 1 (some .long) ∈ gw_l := gw_t 385 (by decide +kernel) rfl
theorem wd_386 : Cond.constantLong "HingeTables" 118 1000000 ∈ gw_l := gw_t 386 (by decide +kernel) rfl
theorem wd_387 : Cond.methodLink "HingeTables" 120 my_K_partOfFraction ∈ gw_l := gw_t 387 (by decide +kernel) rfl
theorem wd_388 : Cond.static my_K_partOfFraction ∈ gw_l := gw_t 388 (by decide +kernel) rfl
theorem wd_389 : Cond.code my_K_partOfFraction mb_K_partOfFraction 9 (some .long) ∈ gw_l := gw_t 389 (by decide +kernel) rfl
theorem wd_390 : Cond.methodLink "HingeTables" 198 my_K_commonDivisor ∈ gw_l := gw_t 390 (by decide +kernel) rfl
theorem wd_391 : Cond.static my_K_commonDivisor ∈ gw_l := gw_t 391 (by decide +kernel) rfl
theorem wd_392 : Cond.code my_K_commonDivisor mb_K_commonDivisor 11 (some .long) ∈ gw_l := gw_t 392 (by decide +kernel) rfl
theorem wd_393 : Cond.methodLink "HingeTablesLaw" 115 my_L_count ∈ gw_l := gw_t 393 (by decide +kernel) rfl
theorem wd_394 : Cond.static my_L_count ∈ gw_l := gw_t 394 (by decide +kernel) rfl
theorem wd_396 : Cond.methodLink "HingeTablesLaw" 42 my_K_count ∈ gw_l := gw_t 396 (by decide +kernel) rfl
theorem wd_397 : Cond.instanceMethod my_K_count ∈ gw_l := gw_t 397 (by decide +kernel) rfl
theorem wd_398 : Cond.selects "HingeTables" my_K_count my_K_count ∈ gw_l := gw_t 398 (by decide +kernel) rfl
theorem wd_399 : Cond.code my_K_count mb_K_count 1 (some .int) ∈ gw_l := gw_t 399 (by decide +kernel) rfl
theorem wd_400 : Cond.methodLink "HingeTables" 124 my_T_hingesOf ∈ gw_l := gw_t 400 (by decide +kernel) rfl
theorem wd_401 : Cond.instanceMethod my_T_hingesOf ∈ gw_l := gw_t 401 (by decide +kernel) rfl
theorem wd_402 : Cond.selects "HingeTables$Table" my_T_hingesOf my_T_hingesOf ∈ gw_l := gw_t 402 (by decide +kernel) rfl
theorem wd_403 : Cond.code my_T_hingesOf mb_T_hingesOf 3 (some .int) ∈ gw_l := gw_t 403 (by decide +kernel) rfl
theorem wd_404 : Cond.constantLong "HingeTables$Table" 85 1000 ∈ gw_l := gw_t 404 (by decide +kernel) rfl
theorem wd_405 : Cond.constantLong "HingeTables$Table" 87 1000000 ∈ gw_l := gw_t 405 (by decide +kernel) rfl
theorem wd_406 : Cond.methodLink "HingeTables$Table" 89 my_D_millionWeights ∈ gw_l := gw_t 406 (by decide +kernel) rfl
theorem wd_407 : Cond.methodLink "HingeTablesLaw" 119 my_L_place ∈ gw_l := gw_t 407 (by decide +kernel) rfl
theorem wd_408 : Cond.static my_L_place ∈ gw_l := gw_t 408 (by decide +kernel) rfl
theorem wd_410 : Cond.methodLink "HingeTablesLaw" 46 my_K_place ∈ gw_l := gw_t 410 (by decide +kernel) rfl
theorem wd_411 : Cond.instanceMethod my_K_place ∈ gw_l := gw_t 411 (by decide +kernel) rfl
theorem wd_412 : Cond.selects "HingeTables" my_K_place my_K_place ∈ gw_l := gw_t 412 (by decide +kernel) rfl
theorem wd_413 : Cond.code my_K_place mb_K_place 4 (some .long) ∈ gw_l := gw_t 413 (by decide +kernel) rfl
theorem wd_416 : Cond.constantLong "HingeTables" 139 2 ∈ gw_l := gw_t 416 (by decide +kernel) rfl
theorem wd_417 : Cond.methodLink "HingeTables" 141 my_D_placeNumerator ∈ gw_l := gw_t 417 (by decide +kernel) rfl
theorem wd_418 : Cond.instanceMethod my_D_placeNumerator ∈ gw_l := gw_t 418 (by decide +kernel) rfl
theorem wd_419 : Cond.selects "HingeTables$Door" my_D_placeNumerator my_D_placeNumerator ∈ gw_l := gw_t 419 (by decide +kernel) rfl
theorem wd_420 : Cond.code my_D_placeNumerator mb_D_placeNumerator 5 (some .long) ∈ gw_l := gw_t 420 (by decide +kernel) rfl
theorem wd_421 : Cond.constantLong "HingeTables$Door" 30 320 ∈ gw_l := gw_t 421 (by decide +kernel) rfl
theorem wd_422 : Cond.methodLink "HingeTables$Door" 32 ⟨"java/lang/Math", "min", "(JJ)J"⟩ ∈ gw_l := gw_t 422 (by decide +kernel) rfl
theorem wd_423 : Cond.static ⟨"java/lang/Math", "min", "(JJ)J"⟩ ∈ gw_l := gw_t 423 (by decide +kernel) rfl
theorem wd_425 : Cond.constantLong "HingeTables$Door" 38 4 ∈ gw_l := gw_t 425 (by decide +kernel) rfl
theorem wd_426 : Cond.constantLong "HingeTables$Door" 40 2 ∈ gw_l := gw_t 426 (by decide +kernel) rfl
theorem wd_427 : Cond.constantLong "HingeTables" 145 4 ∈ gw_l := gw_t 427 (by decide +kernel) rfl
theorem wd_428 : Cond.methodLink "HingeTablesLaw" 122 my_L_hole ∈ gw_l := gw_t 428 (by decide +kernel) rfl
theorem wd_429 : Cond.static my_L_hole ∈ gw_l := gw_t 429 (by decide +kernel) rfl
theorem wd_431 : Cond.methodLink "HingeTablesLaw" 50 my_K_hole ∈ gw_l := gw_t 431 (by decide +kernel) rfl
theorem wd_432 : Cond.instanceMethod my_K_hole ∈ gw_l := gw_t 432 (by decide +kernel) rfl
theorem wd_433 : Cond.selects "HingeTables" my_K_hole my_K_hole ∈ gw_l := gw_t 433 (by decide +kernel) rfl
theorem wd_434 : Cond.code my_K_hole mb_K_hole 8 (some .boolean) ∈ gw_l := gw_t 434 (by decide +kernel) rfl
theorem wd_435 : Cond.methodLink "HingeTables" 147 my_K_needHole ∈ gw_l := gw_t 435 (by decide +kernel) rfl
theorem wd_436 : Cond.static my_K_needHole ∈ gw_l := gw_t 436 (by decide +kernel) rfl
theorem wd_437 : Cond.code my_K_needHole mb_K_needHole 1 none ∈ gw_l := gw_t 437 (by decide +kernel) rfl
theorem wd_439 : Cond.constant "HingeTables" 150 (-100000) ∈ gw_l := gw_t 439 (by decide +kernel) rfl
theorem wd_440 : Cond.constant "HingeTables" 151 100000 ∈ gw_l := gw_t 440 (by decide +kernel) rfl
theorem wd_442 : Cond.methodLink "HingeTables" 158 my_H_change ∈ gw_l := gw_t 442 (by decide +kernel) rfl
theorem wd_443 : Cond.instanceMethod my_H_change ∈ gw_l := gw_t 443 (by decide +kernel) rfl
theorem wd_444 : Cond.selects "HingeTables$Holes" my_H_change my_H_change ∈ gw_l := gw_t 444 (by decide +kernel) rfl
theorem wd_445 : Cond.code my_H_change mb_H_change 11 (some .boolean) ∈ gw_l := gw_t 445 (by decide +kernel) rfl
theorem wd_446 : Cond.methodLink "HingeTablesLaw" 126 my_L_meet ∈ gw_l := gw_t 446 (by decide +kernel) rfl
theorem wd_447 : Cond.static my_L_meet ∈ gw_l := gw_t 447 (by decide +kernel) rfl
theorem wd_449 : Cond.methodLink "HingeTablesLaw" 54 my_K_meet ∈ gw_l := gw_t 449 (by decide +kernel) rfl
theorem wd_450 : Cond.instanceMethod my_K_meet ∈ gw_l := gw_t 450 (by decide +kernel) rfl
theorem wd_451 : Cond.selects "HingeTables" my_K_meet my_K_meet ∈ gw_l := gw_t 451 (by decide +kernel) rfl
theorem wd_452 : Cond.code my_K_meet mb_K_meet 3 (some .boolean) ∈ gw_l := gw_t 452 (by decide +kernel) rfl
theorem wd_453 : Cond.methodLink "HingeTables" 161 my_H_overlap ∈ gw_l := gw_t 453 (by decide +kernel) rfl
theorem wd_454 : Cond.instanceMethod my_H_overlap ∈ gw_l := gw_t 454 (by decide +kernel) rfl
theorem wd_455 : Cond.selects "HingeTables$Holes" my_H_overlap my_H_overlap ∈ gw_l := gw_t 455 (by decide +kernel) rfl
theorem wd_456 : Cond.code my_H_overlap mb_H_overlap 9 (some .boolean) ∈ gw_l := gw_t 456 (by decide +kernel) rfl
theorem wd_457 : Cond.methodLink "HingeTablesLaw" 129 my_L_pair ∈ gw_l := gw_t 457 (by decide +kernel) rfl
theorem wd_458 : Cond.static my_L_pair ∈ gw_l := gw_t 458 (by decide +kernel) rfl
theorem wd_460 : Cond.methodLink "HingeTablesLaw" 57 my_K_pair ∈ gw_l := gw_t 460 (by decide +kernel) rfl
theorem wd_461 : Cond.instanceMethod my_K_pair ∈ gw_l := gw_t 461 (by decide +kernel) rfl
theorem wd_462 : Cond.selects "HingeTables" my_K_pair my_K_pair ∈ gw_l := gw_t 462 (by decide +kernel) rfl
theorem wd_463 : Cond.code my_K_pair mb_K_pair 2 (some .int) ∈ gw_l := gw_t 463 (by decide +kernel) rfl
theorem wd_464 : Cond.methodLink "HingeTables" 164 my_H_overlappingPair ∈ gw_l := gw_t 464 (by decide +kernel) rfl
theorem wd_465 : Cond.instanceMethod my_H_overlappingPair ∈ gw_l := gw_t 465 (by decide +kernel) rfl
theorem wd_466 : Cond.selects "HingeTables$Holes" my_H_overlappingPair my_H_overlappingPair ∈ gw_l := gw_t 466 (by decide +kernel) rfl
theorem wd_467 : Cond.code my_H_overlappingPair mb_H_overlappingPair 5 (some .int) ∈ gw_l := gw_t 467 (by decide +kernel) rfl
theorem wd_468 : Cond.methodLink "HingeTables$Holes" 21 my_H_overlap ∈ gw_l := gw_t 468 (by decide +kernel) rfl
theorem wd_469 : Cond.methodLink "HingeTablesLaw" 132 my_L_wall ∈ gw_l := gw_t 469 (by decide +kernel) rfl
theorem wd_470 : Cond.static my_L_wall ∈ gw_l := gw_t 470 (by decide +kernel) rfl
theorem wd_472 : Cond.methodLink "HingeTablesLaw" 61 my_K_wall ∈ gw_l := gw_t 472 (by decide +kernel) rfl
theorem wd_473 : Cond.instanceMethod my_K_wall ∈ gw_l := gw_t 473 (by decide +kernel) rfl
theorem wd_474 : Cond.selects "HingeTables" my_K_wall my_K_wall ∈ gw_l := gw_t 474 (by decide +kernel) rfl
theorem wd_475 : Cond.code my_K_wall mb_K_wall 4 (some .int) ∈ gw_l := gw_t 475 (by decide +kernel) rfl
theorem wd_477 : Cond.methodLink "HingeTables" 170 my_D_leastX ∈ gw_l := gw_t 477 (by decide +kernel) rfl
theorem wd_478 : Cond.instanceMethod my_D_leastX ∈ gw_l := gw_t 478 (by decide +kernel) rfl
theorem wd_479 : Cond.selects "HingeTables$Door" my_D_leastX my_D_leastX ∈ gw_l := gw_t 479 (by decide +kernel) rfl
theorem wd_480 : Cond.code my_D_leastX mb_D_leastX 5 (some .long) ∈ gw_l := gw_t 480 (by decide +kernel) rfl
theorem wd_481 : Cond.methodLink "HingeTables$Door" 56 my_D_turnedX ∈ gw_l := gw_t 481 (by decide +kernel) rfl
theorem wd_482 : Cond.instanceMethod my_D_turnedX ∈ gw_l := gw_t 482 (by decide +kernel) rfl
theorem wd_483 : Cond.selects "HingeTables$Door" my_D_turnedX my_D_turnedX ∈ gw_l := gw_t 483 (by decide +kernel) rfl
theorem wd_484 : Cond.code my_D_turnedX mb_D_turnedX 3 (some .long) ∈ gw_l := gw_t 484 (by decide +kernel) rfl
theorem wd_485 : Cond.methodLink "HingeTables$Door" 42 my_D_shutX ∈ gw_l := gw_t 485 (by decide +kernel) rfl
theorem wd_487 : Cond.instanceMethod my_D_shutX ∈ gw_l := gw_t 487 (by decide +kernel) rfl
theorem wd_488 : Cond.code my_D_shutX mb_D_shutX 2 (some .long) ∈ gw_l := gw_t 488 (by decide +kernel) rfl
theorem wd_491 : Cond.methodLink "HingeTables$Door" 50 my_D_shutY ∈ gw_l := gw_t 491 (by decide +kernel) rfl
theorem wd_493 : Cond.instanceMethod my_D_shutY ∈ gw_l := gw_t 493 (by decide +kernel) rfl
theorem wd_494 : Cond.code my_D_shutY mb_D_shutY 2 (some .long) ∈ gw_l := gw_t 494 (by decide +kernel) rfl
theorem wd_497 : Cond.constantLong "HingeTables" 174 65 ∈ gw_l := gw_t 497 (by decide +kernel) rfl
theorem wd_498 : Cond.methodLink "HingeTablesLaw" 135 my_L_corner ∈ gw_l := gw_t 498 (by decide +kernel) rfl
theorem wd_499 : Cond.static my_L_corner ∈ gw_l := gw_t 499 (by decide +kernel) rfl
theorem wd_501 : Cond.methodLink "HingeTablesLaw" 64 my_K_corner ∈ gw_l := gw_t 501 (by decide +kernel) rfl
theorem wd_502 : Cond.instanceMethod my_K_corner ∈ gw_l := gw_t 502 (by decide +kernel) rfl
theorem wd_503 : Cond.selects "HingeTables" my_K_corner my_K_corner ∈ gw_l := gw_t 503 (by decide +kernel) rfl
theorem wd_504 : Cond.code my_K_corner mb_K_corner 4 (some .long) ∈ gw_l := gw_t 504 (by decide +kernel) rfl
theorem wd_506 : Cond.methodLink "HingeTables" 178 my_D_turnedX ∈ gw_l := gw_t 506 (by decide +kernel) rfl
theorem wd_507 : Cond.methodLink "HingeTables" 181 my_D_turnedY ∈ gw_l := gw_t 507 (by decide +kernel) rfl
theorem wd_508 : Cond.instanceMethod my_D_turnedY ∈ gw_l := gw_t 508 (by decide +kernel) rfl
theorem wd_509 : Cond.selects "HingeTables$Door" my_D_turnedY my_D_turnedY ∈ gw_l := gw_t 509 (by decide +kernel) rfl
theorem wd_510 : Cond.code my_D_turnedY mb_D_turnedY 3 (some .long) ∈ gw_l := gw_t 510 (by decide +kernel) rfl
theorem wd_511 : Cond.methodLink "HingeTablesLaw" 139 my_L_rows32 ∈ gw_l := gw_t 511 (by decide +kernel) rfl
theorem wd_512 : Cond.static my_L_rows32 ∈ gw_l := gw_t 512 (by decide +kernel) rfl
theorem wd_514 : Cond.methodLink "HingeTablesLaw" 68 my_K_rows32 ∈ gw_l := gw_t 514 (by decide +kernel) rfl
theorem wd_515 : Cond.instanceMethod my_K_rows32 ∈ gw_l := gw_t 515 (by decide +kernel) rfl
theorem wd_516 : Cond.selects "HingeTables" my_K_rows32 my_K_rows32 ∈ gw_l := gw_t 516 (by decide +kernel) rfl
theorem wd_517 : Cond.code my_K_rows32 mb_K_rows32 6 (some .int) ∈ gw_l := gw_t 517 (by decide +kernel) rfl
theorem wd_519 : Cond.classLink "HingeTablesLaw" 73 "HingeTablesModel" ∈ gw_l := gw_t 519 (by decide +kernel) rfl
theorem wd_520 : Cond.instantiable "HingeTablesModel" 18 ∈ gw_l := gw_t 520 (by decide +kernel) rfl
theorem wd_521 : Cond.methodLink "HingeTablesLaw" 75 my_M_init ∈ gw_l := gw_t 521 (by decide +kernel) rfl
theorem wd_522 : Cond.instanceMethod my_M_init ∈ gw_l := gw_t 522 (by decide +kernel) rfl
theorem wd_523 : Cond.code my_M_init mb_M_init 2 none ∈ gw_l := gw_t 523 (by decide +kernel) rfl
theorem wd_524 : Cond.methodLink "HingeTablesModel" 1 ⟨"java/lang/Object", "<init>", "()V"⟩ ∈ gw_l := gw_t 524 (by decide +kernel) rfl
theorem wd_525 : Cond.constantLong "HingeTablesModel" 22 400 ∈ gw_l := gw_t 525 (by decide +kernel) rfl
theorem wd_526 : Cond.constantLong "HingeTablesModel" 28 700 ∈ gw_l := gw_t 526 (by decide +kernel) rfl
theorem wd_527 : Cond.constantLong "HingeTablesModel" 33 19 ∈ gw_l := gw_t 527 (by decide +kernel) rfl
theorem wd_528 : Cond.methodLink "HingeTablesModel" 57 my_M_turn ∈ gw_l := gw_t 528 (by decide +kernel) rfl
theorem wd_530 : Cond.instanceMethod my_M_turn ∈ gw_l := gw_t 530 (by decide +kernel) rfl
theorem wd_531 : Cond.code my_M_turn mb_M_turn 4 none ∈ gw_l := gw_t 531 (by decide +kernel) rfl
theorem wd_532 : Cond.fieldLink "HingeTablesModel" 61 "HingeTablesModel" "code" "I" ∈ gw_l := gw_t 532 (by decide +kernel) rfl
theorem wd_533 : Cond.fieldLink "HingeTablesModel" 7 "HingeTablesModel" "typed" "[I" ∈ gw_l := gw_t 533 (by decide +kernel) rfl
theorem wd_534 : Cond.fieldLink "HingeTablesModel" 65 "HingeTablesModel" "size" "I" ∈ gw_l := gw_t 534 (by decide +kernel) rfl
theorem wd_535 : Cond.fieldLink "HingeTablesModel" 68 "HingeTablesModel" "at" "I" ∈ gw_l := gw_t 535 (by decide +kernel) rfl
theorem wd_536 : Cond.fieldLink "HingeTablesModel" 71 "HingeTablesModel" "failed" "I" ∈ gw_l := gw_t 536 (by decide +kernel) rfl
theorem wd_537 : Cond.fieldLink "HingeTablesModel" 98 "HingeTablesModel" "rows" "I" ∈ gw_l := gw_t 537 (by decide +kernel) rfl
theorem wd_538 : Cond.fieldLink "HingeTablesModel" 13 "HingeTablesModel" "told" "[I" ∈ gw_l := gw_t 538 (by decide +kernel) rfl
theorem wd_539 : Cond.fieldLink "HingeTablesModel" 16 "HingeTablesModel" "draft" "[I" ∈ gw_l := gw_t 539 (by decide +kernel) rfl
theorem wd_540 : Cond.fieldLink "HingeTablesModel" 19 "HingeTablesModel" "stocks" "[I" ∈ gw_l := gw_t 540 (by decide +kernel) rfl
theorem wd_541 : Cond.fieldLink "HingeTablesModel" 24 "HingeTablesModel" "width" "J" ∈ gw_l := gw_t 541 (by decide +kernel) rfl
theorem wd_542 : Cond.fieldLink "HingeTablesModel" 30 "HingeTablesModel" "height" "J" ∈ gw_l := gw_t 542 (by decide +kernel) rfl
theorem wd_543 : Cond.fieldLink "HingeTablesModel" 35 "HingeTablesModel" "thick" "J" ∈ gw_l := gw_t 543 (by decide +kernel) rfl
theorem wd_544 : Cond.fieldLink "HingeTablesModel" 38 "HingeTablesModel" "density" "J" ∈ gw_l := gw_t 544 (by decide +kernel) rfl
theorem wd_545 : Cond.fieldLink "HingeTablesModel" 41 "HingeTablesModel" "xs" "[J" ∈ gw_l := gw_t 545 (by decide +kernel) rfl
theorem wd_546 : Cond.fieldLink "HingeTablesModel" 45 "HingeTablesModel" "ys" "[J" ∈ gw_l := gw_t 546 (by decide +kernel) rfl
theorem wd_547 : Cond.fieldLink "HingeTablesModel" 48 "HingeTablesModel" "radii" "[J" ∈ gw_l := gw_t 547 (by decide +kernel) rfl
theorem wd_548 : Cond.fieldLink "HingeTablesModel" 51 "HingeTablesModel" "cosines" "[I" ∈ gw_l := gw_t 548 (by decide +kernel) rfl
theorem wd_549 : Cond.fieldLink "HingeTablesModel" 54 "HingeTablesModel" "sines" "[I" ∈ gw_l := gw_t 549 (by decide +kernel) rfl
theorem wd_550 : Cond.lays "HingeTablesModel" "HingeTablesModel" "code" "I" ∈ gw_l := gw_t 550 (by decide +kernel) rfl
theorem wd_552 : Cond.laysFinal "HingeTablesModel" "HingeTablesModel" "typed" "[I" ∈ gw_l := gw_t 552 (by decide +kernel) rfl
theorem wd_554 : Cond.lays "HingeTablesModel" "HingeTablesModel" "size" "I" ∈ gw_l := gw_t 554 (by decide +kernel) rfl
theorem wd_556 : Cond.lays "HingeTablesModel" "HingeTablesModel" "at" "I" ∈ gw_l := gw_t 556 (by decide +kernel) rfl
theorem wd_558 : Cond.lays "HingeTablesModel" "HingeTablesModel" "failed" "I" ∈ gw_l := gw_t 558 (by decide +kernel) rfl
theorem wd_560 : Cond.lays "HingeTablesModel" "HingeTablesModel" "rows" "I" ∈ gw_l := gw_t 560 (by decide +kernel) rfl
theorem wd_562 : Cond.laysFinal "HingeTablesModel" "HingeTablesModel" "told" "[I" ∈ gw_l := gw_t 562 (by decide +kernel) rfl
theorem wd_564 : Cond.laysFinal "HingeTablesModel" "HingeTablesModel" "draft" "[I" ∈ gw_l := gw_t 564 (by decide +kernel) rfl
theorem wd_566 : Cond.laysFinal "HingeTablesModel" "HingeTablesModel" "stocks" "[I" ∈ gw_l := gw_t 566 (by decide +kernel) rfl
theorem wd_568 : Cond.lays "HingeTablesModel" "HingeTablesModel" "width" "J" ∈ gw_l := gw_t 568 (by decide +kernel) rfl
theorem wd_570 : Cond.lays "HingeTablesModel" "HingeTablesModel" "height" "J" ∈ gw_l := gw_t 570 (by decide +kernel) rfl
theorem wd_572 : Cond.lays "HingeTablesModel" "HingeTablesModel" "thick" "J" ∈ gw_l := gw_t 572 (by decide +kernel) rfl
theorem wd_574 : Cond.lays "HingeTablesModel" "HingeTablesModel" "density" "J" ∈ gw_l := gw_t 574 (by decide +kernel) rfl
theorem wd_576 : Cond.laysFinal "HingeTablesModel" "HingeTablesModel" "xs" "[J" ∈ gw_l := gw_t 576 (by decide +kernel) rfl
theorem wd_578 : Cond.laysFinal "HingeTablesModel" "HingeTablesModel" "ys" "[J" ∈ gw_l := gw_t 578 (by decide +kernel) rfl
theorem wd_580 : Cond.laysFinal "HingeTablesModel" "HingeTablesModel" "radii" "[J" ∈ gw_l := gw_t 580 (by decide +kernel) rfl
theorem wd_582 : Cond.laysFinal "HingeTablesModel" "HingeTablesModel" "cosines" "[I" ∈ gw_l := gw_t 582 (by decide +kernel) rfl
theorem wd_584 : Cond.laysFinal "HingeTablesModel" "HingeTablesModel" "sines" "[I" ∈ gw_l := gw_t 584 (by decide +kernel) rfl
theorem wd_587 : Cond.arrayClass .long ∈ gw_l := gw_t 587 (by decide +kernel) rfl
theorem wd_588 : Cond.methodLink "HingeTablesLaw" 143 my_M_thrown ∈ gw_l := gw_t 588 (by decide +kernel) rfl
theorem wd_589 : Cond.instanceMethod my_M_thrown ∈ gw_l := gw_t 589 (by decide +kernel) rfl
theorem wd_590 : Cond.selects "HingeTablesModel" my_M_thrown my_M_thrown ∈ gw_l := gw_t 590 (by decide +kernel) rfl
theorem wd_591 : Cond.code my_M_thrown mb_M_thrown 1 (some .int) ∈ gw_l := gw_t 591 (by decide +kernel) rfl
theorem wd_592 : Cond.methodLink "HingeTablesLaw" 80 my_M_unit ∈ gw_l := gw_t 592 (by decide +kernel) rfl
theorem wd_593 : Cond.instanceMethod my_M_unit ∈ gw_l := gw_t 593 (by decide +kernel) rfl
theorem wd_594 : Cond.selects "HingeTablesModel" my_M_unit my_M_unit ∈ gw_l := gw_t 594 (by decide +kernel) rfl
theorem wd_595 : Cond.code my_M_unit mb_M_unit 3 (some .boolean) ∈ gw_l := gw_t 595 (by decide +kernel) rfl
theorem wd_596 : Cond.methodLink "HingeTablesLaw" 84 my_M_read ∈ gw_l := gw_t 596 (by decide +kernel) rfl
theorem wd_597 : Cond.instanceMethod my_M_read ∈ gw_l := gw_t 597 (by decide +kernel) rfl
theorem wd_598 : Cond.selects "HingeTablesModel" my_M_read my_M_read ∈ gw_l := gw_t 598 (by decide +kernel) rfl
theorem wd_599 : Cond.code my_M_read mb_M_read 3 (some .int) ∈ gw_l := gw_t 599 (by decide +kernel) rfl
theorem wd_600 : Cond.methodLink "HingeTablesModel" 95 my_M_readRow ∈ gw_l := gw_t 600 (by decide +kernel) rfl
theorem wd_602 : Cond.instanceMethod my_M_readRow ∈ gw_l := gw_t 602 (by decide +kernel) rfl
theorem wd_603 : Cond.code my_M_readRow mb_M_readRow 8 none ∈ gw_l := gw_t 603 (by decide +kernel) rfl
theorem wd_604 : Cond.methodLink "HingeTablesModel" 74 my_M_here ∈ gw_l := gw_t 604 (by decide +kernel) rfl
theorem wd_606 : Cond.instanceMethod my_M_here ∈ gw_l := gw_t 606 (by decide +kernel) rfl
theorem wd_607 : Cond.code my_M_here mb_M_here 1 (some .int) ∈ gw_l := gw_t 607 (by decide +kernel) rfl
theorem wd_608 : Cond.methodLink "HingeTablesModel" 82 my_M_sizeOf ∈ gw_l := gw_t 608 (by decide +kernel) rfl
theorem wd_609 : Cond.static my_M_sizeOf ∈ gw_l := gw_t 609 (by decide +kernel) rfl
theorem wd_610 : Cond.code my_M_sizeOf mb_M_sizeOf 1 (some .int) ∈ gw_l := gw_t 610 (by decide +kernel) rfl
theorem wd_611 : Cond.methodLink "HingeTablesModel" 78 my_M_failAt ∈ gw_l := gw_t 611 (by decide +kernel) rfl
theorem wd_613 : Cond.instanceMethod my_M_failAt ∈ gw_l := gw_t 613 (by decide +kernel) rfl
theorem wd_614 : Cond.code my_M_failAt mb_M_failAt 2 none ∈ gw_l := gw_t 614 (by decide +kernel) rfl
theorem wd_615 : Cond.methodLink "HingeTablesModel" 86 my_M_readNumber ∈ gw_l := gw_t 615 (by decide +kernel) rfl
theorem wd_617 : Cond.instanceMethod my_M_readNumber ∈ gw_l := gw_t 617 (by decide +kernel) rfl
theorem wd_618 : Cond.code my_M_readNumber mb_M_readNumber 3 (some .int) ∈ gw_l := gw_t 618 (by decide +kernel) rfl
theorem wd_619 : Cond.constantLong "HingeTablesModel" 89 9 ∈ gw_l := gw_t 619 (by decide +kernel) rfl
theorem wd_620 : Cond.methodLink "HingeTablesModel" 91 my_M_isIn ∈ gw_l := gw_t 620 (by decide +kernel) rfl
theorem wd_621 : Cond.static my_M_isIn ∈ gw_l := gw_t 621 (by decide +kernel) rfl
theorem wd_622 : Cond.code my_M_isIn mb_M_isIn 6 (some .boolean) ∈ gw_l := gw_t 622 (by decide +kernel) rfl
theorem wd_623 : Cond.methodLink "HingeTablesLaw" 90 my_M_row ∈ gw_l := gw_t 623 (by decide +kernel) rfl
theorem wd_624 : Cond.instanceMethod my_M_row ∈ gw_l := gw_t 624 (by decide +kernel) rfl
theorem wd_625 : Cond.selects "HingeTablesModel" my_M_row my_M_row ∈ gw_l := gw_t 625 (by decide +kernel) rfl
theorem wd_626 : Cond.code my_M_row mb_M_row 3 (some .int) ∈ gw_l := gw_t 626 (by decide +kernel) rfl
theorem wd_627 : Cond.methodLink "HingeTablesModel" 101 my_M_rowCode ∈ gw_l := gw_t 627 (by decide +kernel) rfl
theorem wd_629 : Cond.instanceMethod my_M_rowCode ∈ gw_l := gw_t 629 (by decide +kernel) rfl
theorem wd_630 : Cond.code my_M_rowCode mb_M_rowCode 2 (some .int) ∈ gw_l := gw_t 630 (by decide +kernel) rfl
theorem wd_631 : Cond.methodLink "HingeTablesLaw" 93 my_M_stock ∈ gw_l := gw_t 631 (by decide +kernel) rfl
theorem wd_632 : Cond.instanceMethod my_M_stock ∈ gw_l := gw_t 632 (by decide +kernel) rfl
theorem wd_633 : Cond.selects "HingeTablesModel" my_M_stock my_M_stock ∈ gw_l := gw_t 633 (by decide +kernel) rfl
theorem wd_634 : Cond.code my_M_stock mb_M_stock 3 (some .boolean) ∈ gw_l := gw_t 634 (by decide +kernel) rfl
theorem wd_635 : Cond.constantLong "HingeTablesModel" 104 1000 ∈ gw_l := gw_t 635 (by decide +kernel) rfl
theorem wd_636 : Cond.methodLink "HingeTablesLaw" 99 my_M_hinge ∈ gw_l := gw_t 636 (by decide +kernel) rfl
theorem wd_637 : Cond.instanceMethod my_M_hinge ∈ gw_l := gw_t 637 (by decide +kernel) rfl
theorem wd_638 : Cond.selects "HingeTablesModel" my_M_hinge my_M_hinge ∈ gw_l := gw_t 638 (by decide +kernel) rfl
theorem wd_639 : Cond.code my_M_hinge mb_M_hinge 9 (some .int) ∈ gw_l := gw_t 639 (by decide +kernel) rfl
theorem wd_640 : Cond.methodLink "HingeTablesModel" 106 my_M_number ∈ gw_l := gw_t 640 (by decide +kernel) rfl
theorem wd_642 : Cond.instanceMethod my_M_number ∈ gw_l := gw_t 642 (by decide +kernel) rfl
theorem wd_643 : Cond.code my_M_number mb_M_number 3 (some .long) ∈ gw_l := gw_t 643 (by decide +kernel) rfl
theorem wd_644 : Cond.methodLink "HingeTablesModel" 110 my_M_isThere ∈ gw_l := gw_t 644 (by decide +kernel) rfl
theorem wd_646 : Cond.instanceMethod my_M_isThere ∈ gw_l := gw_t 646 (by decide +kernel) rfl
theorem wd_647 : Cond.code my_M_isThere mb_M_isThere 3 (some .boolean) ∈ gw_l := gw_t 647 (by decide +kernel) rfl
theorem wd_648 : Cond.methodLink "HingeTablesLaw" 102 my_M_other ∈ gw_l := gw_t 648 (by decide +kernel) rfl
theorem wd_649 : Cond.instanceMethod my_M_other ∈ gw_l := gw_t 649 (by decide +kernel) rfl
theorem wd_650 : Cond.selects "HingeTablesModel" my_M_other my_M_other ∈ gw_l := gw_t 650 (by decide +kernel) rfl
theorem wd_651 : Cond.code my_M_other mb_M_other 5 (some .int) ∈ gw_l := gw_t 651 (by decide +kernel) rfl
theorem wd_652 : Cond.methodLink "HingeTablesModel" 114 my_M_replaces ∈ gw_l := gw_t 652 (by decide +kernel) rfl
theorem wd_654 : Cond.instanceMethod my_M_replaces ∈ gw_l := gw_t 654 (by decide +kernel) rfl
theorem wd_655 : Cond.code my_M_replaces mb_M_replaces 4 (some .boolean) ∈ gw_l := gw_t 655 (by decide +kernel) rfl
theorem wd_656 : Cond.methodLink "HingeTablesLaw" 106 my_M_slide ∈ gw_l := gw_t 656 (by decide +kernel) rfl
theorem wd_657 : Cond.instanceMethod my_M_slide ∈ gw_l := gw_t 657 (by decide +kernel) rfl
theorem wd_658 : Cond.selects "HingeTablesModel" my_M_slide my_M_slide ∈ gw_l := gw_t 658 (by decide +kernel) rfl
theorem wd_659 : Cond.code my_M_slide mb_M_slide 6 (some .int) ∈ gw_l := gw_t 659 (by decide +kernel) rfl
theorem wd_660 : Cond.methodLink "HingeTablesLaw" 110 my_M_door ∈ gw_l := gw_t 660 (by decide +kernel) rfl
theorem wd_661 : Cond.instanceMethod my_M_door ∈ gw_l := gw_t 661 (by decide +kernel) rfl
theorem wd_662 : Cond.selects "HingeTablesModel" my_M_door my_M_door ∈ gw_l := gw_t 662 (by decide +kernel) rfl
theorem wd_663 : Cond.code my_M_door mb_M_door 9 (some .boolean) ∈ gw_l := gw_t 663 (by decide +kernel) rfl
theorem wd_664 : Cond.methodLink "HingeTablesModel" 119 my_M_isSize ∈ gw_l := gw_t 664 (by decide +kernel) rfl
theorem wd_665 : Cond.static my_M_isSize ∈ gw_l := gw_t 665 (by decide +kernel) rfl
theorem wd_666 : Cond.code my_M_isSize mb_M_isSize 2 (some .boolean) ∈ gw_l := gw_t 666 (by decide +kernel) rfl
theorem wd_667 : Cond.constantLong "HingeTablesModel" 117 10000 ∈ gw_l := gw_t 667 (by decide +kernel) rfl
theorem wd_668 : Cond.methodLink "HingeTablesLaw" 114 my_M_weight ∈ gw_l := gw_t 668 (by decide +kernel) rfl
theorem wd_669 : Cond.instanceMethod my_M_weight ∈ gw_l := gw_t 669 (by decide +kernel) rfl
theorem wd_670 : Cond.selects "HingeTablesModel" my_M_weight my_M_weight ∈ gw_l := gw_t 670 (by decide +kernel) rfl
theorem wd_671 : Cond.code my_M_weight mb_M_weight 2 (some .long) ∈ gw_l := gw_t 671 (by decide +kernel) rfl
theorem wd_672 : Cond.methodLink "HingeTablesModel" 123 my_M_grams ∈ gw_l := gw_t 672 (by decide +kernel) rfl
theorem wd_674 : Cond.instanceMethod my_M_grams ∈ gw_l := gw_t 674 (by decide +kernel) rfl
theorem wd_675 : Cond.code my_M_grams mb_M_grams 1 (some .long) ∈ gw_l := gw_t 675 (by decide +kernel) rfl
theorem wd_676 : Cond.constantLong "HingeTablesModel" 127 1000000 ∈ gw_l := gw_t 676 (by decide +kernel) rfl
theorem wd_677 : Cond.methodLink "HingeTablesModel" 129 my_M_common ∈ gw_l := gw_t 677 (by decide +kernel) rfl
theorem wd_678 : Cond.static my_M_common ∈ gw_l := gw_t 678 (by decide +kernel) rfl
theorem wd_679 : Cond.code my_M_common mb_M_common 10 (some .long) ∈ gw_l := gw_t 679 (by decide +kernel) rfl
theorem wd_680 : Cond.methodLink "HingeTablesLaw" 118 my_M_count ∈ gw_l := gw_t 680 (by decide +kernel) rfl
theorem wd_681 : Cond.instanceMethod my_M_count ∈ gw_l := gw_t 681 (by decide +kernel) rfl
theorem wd_682 : Cond.selects "HingeTablesModel" my_M_count my_M_count ∈ gw_l := gw_t 682 (by decide +kernel) rfl
theorem wd_683 : Cond.code my_M_count mb_M_count 1 (some .int) ∈ gw_l := gw_t 683 (by decide +kernel) rfl
theorem wd_684 : Cond.methodLink "HingeTablesModel" 133 my_M_hinges ∈ gw_l := gw_t 684 (by decide +kernel) rfl
theorem wd_686 : Cond.instanceMethod my_M_hinges ∈ gw_l := gw_t 686 (by decide +kernel) rfl
theorem wd_687 : Cond.code my_M_hinges mb_M_hinges 4 (some .int) ∈ gw_l := gw_t 687 (by decide +kernel) rfl
theorem wd_688 : Cond.methodLink "HingeTablesLaw" 121 my_M_place ∈ gw_l := gw_t 688 (by decide +kernel) rfl
theorem wd_689 : Cond.instanceMethod my_M_place ∈ gw_l := gw_t 689 (by decide +kernel) rfl
theorem wd_690 : Cond.selects "HingeTablesModel" my_M_place my_M_place ∈ gw_l := gw_t 690 (by decide +kernel) rfl
theorem wd_691 : Cond.code my_M_place mb_M_place 12 (some .long) ∈ gw_l := gw_t 691 (by decide +kernel) rfl
theorem wd_692 : Cond.constantLong "HingeTablesModel" 136 320 ∈ gw_l := gw_t 692 (by decide +kernel) rfl
theorem wd_693 : Cond.constantLong "HingeTablesModel" 138 2 ∈ gw_l := gw_t 693 (by decide +kernel) rfl
theorem wd_694 : Cond.constantLong "HingeTablesModel" 140 4 ∈ gw_l := gw_t 694 (by decide +kernel) rfl
theorem wd_695 : Cond.methodLink "HingeTablesLaw" 125 my_M_hole ∈ gw_l := gw_t 695 (by decide +kernel) rfl
theorem wd_696 : Cond.instanceMethod my_M_hole ∈ gw_l := gw_t 696 (by decide +kernel) rfl
theorem wd_697 : Cond.selects "HingeTablesModel" my_M_hole my_M_hole ∈ gw_l := gw_t 697 (by decide +kernel) rfl
theorem wd_698 : Cond.code my_M_hole mb_M_hole 9 (some .boolean) ∈ gw_l := gw_t 698 (by decide +kernel) rfl
theorem wd_699 : Cond.constantLong "HingeTablesModel" 142 (-100000) ∈ gw_l := gw_t 699 (by decide +kernel) rfl
theorem wd_700 : Cond.constantLong "HingeTablesModel" 144 100000 ∈ gw_l := gw_t 700 (by decide +kernel) rfl
theorem wd_701 : Cond.methodLink "HingeTablesLaw" 128 my_M_meet ∈ gw_l := gw_t 701 (by decide +kernel) rfl
theorem wd_702 : Cond.instanceMethod my_M_meet ∈ gw_l := gw_t 702 (by decide +kernel) rfl
theorem wd_703 : Cond.selects "HingeTablesModel" my_M_meet my_M_meet ∈ gw_l := gw_t 703 (by decide +kernel) rfl
theorem wd_704 : Cond.code my_M_meet mb_M_meet 3 (some .boolean) ∈ gw_l := gw_t 704 (by decide +kernel) rfl
theorem wd_705 : Cond.methodLink "HingeTablesModel" 146 my_M_meets ∈ gw_l := gw_t 705 (by decide +kernel) rfl
theorem wd_707 : Cond.instanceMethod my_M_meets ∈ gw_l := gw_t 707 (by decide +kernel) rfl
theorem wd_708 : Cond.code my_M_meets mb_M_meets 9 (some .boolean) ∈ gw_l := gw_t 708 (by decide +kernel) rfl
theorem wd_709 : Cond.methodLink "HingeTablesLaw" 131 my_M_pair ∈ gw_l := gw_t 709 (by decide +kernel) rfl
theorem wd_710 : Cond.instanceMethod my_M_pair ∈ gw_l := gw_t 710 (by decide +kernel) rfl
theorem wd_711 : Cond.selects "HingeTablesModel" my_M_pair my_M_pair ∈ gw_l := gw_t 711 (by decide +kernel) rfl
theorem wd_712 : Cond.code my_M_pair mb_M_pair 5 (some .int) ∈ gw_l := gw_t 712 (by decide +kernel) rfl
theorem wd_713 : Cond.methodLink "HingeTablesLaw" 138 my_M_corner ∈ gw_l := gw_t 713 (by decide +kernel) rfl
theorem wd_714 : Cond.instanceMethod my_M_corner ∈ gw_l := gw_t 714 (by decide +kernel) rfl
theorem wd_715 : Cond.selects "HingeTablesModel" my_M_corner my_M_corner ∈ gw_l := gw_t 715 (by decide +kernel) rfl
theorem wd_716 : Cond.code my_M_corner mb_M_corner 4 (some .long) ∈ gw_l := gw_t 716 (by decide +kernel) rfl
theorem wd_717 : Cond.methodLink "HingeTablesModel" 149 my_M_placeOf ∈ gw_l := gw_t 717 (by decide +kernel) rfl
theorem wd_719 : Cond.instanceMethod my_M_placeOf ∈ gw_l := gw_t 719 (by decide +kernel) rfl
theorem wd_720 : Cond.code my_M_placeOf mb_M_placeOf 8 (some .long) ∈ gw_l := gw_t 720 (by decide +kernel) rfl
theorem wd_721 : Cond.methodLink "HingeTablesLaw" 134 my_M_wall ∈ gw_l := gw_t 721 (by decide +kernel) rfl
theorem wd_722 : Cond.instanceMethod my_M_wall ∈ gw_l := gw_t 722 (by decide +kernel) rfl
theorem wd_723 : Cond.selects "HingeTablesModel" my_M_wall my_M_wall ∈ gw_l := gw_t 723 (by decide +kernel) rfl
theorem wd_724 : Cond.code my_M_wall mb_M_wall 5 (some .int) ∈ gw_l := gw_t 724 (by decide +kernel) rfl
theorem wd_725 : Cond.constantLong "HingeTablesModel" 153 (-10000) ∈ gw_l := gw_t 725 (by decide +kernel) rfl
theorem wd_726 : Cond.constantLong "HingeTablesModel" 155 (-65) ∈ gw_l := gw_t 726 (by decide +kernel) rfl
theorem wd_727 : Cond.methodLink "HingeTablesLaw" 142 my_M_rows32 ∈ gw_l := gw_t 727 (by decide +kernel) rfl
theorem wd_728 : Cond.instanceMethod my_M_rows32 ∈ gw_l := gw_t 728 (by decide +kernel) rfl
theorem wd_729 : Cond.selects "HingeTablesModel" my_M_rows32 my_M_rows32 ∈ gw_l := gw_t 729 (by decide +kernel) rfl
theorem wd_730 : Cond.code my_M_rows32 mb_M_rows32 5 (some .int) ∈ gw_l := gw_t 730 (by decide +kernel) rfl
theorem wd_731 : Cond.constantLong "HingeTablesModel" 157 37 ∈ gw_l := gw_t 731 (by decide +kernel) rfl
theorem wd_732 : Cond.constantLong "HingeTablesModel" 159 32 ∈ gw_l := gw_t 732 (by decide +kernel) rfl
theorem wd_733 : Cond.constantLong "HingeTablesLaw" 94 4294967295 ∈ gw_l := gw_t 733 (by decide +kernel) rfl
end
section
/-! PURE METHODS: they answer, and change nothing. A start by arguments, cells, classes and one more predicate of the state (statics and the like). -/
def pu_bl (Ex : State → Prop) : Prop := ∀ U V : State, V.heap = U.heap → U.WarmedH V.vm → Ex U → Ex V
theorem pu_blT : pu_bl (fun _ => True) := fun _ _ _ _ _ => trivial
def pu_Pc (D : va_G) (cl : List vw_C) (tys : List (ClassId × FieldType)) (ws : va_W) (Ex : State → Prop) (av : List Value) : Array Value → State → Prop := fun v U => v = av.toArray ∧ va_P D cl ws U.heap ∧ va_K D cl tys U ∧ Ex U
theorem pu_blind {D : va_G} {cl : List vw_C} {tys : List (ClassId × FieldType)} {ws : va_W} {Ex : State → Prop} {av : List Value} (hbl : pu_bl Ex) : FrameBlind (pu_Pc D cl tys ws Ex av) := by
  intro a U g mk q
  obtain ⟨q0, qP, qK, qE⟩ := q
  exact ⟨q0, qP, va_K.moved (u := U) (U := U.calling g mk a) (Vm.Alike.refl U.vm) qK, hbl U (U.calling g mk a) rfl (State.WarmedH.refl U) qE⟩
section PUA
variable {p : Program} {l : Launch} {e : Env} {R : Room} {s : State} {m : MethodId} {args : Array Value} {below : List Frame} {meth : Method} {c : Code} {H : Heap} {locs : List Loc} {cells slots : Nat} {Q : State → Prop}
  {Ts ws : List Cond} {cc bytes : ByteArray} {nL maxL index n pc : Nat} {own C : String} {y : MethodName} {ret : Option FieldType} {rm : Room} {b : Addr} {As rest st : List Value} {ls : Array Slot}
  {D : va_G} {cl : List vw_C} {tys : List (ClassId × FieldType)} {wc : va_W} {Ex : State → Prop}
theorem pu_preV {ci q0 : Nat} {fs : List Value} {T : u_T} {N : Nat} (hbl : pu_bl Ex) (hK : va_K D cl tys s) (hP : va_P D cl wc H) (hE : ∀ U : State, U.heap = H → s.WarmedH U.vm → Ex U) (hc : cl[ci]? = some (C, T, N)) (he : wc[q0]? = some (b, .inr (ci, fs))) : PreV s H C b (pu_Pc D cl tys wc Ex (.ref b :: As)) As :=
  ⟨pu_blind hbl, va_recv hK hP hc he, fun U hU hW => ⟨rfl, by rw [hU]; exact hP, va_K.moved hW.alike hK, hE U hU hW⟩⟩
theorem pu_preS (hbl : pu_bl Ex) (hK : va_K D cl tys s) (hP : va_P D cl wc H) (hE : ∀ U : State, U.heap = H → s.WarmedH U.vm → Ex U) : PreS s H (pu_Pc D cl tys wc Ex As) As :=
  ⟨pu_blind hbl, fun U hU hW => ⟨rfl, by rw [hU]; exact hP, va_K.moved hW.alike hK, hE U hU hW⟩⟩
theorem pu_e0 (hbl : pu_bl Ex) (h : Ex s) : ∀ U : State, U.heap = s.heap → s.WarmedH U.vm → Ex U := fun U hU hW => hbl s U hU hW h
theorem pu_e1 : ∀ U : State, U.heap = H → s.WarmedH U.vm → (fun _ : State => True) U := fun _ _ _ => trivial
/-- an int that is known comes back -/
theorem pu_i {v : Int32} {a : Array Value} (hr : CallRun p l e R s m args below meth c H locs cells slots 0 0 (F0 m pc ls st) rest (vp_Si (fun r => r = v) a) (fun _ => False))
    (kk : W p l e R s m args below meth c H locs cells slots Q (F0 m (pc + 3) ls (.int v :: rest))) : W p l e R s m args below meth c H locs cells slots Q (F0 m pc ls st) :=
  vp_callSi hr (fun r h => by have h' : r = v := h; subst h'; exact kk)
theorem pu_l {v : Int64} {a : Array Value} (hr : CallRun p l e R s m args below meth c H locs cells slots 0 0 (F0 m pc ls st) rest (vp_Sl (fun r => r = v) a) (fun _ => False))
    (kk : W p l e R s m args below meth c H locs cells slots Q (F0 m (pc + 3) ls (.long v :: rest))) : W p l e R s m args below meth c H locs cells slots Q (F0 m pc ls st) :=
  vp_callSl hr (fun r h => by have h' : r = v := h; subst h'; exact kk)
theorem pu_v {a : Array Value} (hr : CallRun p l e R s m args below meth c H locs cells slots 0 0 (F0 m pc ls st) rest (va_Sv (fun _ => True) a) (fun _ => False))
    (kk : W p l e R s m args below meth c H locs cells slots Q (F0 m (pc + 3) ls rest)) : W p l e R s m args below meth c H locs cells slots Q (F0 m pc ls st) :=
  va_csv hr (fun _ => kk)
theorem pu_i9 {v : Int32} {a : Array Value} (hr : va_Run p l e R s m args below meth c H locs cells slots 0 0 (F0 m pc ls st) rest (vp_Si (fun r => r = v) a) (fun _ => False))
    (kk : W p l e R s m args below meth c H locs cells slots Q (F0 m (pc + 3) ls (.int v :: rest))) : W p l e R s m args below meth c H locs cells slots Q (F0 m pc ls st) :=
  pu_i (fun T hT X => by obtain ⟨v, st₀, t, T', L, h0, X', hL, e1, -, hq, g⟩ := hr T hT X; exact ⟨v, st₀, t, T', L, h0, X', hL, e1, hq, g⟩) kk
/-- ends of pure methods -/
theorem pu_iret {v w : Int32} (hx : p.tables.exec = Jvm.exec) (hb : c.code = cc) (hr : meth.sig.returnType = some .int) (hlocks : meth.locks = false) (hd : decode cc pc = .ok (.ireturn, 1)) (hv : w = v) :
    W p l e R s m args below meth c s.heap [] 0 0 (MQ below (vp_Si (fun r => r = v)) args s 0 0 (fun _ => False)) (F0 m pc ls [.int w]) :=
  W.iret hx hb hr (fun t ht _ => ⟨w, rfl, hv, ht⟩) (fun q hq => by cases hq) hd hlocks
theorem pu_zret {v w : Int32} {ty : FieldType} (hx : p.tables.exec = Jvm.exec) (hb : c.code = cc) (hr : meth.sig.returnType = some ty) (hlocks : meth.locks = false) (hn : narrow ty (.int w) = .int w) (hd : decode cc pc = .ok (.ireturn, 1)) (hv : w = v) :
    W p l e R s m args below meth c s.heap [] 0 0 (MQ below (vp_Si (fun r => r = v)) args s 0 0 (fun _ => False)) (F0 m pc ls [.int w]) :=
  W.zret hx hb hr hn (fun t ht _ => ⟨w, rfl, hv, ht⟩) (fun q hq => by cases hq) hd hlocks
theorem pu_lret {v w : Int64} (hx : p.tables.exec = Jvm.exec) (hb : c.code = cc) (hr : meth.sig.returnType = some .long) (hlocks : meth.locks = false) (hd : decode cc pc = .ok (.lreturn, 1)) (hv : w = v) :
    W p l e R s m args below meth c s.heap [] 0 0 (MQ below (vp_Sl (fun r => r = v)) args s 0 0 (fun _ => False)) (F0 m pc ls [.long w]) :=
  W.lret hx hb hr (fun t ht _ => ⟨w, rfl, hv, ht⟩) (fun q hq => by cases hq) hd hlocks
theorem pu_vret (hx : p.tables.exec = Jvm.exec) (hb : c.code = cc) (hr : meth.sig.returnType = none) (hlocks : meth.locks = false) (hd : decode cc pc = .ok (.return_, 1)) :
    W p l e R s m args below meth c s.heap [] 0 0 (MQ below (va_Sv (fun _ => True)) args s 0 0 (fun _ => False)) (F0 m pc ls []) :=
  W.vret hx hb hr (fun t ht _ => ⟨rfl, trivial, ht⟩) (fun q hq => by cases hq) hd hlocks
/-- long compare and branch in one -/
theorem lx_ge {x y : Int64} {off : Int} {tgt : Nat} (hx : p.tables.exec = Jvm.exec) (hb : c.code = cc) (hd : decode cc pc = .ok (.lcmp, 1)) (hd2 : decode cc (pc + 1) = .ok (.ifCond .ge off, 3)) (ht : ((pc + 1 : Nat) : Int) + off = (tgt : Int))
    (kt : y ≤ x → W p l e R s m args below meth c H locs cells slots Q (F0 m tgt ls rest)) (kf : ¬ y ≤ x → W p l e R s m args below meth c H locs cells slots Q (F0 m (pc + 4) ls rest)) : W p l e R s m args below meth c H locs cells slots Q (F0 m pc ls (.long y :: .long x :: rest)) :=
  W.lcmp hx hb hd (lv_if_ge hx hb hd2 ht (fun h => kt ((lg_cmp_ge x y).mp h)) (fun h => kf (fun h2 => h ((lg_cmp_ge x y).mpr h2))))
theorem lx_lt {x y : Int64} {off : Int} {tgt : Nat} (hx : p.tables.exec = Jvm.exec) (hb : c.code = cc) (hd : decode cc pc = .ok (.lcmp, 1)) (hd2 : decode cc (pc + 1) = .ok (.ifCond .lt off, 3)) (ht : ((pc + 1 : Nat) : Int) + off = (tgt : Int))
    (kt : x < y → W p l e R s m args below meth c H locs cells slots Q (F0 m tgt ls rest)) (kf : ¬ x < y → W p l e R s m args below meth c H locs cells slots Q (F0 m (pc + 4) ls rest)) : W p l e R s m args below meth c H locs cells slots Q (F0 m pc ls (.long y :: .long x :: rest)) :=
  W.lcmp hx hb hd (lv_if_lt hx hb hd2 ht (fun h => kt ((lg_cmp_lt x y).mp h)) (fun h => kf (fun h2 => h ((lg_cmp_lt x y).mpr h2))))
theorem lx_le {x y : Int64} {off : Int} {tgt : Nat} (hx : p.tables.exec = Jvm.exec) (hb : c.code = cc) (hd : decode cc pc = .ok (.lcmp, 1)) (hd2 : decode cc (pc + 1) = .ok (.ifCond .le off, 3)) (ht : ((pc + 1 : Nat) : Int) + off = (tgt : Int))
    (kt : x ≤ y → W p l e R s m args below meth c H locs cells slots Q (F0 m tgt ls rest)) (kf : ¬ x ≤ y → W p l e R s m args below meth c H locs cells slots Q (F0 m (pc + 4) ls rest)) : W p l e R s m args below meth c H locs cells slots Q (F0 m pc ls (.long y :: .long x :: rest)) :=
  W.lcmp hx hb hd (lv_if_le hx hb hd2 ht (fun h => kt ((lg_cmp_le x y).mp h)) (fun h => kf (fun h2 => h ((lg_cmp_le x y).mpr h2))))
theorem lx_gt {x y : Int64} {off : Int} {tgt : Nat} (hx : p.tables.exec = Jvm.exec) (hb : c.code = cc) (hd : decode cc pc = .ok (.lcmp, 1)) (hd2 : decode cc (pc + 1) = .ok (.ifCond .gt off, 3)) (ht : ((pc + 1 : Nat) : Int) + off = (tgt : Int))
    (kt : y < x → W p l e R s m args below meth c H locs cells slots Q (F0 m tgt ls rest)) (kf : ¬ y < x → W p l e R s m args below meth c H locs cells slots Q (F0 m (pc + 4) ls rest)) : W p l e R s m args below meth c H locs cells slots Q (F0 m pc ls (.long y :: .long x :: rest)) :=
  W.lcmp hx hb hd (lv_if_gt hx hb hd2 ht (fun h => kt ((lg_cmp_gt x y).mp h)) (fun h => kf (fun h2 => h ((lg_cmp_gt x y).mpr h2))))
theorem lx_eq {x y : Int64} {off : Int} {tgt : Nat} (hx : p.tables.exec = Jvm.exec) (hb : c.code = cc) (hd : decode cc pc = .ok (.lcmp, 1)) (hd2 : decode cc (pc + 1) = .ok (.ifCond .eq off, 3)) (ht : ((pc + 1 : Nat) : Int) + off = (tgt : Int))
    (kt : x = y → W p l e R s m args below meth c H locs cells slots Q (F0 m tgt ls rest)) (kf : ¬ x = y → W p l e R s m args below meth c H locs cells slots Q (F0 m (pc + 4) ls rest)) : W p l e R s m args below meth c H locs cells slots Q (F0 m pc ls (.long y :: .long x :: rest)) :=
  W.lcmp hx hb hd (lv_if_eq hx hb hd2 ht (fun h => kt ((lg_cmp_eq x y).mp h)) (fun h => kf (fun h2 => h ((lg_cmp_eq x y).mpr h2))))
theorem lx_ne {x y : Int64} {off : Int} {tgt : Nat} (hx : p.tables.exec = Jvm.exec) (hb : c.code = cc) (hd : decode cc pc = .ok (.lcmp, 1)) (hd2 : decode cc (pc + 1) = .ok (.ifCond .ne off, 3)) (ht : ((pc + 1 : Nat) : Int) + off = (tgt : Int))
    (kt : ¬ x = y → W p l e R s m args below meth c H locs cells slots Q (F0 m tgt ls rest)) (kf : x = y → W p l e R s m args below meth c H locs cells slots Q (F0 m (pc + 4) ls rest)) : W p l e R s m args below meth c H locs cells slots Q (F0 m pc ls (.long y :: .long x :: rest)) :=
  W.lcmp hx hb hd (lv_if_ne hx hb hd2 ht (fun h => kt (fun h2 => h ((lg_cmp_eq x y).mpr h2))) (fun h => kf ((lg_cmp_eq x y).mp h)))
end PUA
end
section
theorem md_L_law_0 : decode mb_L_law 0 = .ok (.new 8, 3) := by decide +kernel
theorem md_L_law_3 : decode mb_L_law 3 = .ok (.dup, 1) := by decide +kernel
theorem md_L_law_4 : decode mb_L_law 4 = .ok (.invokespecial 72, 3) := by decide +kernel
theorem md_L_law_7 : decode mb_L_law 7 = .ok (.astore_n 1, 1) := by decide +kernel
theorem md_L_law_8 : decode mb_L_law 8 = .ok (.new 73, 3) := by decide +kernel
theorem md_L_law_11 : decode mb_L_law 11 = .ok (.dup, 1) := by decide +kernel
theorem md_L_law_12 : decode mb_L_law 12 = .ok (.invokespecial 75, 3) := by decide +kernel
theorem md_L_law_15 : decode mb_L_law 15 = .ok (.astore_n 2, 1) := by decide +kernel
theorem md_L_law_16 : decode mb_L_law 16 = .ok (.iconst 1, 1) := by decide +kernel
theorem md_L_law_17 : decode mb_L_law 17 = .ok (.newarray .long, 2) := by decide +kernel
theorem md_L_law_19 : decode mb_L_law 19 = .ok (.astore_n 3, 1) := by decide +kernel
theorem md_L_law_20 : decode mb_L_law 20 = .ok (.iconst 0, 1) := by decide +kernel
theorem md_L_law_21 : decode mb_L_law 21 = .ok (.istore 4, 2) := by decide +kernel
theorem md_L_law_23 : decode mb_L_law 23 = .ok (.iload 4, 2) := by decide +kernel
theorem md_L_law_25 : decode mb_L_law 25 = .ok (.aload_n 0, 1) := by decide +kernel
theorem md_L_law_26 : decode mb_L_law 26 = .ok (.arraylength, 1) := by decide +kernel
theorem md_L_law_27 : decode mb_L_law 27 = .ok (.bipush 9, 2) := by decide +kernel
theorem md_L_law_29 : decode mb_L_law 29 = .ok (.isub, 1) := by decide +kernel
theorem md_L_law_30 : decode mb_L_law 30 = .ok (.if_icmp .gt 1160, 3) := by decide +kernel
theorem md_L_law_33 : decode mb_L_law 33 = .ok (.aload_n 0, 1) := by decide +kernel
theorem md_L_law_34 : decode mb_L_law 34 = .ok (.iload 4, 2) := by decide +kernel
theorem md_L_law_36 : decode mb_L_law 36 = .ok (.iaload, 1) := by decide +kernel
theorem md_L_law_37 : decode mb_L_law 37 = .ok (.bipush 31, 2) := by decide +kernel
theorem md_L_law_39 : decode mb_L_law 39 = .ok (.iand, 1) := by decide +kernel
theorem md_L_law_40 : decode mb_L_law 40 = .ok (.tableswitch 1144 0 16 #[84, 109, 122, 162, 202, 318, 358, 418, 616, 644, 660, 700, 864, 904, 932, 992, 1044], 84) := by decide +kernel
theorem md_L_law_124 : decode mb_L_law 124 = .ok (.aload_n 1, 1) := by decide +kernel
theorem md_L_law_125 : decode mb_L_law 125 = .ok (.aload_n 0, 1) := by decide +kernel
theorem md_L_law_126 : decode mb_L_law 126 = .ok (.iload 4, 2) := by decide +kernel
theorem md_L_law_128 : decode mb_L_law 128 = .ok (.iconst 1, 1) := by decide +kernel
theorem md_L_law_129 : decode mb_L_law 129 = .ok (.iadd, 1) := by decide +kernel
theorem md_L_law_130 : decode mb_L_law 130 = .ok (.iaload, 1) := by decide +kernel
theorem md_L_law_131 : decode mb_L_law 131 = .ok (.invokevirtual 76, 3) := by decide +kernel
theorem md_L_law_134 : decode mb_L_law 134 = .ok (.pop, 1) := by decide +kernel
theorem md_L_law_135 : decode mb_L_law 135 = .ok (.aload_n 2, 1) := by decide +kernel
theorem md_L_law_136 : decode mb_L_law 136 = .ok (.aload_n 0, 1) := by decide +kernel
theorem md_L_law_137 : decode mb_L_law 137 = .ok (.iload 4, 2) := by decide +kernel
theorem md_L_law_139 : decode mb_L_law 139 = .ok (.iconst 1, 1) := by decide +kernel
theorem md_L_law_140 : decode mb_L_law 140 = .ok (.iadd, 1) := by decide +kernel
theorem md_L_law_141 : decode mb_L_law 141 = .ok (.iaload, 1) := by decide +kernel
theorem md_L_law_142 : decode mb_L_law 142 = .ok (.invokevirtual 80, 3) := by decide +kernel
theorem md_L_law_145 : decode mb_L_law 145 = .ok (.pop, 1) := by decide +kernel
theorem md_L_law_146 : decode mb_L_law 146 = .ok (.goto 1038, 3) := by decide +kernel
theorem md_L_law_149 : decode mb_L_law 149 = .ok (.aload_n 1, 1) := by decide +kernel
theorem md_L_law_150 : decode mb_L_law 150 = .ok (.invokevirtual 81, 3) := by decide +kernel
theorem md_L_law_153 : decode mb_L_law 153 = .ok (.pop, 1) := by decide +kernel
theorem md_L_law_154 : decode mb_L_law 154 = .ok (.aload_n 2, 1) := by decide +kernel
theorem md_L_law_155 : decode mb_L_law 155 = .ok (.invokevirtual 84, 3) := by decide +kernel
theorem md_L_law_158 : decode mb_L_law 158 = .ok (.pop, 1) := by decide +kernel
theorem md_L_law_159 : decode mb_L_law 159 = .ok (.goto 1025, 3) := by decide +kernel
theorem md_L_law_162 : decode mb_L_law 162 = .ok (.aload_n 1, 1) := by decide +kernel
theorem md_L_law_163 : decode mb_L_law 163 = .ok (.aload_n 0, 1) := by decide +kernel
theorem md_L_law_164 : decode mb_L_law 164 = .ok (.iload 4, 2) := by decide +kernel
theorem md_L_law_166 : decode mb_L_law 166 = .ok (.iconst 1, 1) := by decide +kernel
theorem md_L_law_167 : decode mb_L_law 167 = .ok (.iadd, 1) := by decide +kernel
theorem md_L_law_168 : decode mb_L_law 168 = .ok (.iaload, 1) := by decide +kernel
theorem md_L_law_169 : decode mb_L_law 169 = .ok (.aload_n 0, 1) := by decide +kernel
theorem md_L_law_170 : decode mb_L_law 170 = .ok (.iload 4, 2) := by decide +kernel
theorem md_L_law_172 : decode mb_L_law 172 = .ok (.iconst 2, 1) := by decide +kernel
theorem md_L_law_173 : decode mb_L_law 173 = .ok (.iadd, 1) := by decide +kernel
theorem md_L_law_174 : decode mb_L_law 174 = .ok (.iaload, 1) := by decide +kernel
theorem md_L_law_175 : decode mb_L_law 175 = .ok (.aload_n 3, 1) := by decide +kernel
theorem md_L_law_176 : decode mb_L_law 176 = .ok (.invokestatic 85, 3) := by decide +kernel
theorem md_L_law_179 : decode mb_L_law 179 = .ok (.istore 5, 2) := by decide +kernel
theorem md_L_law_181 : decode mb_L_law 181 = .ok (.aload_n 2, 1) := by decide +kernel
theorem md_L_law_182 : decode mb_L_law 182 = .ok (.aload_n 0, 1) := by decide +kernel
theorem md_L_law_183 : decode mb_L_law 183 = .ok (.iload 4, 2) := by decide +kernel
theorem md_L_law_185 : decode mb_L_law 185 = .ok (.iconst 1, 1) := by decide +kernel
theorem md_L_law_186 : decode mb_L_law 186 = .ok (.iadd, 1) := by decide +kernel
theorem md_L_law_187 : decode mb_L_law 187 = .ok (.iaload, 1) := by decide +kernel
theorem md_L_law_188 : decode mb_L_law 188 = .ok (.aload_n 0, 1) := by decide +kernel
theorem md_L_law_189 : decode mb_L_law 189 = .ok (.iload 4, 2) := by decide +kernel
theorem md_L_law_191 : decode mb_L_law 191 = .ok (.iconst 2, 1) := by decide +kernel
theorem md_L_law_192 : decode mb_L_law 192 = .ok (.iadd, 1) := by decide +kernel
theorem md_L_law_193 : decode mb_L_law 193 = .ok (.iaload, 1) := by decide +kernel
theorem md_L_law_194 : decode mb_L_law 194 = .ok (.invokevirtual 90, 3) := by decide +kernel
theorem md_L_law_197 : decode mb_L_law 197 = .ok (.istore 6, 2) := by decide +kernel
theorem md_L_law_199 : decode mb_L_law 199 = .ok (.goto 985, 3) := by decide +kernel
theorem md_L_law_202 : decode mb_L_law 202 = .ok (.aload_n 1, 1) := by decide +kernel
theorem md_L_law_203 : decode mb_L_law 203 = .ok (.aload_n 0, 1) := by decide +kernel
theorem md_L_law_204 : decode mb_L_law 204 = .ok (.iload 4, 2) := by decide +kernel
theorem md_L_law_206 : decode mb_L_law 206 = .ok (.iconst 1, 1) := by decide +kernel
theorem md_L_law_207 : decode mb_L_law 207 = .ok (.iadd, 1) := by decide +kernel
theorem md_L_law_208 : decode mb_L_law 208 = .ok (.iaload, 1) := by decide +kernel
theorem md_L_law_209 : decode mb_L_law 209 = .ok (.aload_n 0, 1) := by decide +kernel
theorem md_L_law_210 : decode mb_L_law 210 = .ok (.iload 4, 2) := by decide +kernel
theorem md_L_law_212 : decode mb_L_law 212 = .ok (.iconst 2, 1) := by decide +kernel
theorem md_L_law_213 : decode mb_L_law 213 = .ok (.iadd, 1) := by decide +kernel
theorem md_L_law_214 : decode mb_L_law 214 = .ok (.iaload, 1) := by decide +kernel
theorem md_L_law_215 : decode mb_L_law 215 = .ok (.aload_n 3, 1) := by decide +kernel
theorem md_L_law_216 : decode mb_L_law 216 = .ok (.invokestatic 91, 3) := by decide +kernel
theorem md_L_law_219 : decode mb_L_law 219 = .ok (.istore 5, 2) := by decide +kernel
theorem md_L_law_221 : decode mb_L_law 221 = .ok (.aload_n 2, 1) := by decide +kernel
theorem md_L_law_222 : decode mb_L_law 222 = .ok (.aload_n 0, 1) := by decide +kernel
theorem md_L_law_223 : decode mb_L_law 223 = .ok (.iload 4, 2) := by decide +kernel
theorem md_L_law_225 : decode mb_L_law 225 = .ok (.iconst 1, 1) := by decide +kernel
theorem md_L_law_226 : decode mb_L_law 226 = .ok (.iadd, 1) := by decide +kernel
theorem md_L_law_227 : decode mb_L_law 227 = .ok (.iaload, 1) := by decide +kernel
theorem md_L_law_228 : decode mb_L_law 228 = .ok (.aload_n 0, 1) := by decide +kernel
theorem md_L_law_229 : decode mb_L_law 229 = .ok (.iload 4, 2) := by decide +kernel
theorem md_L_law_231 : decode mb_L_law 231 = .ok (.iconst 2, 1) := by decide +kernel
theorem md_L_law_232 : decode mb_L_law 232 = .ok (.iadd, 1) := by decide +kernel
theorem md_L_law_233 : decode mb_L_law 233 = .ok (.iaload, 1) := by decide +kernel
theorem md_L_law_234 : decode mb_L_law 234 = .ok (.invokevirtual 93, 3) := by decide +kernel
theorem md_L_law_237 : decode mb_L_law 237 = .ok (.istore 6, 2) := by decide +kernel
theorem md_L_law_239 : decode mb_L_law 239 = .ok (.goto 945, 3) := by decide +kernel
theorem md_L_law_242 : decode mb_L_law 242 = .ok (.aload_n 1, 1) := by decide +kernel
theorem md_L_law_243 : decode mb_L_law 243 = .ok (.aload_n 0, 1) := by decide +kernel
theorem md_L_law_244 : decode mb_L_law 244 = .ok (.iload 4, 2) := by decide +kernel
theorem md_L_law_246 : decode mb_L_law 246 = .ok (.iconst 1, 1) := by decide +kernel
theorem md_L_law_247 : decode mb_L_law 247 = .ok (.iadd, 1) := by decide +kernel
theorem md_L_law_248 : decode mb_L_law 248 = .ok (.iaload, 1) := by decide +kernel
theorem md_L_law_249 : decode mb_L_law 249 = .ok (.i2l, 1) := by decide +kernel
theorem md_L_law_250 : decode mb_L_law 250 = .ok (.bipush 32, 2) := by decide +kernel
theorem md_L_law_252 : decode mb_L_law 252 = .ok (.lshl, 1) := by decide +kernel
theorem md_L_law_253 : decode mb_L_law 253 = .ok (.aload_n 0, 1) := by decide +kernel
theorem md_L_law_254 : decode mb_L_law 254 = .ok (.iload 4, 2) := by decide +kernel
theorem md_L_law_256 : decode mb_L_law 256 = .ok (.iconst 2, 1) := by decide +kernel
theorem md_L_law_257 : decode mb_L_law 257 = .ok (.iadd, 1) := by decide +kernel
theorem md_L_law_258 : decode mb_L_law 258 = .ok (.iaload, 1) := by decide +kernel
theorem md_L_law_259 : decode mb_L_law 259 = .ok (.i2l, 1) := by decide +kernel
theorem md_L_law_260 : decode mb_L_law 260 = .ok (.ldc2_w 94, 3) := by decide +kernel
theorem md_L_law_263 : decode mb_L_law 263 = .ok (.land, 1) := by decide +kernel
theorem md_L_law_264 : decode mb_L_law 264 = .ok (.lor, 1) := by decide +kernel
theorem md_L_law_265 : decode mb_L_law 265 = .ok (.aload_n 0, 1) := by decide +kernel
theorem md_L_law_266 : decode mb_L_law 266 = .ok (.iload 4, 2) := by decide +kernel
theorem md_L_law_268 : decode mb_L_law 268 = .ok (.iconst 3, 1) := by decide +kernel
theorem md_L_law_269 : decode mb_L_law 269 = .ok (.iadd, 1) := by decide +kernel
theorem md_L_law_270 : decode mb_L_law 270 = .ok (.iaload, 1) := by decide +kernel
theorem md_L_law_271 : decode mb_L_law 271 = .ok (.i2l, 1) := by decide +kernel
theorem md_L_law_272 : decode mb_L_law 272 = .ok (.bipush 32, 2) := by decide +kernel
end
section
theorem md_L_law_274 : decode mb_L_law 274 = .ok (.lshl, 1) := by decide +kernel
theorem md_L_law_275 : decode mb_L_law 275 = .ok (.aload_n 0, 1) := by decide +kernel
theorem md_L_law_276 : decode mb_L_law 276 = .ok (.iload 4, 2) := by decide +kernel
theorem md_L_law_278 : decode mb_L_law 278 = .ok (.iconst 4, 1) := by decide +kernel
theorem md_L_law_279 : decode mb_L_law 279 = .ok (.iadd, 1) := by decide +kernel
theorem md_L_law_280 : decode mb_L_law 280 = .ok (.iaload, 1) := by decide +kernel
theorem md_L_law_281 : decode mb_L_law 281 = .ok (.i2l, 1) := by decide +kernel
theorem md_L_law_282 : decode mb_L_law 282 = .ok (.ldc2_w 94, 3) := by decide +kernel
theorem md_L_law_285 : decode mb_L_law 285 = .ok (.land, 1) := by decide +kernel
theorem md_L_law_286 : decode mb_L_law 286 = .ok (.lor, 1) := by decide +kernel
theorem md_L_law_287 : decode mb_L_law 287 = .ok (.aload_n 0, 1) := by decide +kernel
theorem md_L_law_288 : decode mb_L_law 288 = .ok (.iload 4, 2) := by decide +kernel
theorem md_L_law_290 : decode mb_L_law 290 = .ok (.iconst 5, 1) := by decide +kernel
theorem md_L_law_291 : decode mb_L_law 291 = .ok (.iadd, 1) := by decide +kernel
theorem md_L_law_292 : decode mb_L_law 292 = .ok (.iaload, 1) := by decide +kernel
theorem md_L_law_293 : decode mb_L_law 293 = .ok (.aload_n 3, 1) := by decide +kernel
theorem md_L_law_294 : decode mb_L_law 294 = .ok (.invokestatic 96, 3) := by decide +kernel
theorem md_L_law_297 : decode mb_L_law 297 = .ok (.istore 5, 2) := by decide +kernel
theorem md_L_law_299 : decode mb_L_law 299 = .ok (.aload_n 2, 1) := by decide +kernel
theorem md_L_law_300 : decode mb_L_law 300 = .ok (.aload_n 0, 1) := by decide +kernel
theorem md_L_law_301 : decode mb_L_law 301 = .ok (.iload 4, 2) := by decide +kernel
theorem md_L_law_303 : decode mb_L_law 303 = .ok (.iconst 1, 1) := by decide +kernel
theorem md_L_law_304 : decode mb_L_law 304 = .ok (.iadd, 1) := by decide +kernel
theorem md_L_law_305 : decode mb_L_law 305 = .ok (.iaload, 1) := by decide +kernel
theorem md_L_law_306 : decode mb_L_law 306 = .ok (.i2l, 1) := by decide +kernel
theorem md_L_law_307 : decode mb_L_law 307 = .ok (.bipush 32, 2) := by decide +kernel
theorem md_L_law_309 : decode mb_L_law 309 = .ok (.lshl, 1) := by decide +kernel
theorem md_L_law_310 : decode mb_L_law 310 = .ok (.aload_n 0, 1) := by decide +kernel
theorem md_L_law_311 : decode mb_L_law 311 = .ok (.iload 4, 2) := by decide +kernel
theorem md_L_law_313 : decode mb_L_law 313 = .ok (.iconst 2, 1) := by decide +kernel
theorem md_L_law_314 : decode mb_L_law 314 = .ok (.iadd, 1) := by decide +kernel
theorem md_L_law_315 : decode mb_L_law 315 = .ok (.iaload, 1) := by decide +kernel
theorem md_L_law_316 : decode mb_L_law 316 = .ok (.i2l, 1) := by decide +kernel
theorem md_L_law_317 : decode mb_L_law 317 = .ok (.ldc2_w 94, 3) := by decide +kernel
theorem md_L_law_320 : decode mb_L_law 320 = .ok (.land, 1) := by decide +kernel
theorem md_L_law_321 : decode mb_L_law 321 = .ok (.lor, 1) := by decide +kernel
theorem md_L_law_322 : decode mb_L_law 322 = .ok (.aload_n 0, 1) := by decide +kernel
theorem md_L_law_323 : decode mb_L_law 323 = .ok (.iload 4, 2) := by decide +kernel
theorem md_L_law_325 : decode mb_L_law 325 = .ok (.iconst 3, 1) := by decide +kernel
theorem md_L_law_326 : decode mb_L_law 326 = .ok (.iadd, 1) := by decide +kernel
theorem md_L_law_327 : decode mb_L_law 327 = .ok (.iaload, 1) := by decide +kernel
theorem md_L_law_328 : decode mb_L_law 328 = .ok (.i2l, 1) := by decide +kernel
theorem md_L_law_329 : decode mb_L_law 329 = .ok (.bipush 32, 2) := by decide +kernel
theorem md_L_law_331 : decode mb_L_law 331 = .ok (.lshl, 1) := by decide +kernel
theorem md_L_law_332 : decode mb_L_law 332 = .ok (.aload_n 0, 1) := by decide +kernel
theorem md_L_law_333 : decode mb_L_law 333 = .ok (.iload 4, 2) := by decide +kernel
theorem md_L_law_335 : decode mb_L_law 335 = .ok (.iconst 4, 1) := by decide +kernel
theorem md_L_law_336 : decode mb_L_law 336 = .ok (.iadd, 1) := by decide +kernel
theorem md_L_law_337 : decode mb_L_law 337 = .ok (.iaload, 1) := by decide +kernel
theorem md_L_law_338 : decode mb_L_law 338 = .ok (.i2l, 1) := by decide +kernel
theorem md_L_law_339 : decode mb_L_law 339 = .ok (.ldc2_w 94, 3) := by decide +kernel
theorem md_L_law_342 : decode mb_L_law 342 = .ok (.land, 1) := by decide +kernel
theorem md_L_law_343 : decode mb_L_law 343 = .ok (.lor, 1) := by decide +kernel
theorem md_L_law_344 : decode mb_L_law 344 = .ok (.aload_n 0, 1) := by decide +kernel
theorem md_L_law_345 : decode mb_L_law 345 = .ok (.iload 4, 2) := by decide +kernel
theorem md_L_law_347 : decode mb_L_law 347 = .ok (.iconst 5, 1) := by decide +kernel
theorem md_L_law_348 : decode mb_L_law 348 = .ok (.iadd, 1) := by decide +kernel
theorem md_L_law_349 : decode mb_L_law 349 = .ok (.iaload, 1) := by decide +kernel
theorem md_L_law_350 : decode mb_L_law 350 = .ok (.invokevirtual 99, 3) := by decide +kernel
theorem md_L_law_353 : decode mb_L_law 353 = .ok (.istore 6, 2) := by decide +kernel
theorem md_L_law_355 : decode mb_L_law 355 = .ok (.goto 829, 3) := by decide +kernel
theorem md_L_law_358 : decode mb_L_law 358 = .ok (.aload_n 1, 1) := by decide +kernel
theorem md_L_law_359 : decode mb_L_law 359 = .ok (.aload_n 0, 1) := by decide +kernel
theorem md_L_law_360 : decode mb_L_law 360 = .ok (.iload 4, 2) := by decide +kernel
theorem md_L_law_362 : decode mb_L_law 362 = .ok (.iconst 1, 1) := by decide +kernel
theorem md_L_law_363 : decode mb_L_law 363 = .ok (.iadd, 1) := by decide +kernel
theorem md_L_law_364 : decode mb_L_law 364 = .ok (.iaload, 1) := by decide +kernel
theorem md_L_law_365 : decode mb_L_law 365 = .ok (.aload_n 0, 1) := by decide +kernel
theorem md_L_law_366 : decode mb_L_law 366 = .ok (.iload 4, 2) := by decide +kernel
theorem md_L_law_368 : decode mb_L_law 368 = .ok (.iconst 2, 1) := by decide +kernel
theorem md_L_law_369 : decode mb_L_law 369 = .ok (.iadd, 1) := by decide +kernel
theorem md_L_law_370 : decode mb_L_law 370 = .ok (.iaload, 1) := by decide +kernel
theorem md_L_law_371 : decode mb_L_law 371 = .ok (.aload_n 3, 1) := by decide +kernel
theorem md_L_law_372 : decode mb_L_law 372 = .ok (.invokestatic 100, 3) := by decide +kernel
theorem md_L_law_375 : decode mb_L_law 375 = .ok (.istore 5, 2) := by decide +kernel
theorem md_L_law_377 : decode mb_L_law 377 = .ok (.aload_n 2, 1) := by decide +kernel
theorem md_L_law_378 : decode mb_L_law 378 = .ok (.aload_n 0, 1) := by decide +kernel
theorem md_L_law_379 : decode mb_L_law 379 = .ok (.iload 4, 2) := by decide +kernel
theorem md_L_law_381 : decode mb_L_law 381 = .ok (.iconst 1, 1) := by decide +kernel
theorem md_L_law_382 : decode mb_L_law 382 = .ok (.iadd, 1) := by decide +kernel
theorem md_L_law_383 : decode mb_L_law 383 = .ok (.iaload, 1) := by decide +kernel
theorem md_L_law_384 : decode mb_L_law 384 = .ok (.aload_n 0, 1) := by decide +kernel
theorem md_L_law_385 : decode mb_L_law 385 = .ok (.iload 4, 2) := by decide +kernel
theorem md_L_law_387 : decode mb_L_law 387 = .ok (.iconst 2, 1) := by decide +kernel
theorem md_L_law_388 : decode mb_L_law 388 = .ok (.iadd, 1) := by decide +kernel
theorem md_L_law_389 : decode mb_L_law 389 = .ok (.iaload, 1) := by decide +kernel
theorem md_L_law_390 : decode mb_L_law 390 = .ok (.invokevirtual 102, 3) := by decide +kernel
theorem md_L_law_393 : decode mb_L_law 393 = .ok (.istore 6, 2) := by decide +kernel
theorem md_L_law_395 : decode mb_L_law 395 = .ok (.goto 789, 3) := by decide +kernel
theorem md_L_law_398 : decode mb_L_law 398 = .ok (.aload_n 1, 1) := by decide +kernel
theorem md_L_law_399 : decode mb_L_law 399 = .ok (.aload_n 0, 1) := by decide +kernel
theorem md_L_law_400 : decode mb_L_law 400 = .ok (.iload 4, 2) := by decide +kernel
theorem md_L_law_402 : decode mb_L_law 402 = .ok (.iconst 1, 1) := by decide +kernel
theorem md_L_law_403 : decode mb_L_law 403 = .ok (.iadd, 1) := by decide +kernel
theorem md_L_law_404 : decode mb_L_law 404 = .ok (.iaload, 1) := by decide +kernel
theorem md_L_law_405 : decode mb_L_law 405 = .ok (.i2l, 1) := by decide +kernel
theorem md_L_law_406 : decode mb_L_law 406 = .ok (.bipush 32, 2) := by decide +kernel
theorem md_L_law_408 : decode mb_L_law 408 = .ok (.lshl, 1) := by decide +kernel
theorem md_L_law_409 : decode mb_L_law 409 = .ok (.aload_n 0, 1) := by decide +kernel
theorem md_L_law_410 : decode mb_L_law 410 = .ok (.iload 4, 2) := by decide +kernel
theorem md_L_law_412 : decode mb_L_law 412 = .ok (.iconst 2, 1) := by decide +kernel
theorem md_L_law_413 : decode mb_L_law 413 = .ok (.iadd, 1) := by decide +kernel
theorem md_L_law_414 : decode mb_L_law 414 = .ok (.iaload, 1) := by decide +kernel
theorem md_L_law_415 : decode mb_L_law 415 = .ok (.i2l, 1) := by decide +kernel
theorem md_L_law_416 : decode mb_L_law 416 = .ok (.ldc2_w 94, 3) := by decide +kernel
theorem md_L_law_419 : decode mb_L_law 419 = .ok (.land, 1) := by decide +kernel
theorem md_L_law_420 : decode mb_L_law 420 = .ok (.lor, 1) := by decide +kernel
theorem md_L_law_421 : decode mb_L_law 421 = .ok (.aload_n 3, 1) := by decide +kernel
theorem md_L_law_422 : decode mb_L_law 422 = .ok (.invokestatic 103, 3) := by decide +kernel
theorem md_L_law_425 : decode mb_L_law 425 = .ok (.istore 5, 2) := by decide +kernel
theorem md_L_law_427 : decode mb_L_law 427 = .ok (.aload_n 2, 1) := by decide +kernel
theorem md_L_law_428 : decode mb_L_law 428 = .ok (.aload_n 0, 1) := by decide +kernel
theorem md_L_law_429 : decode mb_L_law 429 = .ok (.iload 4, 2) := by decide +kernel
theorem md_L_law_431 : decode mb_L_law 431 = .ok (.iconst 1, 1) := by decide +kernel
theorem md_L_law_432 : decode mb_L_law 432 = .ok (.iadd, 1) := by decide +kernel
theorem md_L_law_433 : decode mb_L_law 433 = .ok (.iaload, 1) := by decide +kernel
theorem md_L_law_434 : decode mb_L_law 434 = .ok (.i2l, 1) := by decide +kernel
theorem md_L_law_435 : decode mb_L_law 435 = .ok (.bipush 32, 2) := by decide +kernel
theorem md_L_law_437 : decode mb_L_law 437 = .ok (.lshl, 1) := by decide +kernel
theorem md_L_law_438 : decode mb_L_law 438 = .ok (.aload_n 0, 1) := by decide +kernel
theorem md_L_law_439 : decode mb_L_law 439 = .ok (.iload 4, 2) := by decide +kernel
theorem md_L_law_441 : decode mb_L_law 441 = .ok (.iconst 2, 1) := by decide +kernel
theorem md_L_law_442 : decode mb_L_law 442 = .ok (.iadd, 1) := by decide +kernel
theorem md_L_law_443 : decode mb_L_law 443 = .ok (.iaload, 1) := by decide +kernel
theorem md_L_law_444 : decode mb_L_law 444 = .ok (.i2l, 1) := by decide +kernel
theorem md_L_law_445 : decode mb_L_law 445 = .ok (.ldc2_w 94, 3) := by decide +kernel
theorem md_L_law_448 : decode mb_L_law 448 = .ok (.land, 1) := by decide +kernel
theorem md_L_law_449 : decode mb_L_law 449 = .ok (.lor, 1) := by decide +kernel
theorem md_L_law_450 : decode mb_L_law 450 = .ok (.invokevirtual 106, 3) := by decide +kernel
theorem md_L_law_453 : decode mb_L_law 453 = .ok (.istore 6, 2) := by decide +kernel
end
section
theorem md_L_law_455 : decode mb_L_law 455 = .ok (.goto 729, 3) := by decide +kernel
theorem md_L_law_458 : decode mb_L_law 458 = .ok (.aload_n 1, 1) := by decide +kernel
theorem md_L_law_459 : decode mb_L_law 459 = .ok (.aload_n 0, 1) := by decide +kernel
theorem md_L_law_460 : decode mb_L_law 460 = .ok (.iload 4, 2) := by decide +kernel
theorem md_L_law_462 : decode mb_L_law 462 = .ok (.iconst 1, 1) := by decide +kernel
theorem md_L_law_463 : decode mb_L_law 463 = .ok (.iadd, 1) := by decide +kernel
theorem md_L_law_464 : decode mb_L_law 464 = .ok (.iaload, 1) := by decide +kernel
theorem md_L_law_465 : decode mb_L_law 465 = .ok (.i2l, 1) := by decide +kernel
theorem md_L_law_466 : decode mb_L_law 466 = .ok (.bipush 32, 2) := by decide +kernel
theorem md_L_law_468 : decode mb_L_law 468 = .ok (.lshl, 1) := by decide +kernel
theorem md_L_law_469 : decode mb_L_law 469 = .ok (.aload_n 0, 1) := by decide +kernel
theorem md_L_law_470 : decode mb_L_law 470 = .ok (.iload 4, 2) := by decide +kernel
theorem md_L_law_472 : decode mb_L_law 472 = .ok (.iconst 2, 1) := by decide +kernel
theorem md_L_law_473 : decode mb_L_law 473 = .ok (.iadd, 1) := by decide +kernel
theorem md_L_law_474 : decode mb_L_law 474 = .ok (.iaload, 1) := by decide +kernel
theorem md_L_law_475 : decode mb_L_law 475 = .ok (.i2l, 1) := by decide +kernel
theorem md_L_law_476 : decode mb_L_law 476 = .ok (.ldc2_w 94, 3) := by decide +kernel
theorem md_L_law_479 : decode mb_L_law 479 = .ok (.land, 1) := by decide +kernel
theorem md_L_law_480 : decode mb_L_law 480 = .ok (.lor, 1) := by decide +kernel
theorem md_L_law_481 : decode mb_L_law 481 = .ok (.aload_n 0, 1) := by decide +kernel
theorem md_L_law_482 : decode mb_L_law 482 = .ok (.iload 4, 2) := by decide +kernel
theorem md_L_law_484 : decode mb_L_law 484 = .ok (.iconst 3, 1) := by decide +kernel
theorem md_L_law_485 : decode mb_L_law 485 = .ok (.iadd, 1) := by decide +kernel
theorem md_L_law_486 : decode mb_L_law 486 = .ok (.iaload, 1) := by decide +kernel
theorem md_L_law_487 : decode mb_L_law 487 = .ok (.i2l, 1) := by decide +kernel
theorem md_L_law_488 : decode mb_L_law 488 = .ok (.bipush 32, 2) := by decide +kernel
theorem md_L_law_490 : decode mb_L_law 490 = .ok (.lshl, 1) := by decide +kernel
theorem md_L_law_491 : decode mb_L_law 491 = .ok (.aload_n 0, 1) := by decide +kernel
theorem md_L_law_492 : decode mb_L_law 492 = .ok (.iload 4, 2) := by decide +kernel
theorem md_L_law_494 : decode mb_L_law 494 = .ok (.iconst 4, 1) := by decide +kernel
theorem md_L_law_495 : decode mb_L_law 495 = .ok (.iadd, 1) := by decide +kernel
theorem md_L_law_496 : decode mb_L_law 496 = .ok (.iaload, 1) := by decide +kernel
theorem md_L_law_497 : decode mb_L_law 497 = .ok (.i2l, 1) := by decide +kernel
theorem md_L_law_498 : decode mb_L_law 498 = .ok (.ldc2_w 94, 3) := by decide +kernel
theorem md_L_law_501 : decode mb_L_law 501 = .ok (.land, 1) := by decide +kernel
theorem md_L_law_502 : decode mb_L_law 502 = .ok (.lor, 1) := by decide +kernel
theorem md_L_law_503 : decode mb_L_law 503 = .ok (.aload_n 0, 1) := by decide +kernel
theorem md_L_law_504 : decode mb_L_law 504 = .ok (.iload 4, 2) := by decide +kernel
theorem md_L_law_506 : decode mb_L_law 506 = .ok (.iconst 5, 1) := by decide +kernel
theorem md_L_law_507 : decode mb_L_law 507 = .ok (.iadd, 1) := by decide +kernel
theorem md_L_law_508 : decode mb_L_law 508 = .ok (.iaload, 1) := by decide +kernel
theorem md_L_law_509 : decode mb_L_law 509 = .ok (.i2l, 1) := by decide +kernel
theorem md_L_law_510 : decode mb_L_law 510 = .ok (.bipush 32, 2) := by decide +kernel
theorem md_L_law_512 : decode mb_L_law 512 = .ok (.lshl, 1) := by decide +kernel
theorem md_L_law_513 : decode mb_L_law 513 = .ok (.aload_n 0, 1) := by decide +kernel
theorem md_L_law_514 : decode mb_L_law 514 = .ok (.iload 4, 2) := by decide +kernel
theorem md_L_law_516 : decode mb_L_law 516 = .ok (.bipush 6, 2) := by decide +kernel
theorem md_L_law_518 : decode mb_L_law 518 = .ok (.iadd, 1) := by decide +kernel
theorem md_L_law_519 : decode mb_L_law 519 = .ok (.iaload, 1) := by decide +kernel
theorem md_L_law_520 : decode mb_L_law 520 = .ok (.i2l, 1) := by decide +kernel
theorem md_L_law_521 : decode mb_L_law 521 = .ok (.ldc2_w 94, 3) := by decide +kernel
theorem md_L_law_524 : decode mb_L_law 524 = .ok (.land, 1) := by decide +kernel
theorem md_L_law_525 : decode mb_L_law 525 = .ok (.lor, 1) := by decide +kernel
theorem md_L_law_526 : decode mb_L_law 526 = .ok (.aload_n 0, 1) := by decide +kernel
theorem md_L_law_527 : decode mb_L_law 527 = .ok (.iload 4, 2) := by decide +kernel
theorem md_L_law_529 : decode mb_L_law 529 = .ok (.bipush 7, 2) := by decide +kernel
theorem md_L_law_531 : decode mb_L_law 531 = .ok (.iadd, 1) := by decide +kernel
theorem md_L_law_532 : decode mb_L_law 532 = .ok (.iaload, 1) := by decide +kernel
theorem md_L_law_533 : decode mb_L_law 533 = .ok (.i2l, 1) := by decide +kernel
theorem md_L_law_534 : decode mb_L_law 534 = .ok (.bipush 32, 2) := by decide +kernel
theorem md_L_law_536 : decode mb_L_law 536 = .ok (.lshl, 1) := by decide +kernel
theorem md_L_law_537 : decode mb_L_law 537 = .ok (.aload_n 0, 1) := by decide +kernel
theorem md_L_law_538 : decode mb_L_law 538 = .ok (.iload 4, 2) := by decide +kernel
theorem md_L_law_540 : decode mb_L_law 540 = .ok (.bipush 8, 2) := by decide +kernel
theorem md_L_law_542 : decode mb_L_law 542 = .ok (.iadd, 1) := by decide +kernel
theorem md_L_law_543 : decode mb_L_law 543 = .ok (.iaload, 1) := by decide +kernel
theorem md_L_law_544 : decode mb_L_law 544 = .ok (.i2l, 1) := by decide +kernel
theorem md_L_law_545 : decode mb_L_law 545 = .ok (.ldc2_w 94, 3) := by decide +kernel
theorem md_L_law_548 : decode mb_L_law 548 = .ok (.land, 1) := by decide +kernel
theorem md_L_law_549 : decode mb_L_law 549 = .ok (.lor, 1) := by decide +kernel
theorem md_L_law_550 : decode mb_L_law 550 = .ok (.aload_n 3, 1) := by decide +kernel
theorem md_L_law_551 : decode mb_L_law 551 = .ok (.invokestatic 107, 3) := by decide +kernel
theorem md_L_law_554 : decode mb_L_law 554 = .ok (.istore 5, 2) := by decide +kernel
theorem md_L_law_556 : decode mb_L_law 556 = .ok (.aload_n 2, 1) := by decide +kernel
theorem md_L_law_557 : decode mb_L_law 557 = .ok (.aload_n 0, 1) := by decide +kernel
theorem md_L_law_558 : decode mb_L_law 558 = .ok (.iload 4, 2) := by decide +kernel
theorem md_L_law_560 : decode mb_L_law 560 = .ok (.iconst 1, 1) := by decide +kernel
theorem md_L_law_561 : decode mb_L_law 561 = .ok (.iadd, 1) := by decide +kernel
theorem md_L_law_562 : decode mb_L_law 562 = .ok (.iaload, 1) := by decide +kernel
theorem md_L_law_563 : decode mb_L_law 563 = .ok (.i2l, 1) := by decide +kernel
theorem md_L_law_564 : decode mb_L_law 564 = .ok (.bipush 32, 2) := by decide +kernel
theorem md_L_law_566 : decode mb_L_law 566 = .ok (.lshl, 1) := by decide +kernel
theorem md_L_law_567 : decode mb_L_law 567 = .ok (.aload_n 0, 1) := by decide +kernel
theorem md_L_law_568 : decode mb_L_law 568 = .ok (.iload 4, 2) := by decide +kernel
theorem md_L_law_570 : decode mb_L_law 570 = .ok (.iconst 2, 1) := by decide +kernel
theorem md_L_law_571 : decode mb_L_law 571 = .ok (.iadd, 1) := by decide +kernel
theorem md_L_law_572 : decode mb_L_law 572 = .ok (.iaload, 1) := by decide +kernel
theorem md_L_law_573 : decode mb_L_law 573 = .ok (.i2l, 1) := by decide +kernel
theorem md_L_law_574 : decode mb_L_law 574 = .ok (.ldc2_w 94, 3) := by decide +kernel
theorem md_L_law_577 : decode mb_L_law 577 = .ok (.land, 1) := by decide +kernel
theorem md_L_law_578 : decode mb_L_law 578 = .ok (.lor, 1) := by decide +kernel
theorem md_L_law_579 : decode mb_L_law 579 = .ok (.aload_n 0, 1) := by decide +kernel
theorem md_L_law_580 : decode mb_L_law 580 = .ok (.iload 4, 2) := by decide +kernel
theorem md_L_law_582 : decode mb_L_law 582 = .ok (.iconst 3, 1) := by decide +kernel
theorem md_L_law_583 : decode mb_L_law 583 = .ok (.iadd, 1) := by decide +kernel
theorem md_L_law_584 : decode mb_L_law 584 = .ok (.iaload, 1) := by decide +kernel
theorem md_L_law_585 : decode mb_L_law 585 = .ok (.i2l, 1) := by decide +kernel
theorem md_L_law_586 : decode mb_L_law 586 = .ok (.bipush 32, 2) := by decide +kernel
theorem md_L_law_588 : decode mb_L_law 588 = .ok (.lshl, 1) := by decide +kernel
theorem md_L_law_589 : decode mb_L_law 589 = .ok (.aload_n 0, 1) := by decide +kernel
theorem md_L_law_590 : decode mb_L_law 590 = .ok (.iload 4, 2) := by decide +kernel
theorem md_L_law_592 : decode mb_L_law 592 = .ok (.iconst 4, 1) := by decide +kernel
theorem md_L_law_593 : decode mb_L_law 593 = .ok (.iadd, 1) := by decide +kernel
theorem md_L_law_594 : decode mb_L_law 594 = .ok (.iaload, 1) := by decide +kernel
theorem md_L_law_595 : decode mb_L_law 595 = .ok (.i2l, 1) := by decide +kernel
theorem md_L_law_596 : decode mb_L_law 596 = .ok (.ldc2_w 94, 3) := by decide +kernel
theorem md_L_law_599 : decode mb_L_law 599 = .ok (.land, 1) := by decide +kernel
theorem md_L_law_600 : decode mb_L_law 600 = .ok (.lor, 1) := by decide +kernel
theorem md_L_law_601 : decode mb_L_law 601 = .ok (.aload_n 0, 1) := by decide +kernel
theorem md_L_law_602 : decode mb_L_law 602 = .ok (.iload 4, 2) := by decide +kernel
theorem md_L_law_604 : decode mb_L_law 604 = .ok (.iconst 5, 1) := by decide +kernel
theorem md_L_law_605 : decode mb_L_law 605 = .ok (.iadd, 1) := by decide +kernel
theorem md_L_law_606 : decode mb_L_law 606 = .ok (.iaload, 1) := by decide +kernel
theorem md_L_law_607 : decode mb_L_law 607 = .ok (.i2l, 1) := by decide +kernel
theorem md_L_law_608 : decode mb_L_law 608 = .ok (.bipush 32, 2) := by decide +kernel
theorem md_L_law_610 : decode mb_L_law 610 = .ok (.lshl, 1) := by decide +kernel
theorem md_L_law_611 : decode mb_L_law 611 = .ok (.aload_n 0, 1) := by decide +kernel
theorem md_L_law_612 : decode mb_L_law 612 = .ok (.iload 4, 2) := by decide +kernel
theorem md_L_law_614 : decode mb_L_law 614 = .ok (.bipush 6, 2) := by decide +kernel
theorem md_L_law_616 : decode mb_L_law 616 = .ok (.iadd, 1) := by decide +kernel
theorem md_L_law_617 : decode mb_L_law 617 = .ok (.iaload, 1) := by decide +kernel
theorem md_L_law_618 : decode mb_L_law 618 = .ok (.i2l, 1) := by decide +kernel
theorem md_L_law_619 : decode mb_L_law 619 = .ok (.ldc2_w 94, 3) := by decide +kernel
theorem md_L_law_622 : decode mb_L_law 622 = .ok (.land, 1) := by decide +kernel
theorem md_L_law_623 : decode mb_L_law 623 = .ok (.lor, 1) := by decide +kernel
theorem md_L_law_624 : decode mb_L_law 624 = .ok (.aload_n 0, 1) := by decide +kernel
theorem md_L_law_625 : decode mb_L_law 625 = .ok (.iload 4, 2) := by decide +kernel
theorem md_L_law_627 : decode mb_L_law 627 = .ok (.bipush 7, 2) := by decide +kernel
theorem md_L_law_629 : decode mb_L_law 629 = .ok (.iadd, 1) := by decide +kernel
theorem md_L_law_630 : decode mb_L_law 630 = .ok (.iaload, 1) := by decide +kernel
end
section
theorem md_L_law_631 : decode mb_L_law 631 = .ok (.i2l, 1) := by decide +kernel
theorem md_L_law_632 : decode mb_L_law 632 = .ok (.bipush 32, 2) := by decide +kernel
theorem md_L_law_634 : decode mb_L_law 634 = .ok (.lshl, 1) := by decide +kernel
theorem md_L_law_635 : decode mb_L_law 635 = .ok (.aload_n 0, 1) := by decide +kernel
theorem md_L_law_636 : decode mb_L_law 636 = .ok (.iload 4, 2) := by decide +kernel
theorem md_L_law_638 : decode mb_L_law 638 = .ok (.bipush 8, 2) := by decide +kernel
theorem md_L_law_640 : decode mb_L_law 640 = .ok (.iadd, 1) := by decide +kernel
theorem md_L_law_641 : decode mb_L_law 641 = .ok (.iaload, 1) := by decide +kernel
theorem md_L_law_642 : decode mb_L_law 642 = .ok (.i2l, 1) := by decide +kernel
theorem md_L_law_643 : decode mb_L_law 643 = .ok (.ldc2_w 94, 3) := by decide +kernel
theorem md_L_law_646 : decode mb_L_law 646 = .ok (.land, 1) := by decide +kernel
theorem md_L_law_647 : decode mb_L_law 647 = .ok (.lor, 1) := by decide +kernel
theorem md_L_law_648 : decode mb_L_law 648 = .ok (.invokevirtual 110, 3) := by decide +kernel
theorem md_L_law_651 : decode mb_L_law 651 = .ok (.istore 6, 2) := by decide +kernel
theorem md_L_law_653 : decode mb_L_law 653 = .ok (.goto 531, 3) := by decide +kernel
theorem md_L_law_656 : decode mb_L_law 656 = .ok (.aload_n 1, 1) := by decide +kernel
theorem md_L_law_657 : decode mb_L_law 657 = .ok (.aload_n 0, 1) := by decide +kernel
theorem md_L_law_658 : decode mb_L_law 658 = .ok (.iload 4, 2) := by decide +kernel
theorem md_L_law_660 : decode mb_L_law 660 = .ok (.iconst 1, 1) := by decide +kernel
theorem md_L_law_661 : decode mb_L_law 661 = .ok (.iadd, 1) := by decide +kernel
theorem md_L_law_662 : decode mb_L_law 662 = .ok (.iaload, 1) := by decide +kernel
theorem md_L_law_663 : decode mb_L_law 663 = .ok (.aload_n 3, 1) := by decide +kernel
theorem md_L_law_664 : decode mb_L_law 664 = .ok (.invokestatic 111, 3) := by decide +kernel
theorem md_L_law_667 : decode mb_L_law 667 = .ok (.istore 5, 2) := by decide +kernel
theorem md_L_law_669 : decode mb_L_law 669 = .ok (.aload_n 2, 1) := by decide +kernel
theorem md_L_law_670 : decode mb_L_law 670 = .ok (.aload_n 0, 1) := by decide +kernel
theorem md_L_law_671 : decode mb_L_law 671 = .ok (.iload 4, 2) := by decide +kernel
theorem md_L_law_673 : decode mb_L_law 673 = .ok (.iconst 1, 1) := by decide +kernel
theorem md_L_law_674 : decode mb_L_law 674 = .ok (.iadd, 1) := by decide +kernel
theorem md_L_law_675 : decode mb_L_law 675 = .ok (.iaload, 1) := by decide +kernel
theorem md_L_law_676 : decode mb_L_law 676 = .ok (.invokevirtual 114, 3) := by decide +kernel
theorem md_L_law_679 : decode mb_L_law 679 = .ok (.lstore 6, 2) := by decide +kernel
theorem md_L_law_681 : decode mb_L_law 681 = .ok (.goto 503, 3) := by decide +kernel
theorem md_L_law_684 : decode mb_L_law 684 = .ok (.aload_n 1, 1) := by decide +kernel
theorem md_L_law_685 : decode mb_L_law 685 = .ok (.aload_n 3, 1) := by decide +kernel
theorem md_L_law_686 : decode mb_L_law 686 = .ok (.invokestatic 115, 3) := by decide +kernel
theorem md_L_law_689 : decode mb_L_law 689 = .ok (.istore 5, 2) := by decide +kernel
theorem md_L_law_691 : decode mb_L_law 691 = .ok (.aload_n 2, 1) := by decide +kernel
theorem md_L_law_692 : decode mb_L_law 692 = .ok (.invokevirtual 118, 3) := by decide +kernel
theorem md_L_law_695 : decode mb_L_law 695 = .ok (.istore 6, 2) := by decide +kernel
theorem md_L_law_697 : decode mb_L_law 697 = .ok (.goto 487, 3) := by decide +kernel
theorem md_L_law_700 : decode mb_L_law 700 = .ok (.aload_n 1, 1) := by decide +kernel
theorem md_L_law_701 : decode mb_L_law 701 = .ok (.aload_n 0, 1) := by decide +kernel
theorem md_L_law_702 : decode mb_L_law 702 = .ok (.iload 4, 2) := by decide +kernel
theorem md_L_law_704 : decode mb_L_law 704 = .ok (.iconst 1, 1) := by decide +kernel
theorem md_L_law_705 : decode mb_L_law 705 = .ok (.iadd, 1) := by decide +kernel
theorem md_L_law_706 : decode mb_L_law 706 = .ok (.iaload, 1) := by decide +kernel
theorem md_L_law_707 : decode mb_L_law 707 = .ok (.aload_n 0, 1) := by decide +kernel
theorem md_L_law_708 : decode mb_L_law 708 = .ok (.iload 4, 2) := by decide +kernel
theorem md_L_law_710 : decode mb_L_law 710 = .ok (.iconst 2, 1) := by decide +kernel
theorem md_L_law_711 : decode mb_L_law 711 = .ok (.iadd, 1) := by decide +kernel
theorem md_L_law_712 : decode mb_L_law 712 = .ok (.iaload, 1) := by decide +kernel
theorem md_L_law_713 : decode mb_L_law 713 = .ok (.aload_n 3, 1) := by decide +kernel
theorem md_L_law_714 : decode mb_L_law 714 = .ok (.invokestatic 119, 3) := by decide +kernel
theorem md_L_law_717 : decode mb_L_law 717 = .ok (.istore 5, 2) := by decide +kernel
theorem md_L_law_719 : decode mb_L_law 719 = .ok (.aload_n 2, 1) := by decide +kernel
theorem md_L_law_720 : decode mb_L_law 720 = .ok (.aload_n 0, 1) := by decide +kernel
theorem md_L_law_721 : decode mb_L_law 721 = .ok (.iload 4, 2) := by decide +kernel
theorem md_L_law_723 : decode mb_L_law 723 = .ok (.iconst 1, 1) := by decide +kernel
theorem md_L_law_724 : decode mb_L_law 724 = .ok (.iadd, 1) := by decide +kernel
theorem md_L_law_725 : decode mb_L_law 725 = .ok (.iaload, 1) := by decide +kernel
theorem md_L_law_726 : decode mb_L_law 726 = .ok (.aload_n 0, 1) := by decide +kernel
theorem md_L_law_727 : decode mb_L_law 727 = .ok (.iload 4, 2) := by decide +kernel
theorem md_L_law_729 : decode mb_L_law 729 = .ok (.iconst 2, 1) := by decide +kernel
theorem md_L_law_730 : decode mb_L_law 730 = .ok (.iadd, 1) := by decide +kernel
theorem md_L_law_731 : decode mb_L_law 731 = .ok (.iaload, 1) := by decide +kernel
theorem md_L_law_732 : decode mb_L_law 732 = .ok (.invokevirtual 121, 3) := by decide +kernel
theorem md_L_law_735 : decode mb_L_law 735 = .ok (.lstore 6, 2) := by decide +kernel
theorem md_L_law_737 : decode mb_L_law 737 = .ok (.goto 447, 3) := by decide +kernel
theorem md_L_law_740 : decode mb_L_law 740 = .ok (.aload_n 1, 1) := by decide +kernel
theorem md_L_law_741 : decode mb_L_law 741 = .ok (.aload_n 0, 1) := by decide +kernel
theorem md_L_law_742 : decode mb_L_law 742 = .ok (.iload 4, 2) := by decide +kernel
theorem md_L_law_744 : decode mb_L_law 744 = .ok (.iconst 1, 1) := by decide +kernel
theorem md_L_law_745 : decode mb_L_law 745 = .ok (.iadd, 1) := by decide +kernel
theorem md_L_law_746 : decode mb_L_law 746 = .ok (.iaload, 1) := by decide +kernel
theorem md_L_law_747 : decode mb_L_law 747 = .ok (.aload_n 0, 1) := by decide +kernel
theorem md_L_law_748 : decode mb_L_law 748 = .ok (.iload 4, 2) := by decide +kernel
theorem md_L_law_750 : decode mb_L_law 750 = .ok (.iconst 2, 1) := by decide +kernel
theorem md_L_law_751 : decode mb_L_law 751 = .ok (.iadd, 1) := by decide +kernel
theorem md_L_law_752 : decode mb_L_law 752 = .ok (.iaload, 1) := by decide +kernel
theorem md_L_law_753 : decode mb_L_law 753 = .ok (.i2l, 1) := by decide +kernel
theorem md_L_law_754 : decode mb_L_law 754 = .ok (.bipush 32, 2) := by decide +kernel
theorem md_L_law_756 : decode mb_L_law 756 = .ok (.lshl, 1) := by decide +kernel
theorem md_L_law_757 : decode mb_L_law 757 = .ok (.aload_n 0, 1) := by decide +kernel
theorem md_L_law_758 : decode mb_L_law 758 = .ok (.iload 4, 2) := by decide +kernel
theorem md_L_law_760 : decode mb_L_law 760 = .ok (.iconst 3, 1) := by decide +kernel
theorem md_L_law_761 : decode mb_L_law 761 = .ok (.iadd, 1) := by decide +kernel
theorem md_L_law_762 : decode mb_L_law 762 = .ok (.iaload, 1) := by decide +kernel
theorem md_L_law_763 : decode mb_L_law 763 = .ok (.i2l, 1) := by decide +kernel
theorem md_L_law_764 : decode mb_L_law 764 = .ok (.ldc2_w 94, 3) := by decide +kernel
theorem md_L_law_767 : decode mb_L_law 767 = .ok (.land, 1) := by decide +kernel
theorem md_L_law_768 : decode mb_L_law 768 = .ok (.lor, 1) := by decide +kernel
theorem md_L_law_769 : decode mb_L_law 769 = .ok (.aload_n 0, 1) := by decide +kernel
theorem md_L_law_770 : decode mb_L_law 770 = .ok (.iload 4, 2) := by decide +kernel
theorem md_L_law_772 : decode mb_L_law 772 = .ok (.iconst 4, 1) := by decide +kernel
theorem md_L_law_773 : decode mb_L_law 773 = .ok (.iadd, 1) := by decide +kernel
theorem md_L_law_774 : decode mb_L_law 774 = .ok (.iaload, 1) := by decide +kernel
theorem md_L_law_775 : decode mb_L_law 775 = .ok (.i2l, 1) := by decide +kernel
theorem md_L_law_776 : decode mb_L_law 776 = .ok (.bipush 32, 2) := by decide +kernel
theorem md_L_law_778 : decode mb_L_law 778 = .ok (.lshl, 1) := by decide +kernel
theorem md_L_law_779 : decode mb_L_law 779 = .ok (.aload_n 0, 1) := by decide +kernel
theorem md_L_law_780 : decode mb_L_law 780 = .ok (.iload 4, 2) := by decide +kernel
theorem md_L_law_782 : decode mb_L_law 782 = .ok (.iconst 5, 1) := by decide +kernel
theorem md_L_law_783 : decode mb_L_law 783 = .ok (.iadd, 1) := by decide +kernel
theorem md_L_law_784 : decode mb_L_law 784 = .ok (.iaload, 1) := by decide +kernel
theorem md_L_law_785 : decode mb_L_law 785 = .ok (.i2l, 1) := by decide +kernel
theorem md_L_law_786 : decode mb_L_law 786 = .ok (.ldc2_w 94, 3) := by decide +kernel
theorem md_L_law_789 : decode mb_L_law 789 = .ok (.land, 1) := by decide +kernel
theorem md_L_law_790 : decode mb_L_law 790 = .ok (.lor, 1) := by decide +kernel
theorem md_L_law_791 : decode mb_L_law 791 = .ok (.aload_n 0, 1) := by decide +kernel
theorem md_L_law_792 : decode mb_L_law 792 = .ok (.iload 4, 2) := by decide +kernel
theorem md_L_law_794 : decode mb_L_law 794 = .ok (.bipush 6, 2) := by decide +kernel
theorem md_L_law_796 : decode mb_L_law 796 = .ok (.iadd, 1) := by decide +kernel
theorem md_L_law_797 : decode mb_L_law 797 = .ok (.iaload, 1) := by decide +kernel
theorem md_L_law_798 : decode mb_L_law 798 = .ok (.i2l, 1) := by decide +kernel
theorem md_L_law_799 : decode mb_L_law 799 = .ok (.bipush 32, 2) := by decide +kernel
theorem md_L_law_801 : decode mb_L_law 801 = .ok (.lshl, 1) := by decide +kernel
theorem md_L_law_802 : decode mb_L_law 802 = .ok (.aload_n 0, 1) := by decide +kernel
theorem md_L_law_803 : decode mb_L_law 803 = .ok (.iload 4, 2) := by decide +kernel
theorem md_L_law_805 : decode mb_L_law 805 = .ok (.bipush 7, 2) := by decide +kernel
theorem md_L_law_807 : decode mb_L_law 807 = .ok (.iadd, 1) := by decide +kernel
theorem md_L_law_808 : decode mb_L_law 808 = .ok (.iaload, 1) := by decide +kernel
theorem md_L_law_809 : decode mb_L_law 809 = .ok (.i2l, 1) := by decide +kernel
theorem md_L_law_810 : decode mb_L_law 810 = .ok (.ldc2_w 94, 3) := by decide +kernel
theorem md_L_law_813 : decode mb_L_law 813 = .ok (.land, 1) := by decide +kernel
theorem md_L_law_814 : decode mb_L_law 814 = .ok (.lor, 1) := by decide +kernel
theorem md_L_law_815 : decode mb_L_law 815 = .ok (.aload_n 3, 1) := by decide +kernel
theorem md_L_law_816 : decode mb_L_law 816 = .ok (.invokestatic 122, 3) := by decide +kernel
theorem md_L_law_819 : decode mb_L_law 819 = .ok (.istore 5, 2) := by decide +kernel
theorem md_L_law_821 : decode mb_L_law 821 = .ok (.aload_n 2, 1) := by decide +kernel
end
section
theorem md_L_law_822 : decode mb_L_law 822 = .ok (.aload_n 0, 1) := by decide +kernel
theorem md_L_law_823 : decode mb_L_law 823 = .ok (.iload 4, 2) := by decide +kernel
theorem md_L_law_825 : decode mb_L_law 825 = .ok (.iconst 1, 1) := by decide +kernel
theorem md_L_law_826 : decode mb_L_law 826 = .ok (.iadd, 1) := by decide +kernel
theorem md_L_law_827 : decode mb_L_law 827 = .ok (.iaload, 1) := by decide +kernel
theorem md_L_law_828 : decode mb_L_law 828 = .ok (.aload_n 0, 1) := by decide +kernel
theorem md_L_law_829 : decode mb_L_law 829 = .ok (.iload 4, 2) := by decide +kernel
theorem md_L_law_831 : decode mb_L_law 831 = .ok (.iconst 2, 1) := by decide +kernel
theorem md_L_law_832 : decode mb_L_law 832 = .ok (.iadd, 1) := by decide +kernel
theorem md_L_law_833 : decode mb_L_law 833 = .ok (.iaload, 1) := by decide +kernel
theorem md_L_law_834 : decode mb_L_law 834 = .ok (.i2l, 1) := by decide +kernel
theorem md_L_law_835 : decode mb_L_law 835 = .ok (.bipush 32, 2) := by decide +kernel
theorem md_L_law_837 : decode mb_L_law 837 = .ok (.lshl, 1) := by decide +kernel
theorem md_L_law_838 : decode mb_L_law 838 = .ok (.aload_n 0, 1) := by decide +kernel
theorem md_L_law_839 : decode mb_L_law 839 = .ok (.iload 4, 2) := by decide +kernel
theorem md_L_law_841 : decode mb_L_law 841 = .ok (.iconst 3, 1) := by decide +kernel
theorem md_L_law_842 : decode mb_L_law 842 = .ok (.iadd, 1) := by decide +kernel
theorem md_L_law_843 : decode mb_L_law 843 = .ok (.iaload, 1) := by decide +kernel
theorem md_L_law_844 : decode mb_L_law 844 = .ok (.i2l, 1) := by decide +kernel
theorem md_L_law_845 : decode mb_L_law 845 = .ok (.ldc2_w 94, 3) := by decide +kernel
theorem md_L_law_848 : decode mb_L_law 848 = .ok (.land, 1) := by decide +kernel
theorem md_L_law_849 : decode mb_L_law 849 = .ok (.lor, 1) := by decide +kernel
theorem md_L_law_850 : decode mb_L_law 850 = .ok (.aload_n 0, 1) := by decide +kernel
theorem md_L_law_851 : decode mb_L_law 851 = .ok (.iload 4, 2) := by decide +kernel
theorem md_L_law_853 : decode mb_L_law 853 = .ok (.iconst 4, 1) := by decide +kernel
theorem md_L_law_854 : decode mb_L_law 854 = .ok (.iadd, 1) := by decide +kernel
theorem md_L_law_855 : decode mb_L_law 855 = .ok (.iaload, 1) := by decide +kernel
theorem md_L_law_856 : decode mb_L_law 856 = .ok (.i2l, 1) := by decide +kernel
theorem md_L_law_857 : decode mb_L_law 857 = .ok (.bipush 32, 2) := by decide +kernel
theorem md_L_law_859 : decode mb_L_law 859 = .ok (.lshl, 1) := by decide +kernel
theorem md_L_law_860 : decode mb_L_law 860 = .ok (.aload_n 0, 1) := by decide +kernel
theorem md_L_law_861 : decode mb_L_law 861 = .ok (.iload 4, 2) := by decide +kernel
theorem md_L_law_863 : decode mb_L_law 863 = .ok (.iconst 5, 1) := by decide +kernel
theorem md_L_law_864 : decode mb_L_law 864 = .ok (.iadd, 1) := by decide +kernel
theorem md_L_law_865 : decode mb_L_law 865 = .ok (.iaload, 1) := by decide +kernel
theorem md_L_law_866 : decode mb_L_law 866 = .ok (.i2l, 1) := by decide +kernel
theorem md_L_law_867 : decode mb_L_law 867 = .ok (.ldc2_w 94, 3) := by decide +kernel
theorem md_L_law_870 : decode mb_L_law 870 = .ok (.land, 1) := by decide +kernel
theorem md_L_law_871 : decode mb_L_law 871 = .ok (.lor, 1) := by decide +kernel
theorem md_L_law_872 : decode mb_L_law 872 = .ok (.aload_n 0, 1) := by decide +kernel
theorem md_L_law_873 : decode mb_L_law 873 = .ok (.iload 4, 2) := by decide +kernel
theorem md_L_law_875 : decode mb_L_law 875 = .ok (.bipush 6, 2) := by decide +kernel
theorem md_L_law_877 : decode mb_L_law 877 = .ok (.iadd, 1) := by decide +kernel
theorem md_L_law_878 : decode mb_L_law 878 = .ok (.iaload, 1) := by decide +kernel
theorem md_L_law_879 : decode mb_L_law 879 = .ok (.i2l, 1) := by decide +kernel
theorem md_L_law_880 : decode mb_L_law 880 = .ok (.bipush 32, 2) := by decide +kernel
theorem md_L_law_882 : decode mb_L_law 882 = .ok (.lshl, 1) := by decide +kernel
theorem md_L_law_883 : decode mb_L_law 883 = .ok (.aload_n 0, 1) := by decide +kernel
theorem md_L_law_884 : decode mb_L_law 884 = .ok (.iload 4, 2) := by decide +kernel
theorem md_L_law_886 : decode mb_L_law 886 = .ok (.bipush 7, 2) := by decide +kernel
theorem md_L_law_888 : decode mb_L_law 888 = .ok (.iadd, 1) := by decide +kernel
theorem md_L_law_889 : decode mb_L_law 889 = .ok (.iaload, 1) := by decide +kernel
theorem md_L_law_890 : decode mb_L_law 890 = .ok (.i2l, 1) := by decide +kernel
theorem md_L_law_891 : decode mb_L_law 891 = .ok (.ldc2_w 94, 3) := by decide +kernel
theorem md_L_law_894 : decode mb_L_law 894 = .ok (.land, 1) := by decide +kernel
theorem md_L_law_895 : decode mb_L_law 895 = .ok (.lor, 1) := by decide +kernel
theorem md_L_law_896 : decode mb_L_law 896 = .ok (.invokevirtual 125, 3) := by decide +kernel
theorem md_L_law_899 : decode mb_L_law 899 = .ok (.istore 6, 2) := by decide +kernel
theorem md_L_law_901 : decode mb_L_law 901 = .ok (.goto 283, 3) := by decide +kernel
theorem md_L_law_904 : decode mb_L_law 904 = .ok (.aload_n 1, 1) := by decide +kernel
theorem md_L_law_905 : decode mb_L_law 905 = .ok (.aload_n 0, 1) := by decide +kernel
theorem md_L_law_906 : decode mb_L_law 906 = .ok (.iload 4, 2) := by decide +kernel
theorem md_L_law_908 : decode mb_L_law 908 = .ok (.iconst 1, 1) := by decide +kernel
theorem md_L_law_909 : decode mb_L_law 909 = .ok (.iadd, 1) := by decide +kernel
theorem md_L_law_910 : decode mb_L_law 910 = .ok (.iaload, 1) := by decide +kernel
theorem md_L_law_911 : decode mb_L_law 911 = .ok (.aload_n 0, 1) := by decide +kernel
theorem md_L_law_912 : decode mb_L_law 912 = .ok (.iload 4, 2) := by decide +kernel
theorem md_L_law_914 : decode mb_L_law 914 = .ok (.iconst 2, 1) := by decide +kernel
theorem md_L_law_915 : decode mb_L_law 915 = .ok (.iadd, 1) := by decide +kernel
theorem md_L_law_916 : decode mb_L_law 916 = .ok (.iaload, 1) := by decide +kernel
theorem md_L_law_917 : decode mb_L_law 917 = .ok (.aload_n 3, 1) := by decide +kernel
theorem md_L_law_918 : decode mb_L_law 918 = .ok (.invokestatic 126, 3) := by decide +kernel
theorem md_L_law_921 : decode mb_L_law 921 = .ok (.istore 5, 2) := by decide +kernel
theorem md_L_law_923 : decode mb_L_law 923 = .ok (.aload_n 2, 1) := by decide +kernel
theorem md_L_law_924 : decode mb_L_law 924 = .ok (.aload_n 0, 1) := by decide +kernel
theorem md_L_law_925 : decode mb_L_law 925 = .ok (.iload 4, 2) := by decide +kernel
theorem md_L_law_927 : decode mb_L_law 927 = .ok (.iconst 1, 1) := by decide +kernel
theorem md_L_law_928 : decode mb_L_law 928 = .ok (.iadd, 1) := by decide +kernel
theorem md_L_law_929 : decode mb_L_law 929 = .ok (.iaload, 1) := by decide +kernel
theorem md_L_law_930 : decode mb_L_law 930 = .ok (.aload_n 0, 1) := by decide +kernel
theorem md_L_law_931 : decode mb_L_law 931 = .ok (.iload 4, 2) := by decide +kernel
theorem md_L_law_933 : decode mb_L_law 933 = .ok (.iconst 2, 1) := by decide +kernel
theorem md_L_law_934 : decode mb_L_law 934 = .ok (.iadd, 1) := by decide +kernel
theorem md_L_law_935 : decode mb_L_law 935 = .ok (.iaload, 1) := by decide +kernel
theorem md_L_law_936 : decode mb_L_law 936 = .ok (.invokevirtual 128, 3) := by decide +kernel
theorem md_L_law_939 : decode mb_L_law 939 = .ok (.istore 6, 2) := by decide +kernel
theorem md_L_law_941 : decode mb_L_law 941 = .ok (.goto 243, 3) := by decide +kernel
theorem md_L_law_944 : decode mb_L_law 944 = .ok (.aload_n 1, 1) := by decide +kernel
theorem md_L_law_945 : decode mb_L_law 945 = .ok (.aload_n 0, 1) := by decide +kernel
theorem md_L_law_946 : decode mb_L_law 946 = .ok (.iload 4, 2) := by decide +kernel
theorem md_L_law_948 : decode mb_L_law 948 = .ok (.iconst 1, 1) := by decide +kernel
theorem md_L_law_949 : decode mb_L_law 949 = .ok (.iadd, 1) := by decide +kernel
theorem md_L_law_950 : decode mb_L_law 950 = .ok (.iaload, 1) := by decide +kernel
theorem md_L_law_951 : decode mb_L_law 951 = .ok (.aload_n 3, 1) := by decide +kernel
theorem md_L_law_952 : decode mb_L_law 952 = .ok (.invokestatic 129, 3) := by decide +kernel
theorem md_L_law_955 : decode mb_L_law 955 = .ok (.istore 5, 2) := by decide +kernel
theorem md_L_law_957 : decode mb_L_law 957 = .ok (.aload_n 2, 1) := by decide +kernel
theorem md_L_law_958 : decode mb_L_law 958 = .ok (.aload_n 0, 1) := by decide +kernel
theorem md_L_law_959 : decode mb_L_law 959 = .ok (.iload 4, 2) := by decide +kernel
theorem md_L_law_961 : decode mb_L_law 961 = .ok (.iconst 1, 1) := by decide +kernel
theorem md_L_law_962 : decode mb_L_law 962 = .ok (.iadd, 1) := by decide +kernel
theorem md_L_law_963 : decode mb_L_law 963 = .ok (.iaload, 1) := by decide +kernel
theorem md_L_law_964 : decode mb_L_law 964 = .ok (.invokevirtual 131, 3) := by decide +kernel
theorem md_L_law_967 : decode mb_L_law 967 = .ok (.istore 6, 2) := by decide +kernel
theorem md_L_law_969 : decode mb_L_law 969 = .ok (.goto 215, 3) := by decide +kernel
theorem md_L_law_972 : decode mb_L_law 972 = .ok (.aload_n 1, 1) := by decide +kernel
theorem md_L_law_973 : decode mb_L_law 973 = .ok (.aload_n 0, 1) := by decide +kernel
theorem md_L_law_974 : decode mb_L_law 974 = .ok (.iload 4, 2) := by decide +kernel
theorem md_L_law_976 : decode mb_L_law 976 = .ok (.iconst 1, 1) := by decide +kernel
theorem md_L_law_977 : decode mb_L_law 977 = .ok (.iadd, 1) := by decide +kernel
theorem md_L_law_978 : decode mb_L_law 978 = .ok (.iaload, 1) := by decide +kernel
theorem md_L_law_979 : decode mb_L_law 979 = .ok (.i2l, 1) := by decide +kernel
theorem md_L_law_980 : decode mb_L_law 980 = .ok (.bipush 32, 2) := by decide +kernel
theorem md_L_law_982 : decode mb_L_law 982 = .ok (.lshl, 1) := by decide +kernel
theorem md_L_law_983 : decode mb_L_law 983 = .ok (.aload_n 0, 1) := by decide +kernel
theorem md_L_law_984 : decode mb_L_law 984 = .ok (.iload 4, 2) := by decide +kernel
theorem md_L_law_986 : decode mb_L_law 986 = .ok (.iconst 2, 1) := by decide +kernel
theorem md_L_law_987 : decode mb_L_law 987 = .ok (.iadd, 1) := by decide +kernel
theorem md_L_law_988 : decode mb_L_law 988 = .ok (.iaload, 1) := by decide +kernel
theorem md_L_law_989 : decode mb_L_law 989 = .ok (.i2l, 1) := by decide +kernel
theorem md_L_law_990 : decode mb_L_law 990 = .ok (.ldc2_w 94, 3) := by decide +kernel
theorem md_L_law_993 : decode mb_L_law 993 = .ok (.land, 1) := by decide +kernel
theorem md_L_law_994 : decode mb_L_law 994 = .ok (.lor, 1) := by decide +kernel
theorem md_L_law_995 : decode mb_L_law 995 = .ok (.aload_n 3, 1) := by decide +kernel
theorem md_L_law_996 : decode mb_L_law 996 = .ok (.invokestatic 132, 3) := by decide +kernel
theorem md_L_law_999 : decode mb_L_law 999 = .ok (.istore 5, 2) := by decide +kernel
theorem md_L_law_1001 : decode mb_L_law 1001 = .ok (.aload_n 2, 1) := by decide +kernel
theorem md_L_law_1002 : decode mb_L_law 1002 = .ok (.aload_n 0, 1) := by decide +kernel
theorem md_L_law_1003 : decode mb_L_law 1003 = .ok (.iload 4, 2) := by decide +kernel
theorem md_L_law_1005 : decode mb_L_law 1005 = .ok (.iconst 1, 1) := by decide +kernel
end
section
theorem md_L_law_1006 : decode mb_L_law 1006 = .ok (.iadd, 1) := by decide +kernel
theorem md_L_law_1007 : decode mb_L_law 1007 = .ok (.iaload, 1) := by decide +kernel
theorem md_L_law_1008 : decode mb_L_law 1008 = .ok (.i2l, 1) := by decide +kernel
theorem md_L_law_1009 : decode mb_L_law 1009 = .ok (.bipush 32, 2) := by decide +kernel
theorem md_L_law_1011 : decode mb_L_law 1011 = .ok (.lshl, 1) := by decide +kernel
theorem md_L_law_1012 : decode mb_L_law 1012 = .ok (.aload_n 0, 1) := by decide +kernel
theorem md_L_law_1013 : decode mb_L_law 1013 = .ok (.iload 4, 2) := by decide +kernel
theorem md_L_law_1015 : decode mb_L_law 1015 = .ok (.iconst 2, 1) := by decide +kernel
theorem md_L_law_1016 : decode mb_L_law 1016 = .ok (.iadd, 1) := by decide +kernel
theorem md_L_law_1017 : decode mb_L_law 1017 = .ok (.iaload, 1) := by decide +kernel
theorem md_L_law_1018 : decode mb_L_law 1018 = .ok (.i2l, 1) := by decide +kernel
theorem md_L_law_1019 : decode mb_L_law 1019 = .ok (.ldc2_w 94, 3) := by decide +kernel
theorem md_L_law_1022 : decode mb_L_law 1022 = .ok (.land, 1) := by decide +kernel
theorem md_L_law_1023 : decode mb_L_law 1023 = .ok (.lor, 1) := by decide +kernel
theorem md_L_law_1024 : decode mb_L_law 1024 = .ok (.invokevirtual 134, 3) := by decide +kernel
theorem md_L_law_1027 : decode mb_L_law 1027 = .ok (.istore 6, 2) := by decide +kernel
theorem md_L_law_1029 : decode mb_L_law 1029 = .ok (.goto 155, 3) := by decide +kernel
theorem md_L_law_1032 : decode mb_L_law 1032 = .ok (.aload_n 1, 1) := by decide +kernel
theorem md_L_law_1033 : decode mb_L_law 1033 = .ok (.aload_n 0, 1) := by decide +kernel
theorem md_L_law_1034 : decode mb_L_law 1034 = .ok (.iload 4, 2) := by decide +kernel
theorem md_L_law_1036 : decode mb_L_law 1036 = .ok (.iconst 1, 1) := by decide +kernel
theorem md_L_law_1037 : decode mb_L_law 1037 = .ok (.iadd, 1) := by decide +kernel
theorem md_L_law_1038 : decode mb_L_law 1038 = .ok (.iaload, 1) := by decide +kernel
theorem md_L_law_1039 : decode mb_L_law 1039 = .ok (.aload_n 0, 1) := by decide +kernel
theorem md_L_law_1040 : decode mb_L_law 1040 = .ok (.iload 4, 2) := by decide +kernel
theorem md_L_law_1042 : decode mb_L_law 1042 = .ok (.iconst 2, 1) := by decide +kernel
theorem md_L_law_1043 : decode mb_L_law 1043 = .ok (.iadd, 1) := by decide +kernel
theorem md_L_law_1044 : decode mb_L_law 1044 = .ok (.iaload, 1) := by decide +kernel
theorem md_L_law_1045 : decode mb_L_law 1045 = .ok (.aload_n 0, 1) := by decide +kernel
theorem md_L_law_1046 : decode mb_L_law 1046 = .ok (.iload 4, 2) := by decide +kernel
theorem md_L_law_1048 : decode mb_L_law 1048 = .ok (.iconst 3, 1) := by decide +kernel
theorem md_L_law_1049 : decode mb_L_law 1049 = .ok (.iadd, 1) := by decide +kernel
theorem md_L_law_1050 : decode mb_L_law 1050 = .ok (.iaload, 1) := by decide +kernel
theorem md_L_law_1051 : decode mb_L_law 1051 = .ok (.aload_n 3, 1) := by decide +kernel
theorem md_L_law_1052 : decode mb_L_law 1052 = .ok (.invokestatic 135, 3) := by decide +kernel
theorem md_L_law_1055 : decode mb_L_law 1055 = .ok (.istore 5, 2) := by decide +kernel
theorem md_L_law_1057 : decode mb_L_law 1057 = .ok (.aload_n 2, 1) := by decide +kernel
theorem md_L_law_1058 : decode mb_L_law 1058 = .ok (.aload_n 0, 1) := by decide +kernel
theorem md_L_law_1059 : decode mb_L_law 1059 = .ok (.iload 4, 2) := by decide +kernel
theorem md_L_law_1061 : decode mb_L_law 1061 = .ok (.iconst 1, 1) := by decide +kernel
theorem md_L_law_1062 : decode mb_L_law 1062 = .ok (.iadd, 1) := by decide +kernel
theorem md_L_law_1063 : decode mb_L_law 1063 = .ok (.iaload, 1) := by decide +kernel
theorem md_L_law_1064 : decode mb_L_law 1064 = .ok (.aload_n 0, 1) := by decide +kernel
theorem md_L_law_1065 : decode mb_L_law 1065 = .ok (.iload 4, 2) := by decide +kernel
theorem md_L_law_1067 : decode mb_L_law 1067 = .ok (.iconst 2, 1) := by decide +kernel
theorem md_L_law_1068 : decode mb_L_law 1068 = .ok (.iadd, 1) := by decide +kernel
theorem md_L_law_1069 : decode mb_L_law 1069 = .ok (.iaload, 1) := by decide +kernel
theorem md_L_law_1070 : decode mb_L_law 1070 = .ok (.aload_n 0, 1) := by decide +kernel
theorem md_L_law_1071 : decode mb_L_law 1071 = .ok (.iload 4, 2) := by decide +kernel
theorem md_L_law_1073 : decode mb_L_law 1073 = .ok (.iconst 3, 1) := by decide +kernel
theorem md_L_law_1074 : decode mb_L_law 1074 = .ok (.iadd, 1) := by decide +kernel
theorem md_L_law_1075 : decode mb_L_law 1075 = .ok (.iaload, 1) := by decide +kernel
theorem md_L_law_1076 : decode mb_L_law 1076 = .ok (.invokevirtual 138, 3) := by decide +kernel
theorem md_L_law_1079 : decode mb_L_law 1079 = .ok (.lstore 6, 2) := by decide +kernel
theorem md_L_law_1081 : decode mb_L_law 1081 = .ok (.goto 103, 3) := by decide +kernel
theorem md_L_law_1084 : decode mb_L_law 1084 = .ok (.aload_n 1, 1) := by decide +kernel
theorem md_L_law_1085 : decode mb_L_law 1085 = .ok (.aload_n 0, 1) := by decide +kernel
theorem md_L_law_1086 : decode mb_L_law 1086 = .ok (.iload 4, 2) := by decide +kernel
theorem md_L_law_1088 : decode mb_L_law 1088 = .ok (.iconst 1, 1) := by decide +kernel
theorem md_L_law_1089 : decode mb_L_law 1089 = .ok (.iadd, 1) := by decide +kernel
theorem md_L_law_1090 : decode mb_L_law 1090 = .ok (.iaload, 1) := by decide +kernel
theorem md_L_law_1091 : decode mb_L_law 1091 = .ok (.i2l, 1) := by decide +kernel
theorem md_L_law_1092 : decode mb_L_law 1092 = .ok (.bipush 32, 2) := by decide +kernel
theorem md_L_law_1094 : decode mb_L_law 1094 = .ok (.lshl, 1) := by decide +kernel
theorem md_L_law_1095 : decode mb_L_law 1095 = .ok (.aload_n 0, 1) := by decide +kernel
theorem md_L_law_1096 : decode mb_L_law 1096 = .ok (.iload 4, 2) := by decide +kernel
theorem md_L_law_1098 : decode mb_L_law 1098 = .ok (.iconst 2, 1) := by decide +kernel
theorem md_L_law_1099 : decode mb_L_law 1099 = .ok (.iadd, 1) := by decide +kernel
theorem md_L_law_1100 : decode mb_L_law 1100 = .ok (.iaload, 1) := by decide +kernel
theorem md_L_law_1101 : decode mb_L_law 1101 = .ok (.i2l, 1) := by decide +kernel
theorem md_L_law_1102 : decode mb_L_law 1102 = .ok (.ldc2_w 94, 3) := by decide +kernel
theorem md_L_law_1105 : decode mb_L_law 1105 = .ok (.land, 1) := by decide +kernel
theorem md_L_law_1106 : decode mb_L_law 1106 = .ok (.lor, 1) := by decide +kernel
theorem md_L_law_1107 : decode mb_L_law 1107 = .ok (.aload_n 0, 1) := by decide +kernel
theorem md_L_law_1108 : decode mb_L_law 1108 = .ok (.iload 4, 2) := by decide +kernel
theorem md_L_law_1110 : decode mb_L_law 1110 = .ok (.iconst 3, 1) := by decide +kernel
theorem md_L_law_1111 : decode mb_L_law 1111 = .ok (.iadd, 1) := by decide +kernel
theorem md_L_law_1112 : decode mb_L_law 1112 = .ok (.iaload, 1) := by decide +kernel
theorem md_L_law_1113 : decode mb_L_law 1113 = .ok (.aload_n 3, 1) := by decide +kernel
theorem md_L_law_1114 : decode mb_L_law 1114 = .ok (.invokestatic 139, 3) := by decide +kernel
theorem md_L_law_1117 : decode mb_L_law 1117 = .ok (.istore 5, 2) := by decide +kernel
theorem md_L_law_1119 : decode mb_L_law 1119 = .ok (.aload_n 2, 1) := by decide +kernel
theorem md_L_law_1120 : decode mb_L_law 1120 = .ok (.aload_n 0, 1) := by decide +kernel
theorem md_L_law_1121 : decode mb_L_law 1121 = .ok (.iload 4, 2) := by decide +kernel
theorem md_L_law_1123 : decode mb_L_law 1123 = .ok (.iconst 1, 1) := by decide +kernel
theorem md_L_law_1124 : decode mb_L_law 1124 = .ok (.iadd, 1) := by decide +kernel
theorem md_L_law_1125 : decode mb_L_law 1125 = .ok (.iaload, 1) := by decide +kernel
theorem md_L_law_1126 : decode mb_L_law 1126 = .ok (.i2l, 1) := by decide +kernel
theorem md_L_law_1127 : decode mb_L_law 1127 = .ok (.bipush 32, 2) := by decide +kernel
theorem md_L_law_1129 : decode mb_L_law 1129 = .ok (.lshl, 1) := by decide +kernel
theorem md_L_law_1130 : decode mb_L_law 1130 = .ok (.aload_n 0, 1) := by decide +kernel
theorem md_L_law_1131 : decode mb_L_law 1131 = .ok (.iload 4, 2) := by decide +kernel
theorem md_L_law_1133 : decode mb_L_law 1133 = .ok (.iconst 2, 1) := by decide +kernel
theorem md_L_law_1134 : decode mb_L_law 1134 = .ok (.iadd, 1) := by decide +kernel
theorem md_L_law_1135 : decode mb_L_law 1135 = .ok (.iaload, 1) := by decide +kernel
theorem md_L_law_1136 : decode mb_L_law 1136 = .ok (.i2l, 1) := by decide +kernel
theorem md_L_law_1137 : decode mb_L_law 1137 = .ok (.ldc2_w 94, 3) := by decide +kernel
theorem md_L_law_1140 : decode mb_L_law 1140 = .ok (.land, 1) := by decide +kernel
theorem md_L_law_1141 : decode mb_L_law 1141 = .ok (.lor, 1) := by decide +kernel
theorem md_L_law_1142 : decode mb_L_law 1142 = .ok (.aload_n 0, 1) := by decide +kernel
theorem md_L_law_1143 : decode mb_L_law 1143 = .ok (.iload 4, 2) := by decide +kernel
theorem md_L_law_1145 : decode mb_L_law 1145 = .ok (.iconst 3, 1) := by decide +kernel
theorem md_L_law_1146 : decode mb_L_law 1146 = .ok (.iadd, 1) := by decide +kernel
theorem md_L_law_1147 : decode mb_L_law 1147 = .ok (.iaload, 1) := by decide +kernel
theorem md_L_law_1148 : decode mb_L_law 1148 = .ok (.invokevirtual 142, 3) := by decide +kernel
theorem md_L_law_1151 : decode mb_L_law 1151 = .ok (.istore 6, 2) := by decide +kernel
theorem md_L_law_1153 : decode mb_L_law 1153 = .ok (.aload_n 2, 1) := by decide +kernel
theorem md_L_law_1154 : decode mb_L_law 1154 = .ok (.invokevirtual 143, 3) := by decide +kernel
theorem md_L_law_1157 : decode mb_L_law 1157 = .ok (.iload 5, 2) := by decide +kernel
theorem md_L_law_1159 : decode mb_L_law 1159 = .ok (.if_icmp .eq 5, 3) := by decide +kernel
theorem md_L_law_1162 : decode mb_L_law 1162 = .ok (.iconst 0, 1) := by decide +kernel
theorem md_L_law_1163 : decode mb_L_law 1163 = .ok (.ireturn, 1) := by decide +kernel
theorem md_L_law_1164 : decode mb_L_law 1164 = .ok (.iload 5, 2) := by decide +kernel
theorem md_L_law_1166 : decode mb_L_law 1166 = .ok (.ifCond .ne 15, 3) := by decide +kernel
theorem md_L_law_1169 : decode mb_L_law 1169 = .ok (.aload_n 3, 1) := by decide +kernel
theorem md_L_law_1170 : decode mb_L_law 1170 = .ok (.iconst 0, 1) := by decide +kernel
theorem md_L_law_1171 : decode mb_L_law 1171 = .ok (.laload, 1) := by decide +kernel
theorem md_L_law_1172 : decode mb_L_law 1172 = .ok (.iload 6, 2) := by decide +kernel
theorem md_L_law_1174 : decode mb_L_law 1174 = .ok (.i2l, 1) := by decide +kernel
theorem md_L_law_1175 : decode mb_L_law 1175 = .ok (.lcmp, 1) := by decide +kernel
theorem md_L_law_1176 : decode mb_L_law 1176 = .ok (.ifCond .eq 5, 3) := by decide +kernel
theorem md_L_law_1179 : decode mb_L_law 1179 = .ok (.iconst 0, 1) := by decide +kernel
theorem md_L_law_1180 : decode mb_L_law 1180 = .ok (.ireturn, 1) := by decide +kernel
theorem md_L_law_1181 : decode mb_L_law 1181 = .ok (.goto 3, 3) := by decide +kernel
theorem md_L_law_1184 : decode mb_L_law 1184 = .ok (.iinc 4 9, 3) := by decide +kernel
theorem md_L_law_1187 : decode mb_L_law 1187 = .ok (.goto (-1164), 3) := by decide +kernel
theorem md_L_law_1190 : decode mb_L_law 1190 = .ok (.iconst 1, 1) := by decide +kernel
theorem md_L_law_1191 : decode mb_L_law 1191 = .ok (.ireturn, 1) := by decide +kernel
end
