section
-- ===== PART A: goes FIRST, ahead of the names: the tables' words, and 'selects' of the private methods out of them =====
/-- a private method of a class that the tables say can be made, by its rows of tables_1 -/
def lw_okq (q : MethodName × Nat) : Prop := (q.1.cls ≠ "java/lang/invoke/MethodHandle" ∧ q.1.cls ≠ "java/lang/invoke/VarHandle") ∧ Cond.instantiable q.1.cls q.2 ∈ tables_1 ∧ Cond.privateMethod q.1 ∈ tables_1 ∧ Cond.instanceMethod q.1 ∈ tables_1
theorem lw_p0 : lw_okq (⟨"BitRows$Track", "isBehindFullByte", "()Z"⟩, 7) := ⟨⟨by decide +kernel, by decide +kernel⟩, List.mem_of_getElem? (i := 48) (by decide +kernel), List.mem_of_getElem? (i := 116) (by decide +kernel), List.mem_of_getElem? (i := 117) (by decide +kernel)⟩
theorem lw_p1 : lw_okq (⟨"BitRows$Row", "shiftInByte", "(I)I"⟩, 3) := ⟨⟨by decide +kernel, by decide +kernel⟩, List.mem_of_getElem? (i := 29) (by decide +kernel), List.mem_of_getElem? (i := 137) (by decide +kernel), List.mem_of_getElem? (i := 138) (by decide +kernel)⟩
theorem lw_p2 : lw_okq (⟨"java/lang/Throwable", "fillInStackTrace", "(I)Ljava/lang/Throwable;"⟩, 6) := ⟨⟨by decide +kernel, by decide +kernel⟩, List.mem_of_getElem? (i := 236) (by decide +kernel), List.mem_of_getElem? (i := 234) (by decide +kernel), List.mem_of_getElem? (i := 235) (by decide +kernel)⟩
theorem lw_p3 : lw_okq (⟨"BitRows", "refuseToOverfill", "(I)V"⟩, 8) := ⟨⟨by decide +kernel, by decide +kernel⟩, List.mem_of_getElem? (i := 15) (by decide +kernel), List.mem_of_getElem? (i := 266) (by decide +kernel), List.mem_of_getElem? (i := 267) (by decide +kernel)⟩
theorem lw_p4 : lw_okq (⟨"BitRows", "writeStuffedIfDue", "()V"⟩, 8) := ⟨⟨by decide +kernel, by decide +kernel⟩, List.mem_of_getElem? (i := 15) (by decide +kernel), List.mem_of_getElem? (i := 286) (by decide +kernel), List.mem_of_getElem? (i := 287) (by decide +kernel)⟩
theorem lw_p5 : lw_okq (⟨"BitRows", "shiftOf", "(II)I"⟩, 8) := ⟨⟨by decide +kernel, by decide +kernel⟩, List.mem_of_getElem? (i := 15) (by decide +kernel), List.mem_of_getElem? (i := 295) (by decide +kernel), List.mem_of_getElem? (i := 296) (by decide +kernel)⟩
theorem lw_p6 : lw_okq (⟨"BitRows", "writeBit", "(I)V"⟩, 8) := ⟨⟨by decide +kernel, by decide +kernel⟩, List.mem_of_getElem? (i := 15) (by decide +kernel), List.mem_of_getElem? (i := 299) (by decide +kernel), List.mem_of_getElem? (i := 300) (by decide +kernel)⟩
theorem lw_p7 : lw_okq (⟨"BitRows", "writeTillAligned", "()I"⟩, 8) := ⟨⟨by decide +kernel, by decide +kernel⟩, List.mem_of_getElem? (i := 15) (by decide +kernel), List.mem_of_getElem? (i := 310) (by decide +kernel), List.mem_of_getElem? (i := 311) (by decide +kernel)⟩
theorem lw_p8 : lw_okq (⟨"BitRows", "refuseMoreBytes", "(I)V"⟩, 8) := ⟨⟨by decide +kernel, by decide +kernel⟩, List.mem_of_getElem? (i := 15) (by decide +kernel), List.mem_of_getElem? (i := 384) (by decide +kernel), List.mem_of_getElem? (i := 385) (by decide +kernel)⟩
theorem lw_p9 : lw_okq (⟨"BitRows", "readBit", "()I"⟩, 8) := ⟨⟨by decide +kernel, by decide +kernel⟩, List.mem_of_getElem? (i := 15) (by decide +kernel), List.mem_of_getElem? (i := 406) (by decide +kernel), List.mem_of_getElem? (i := 407) (by decide +kernel)⟩
theorem lw_p10 : lw_okq (⟨"BitRows", "meetHere", "()I"⟩, 8) := ⟨⟨by decide +kernel, by decide +kernel⟩, List.mem_of_getElem? (i := 15) (by decide +kernel), List.mem_of_getElem? (i := 410) (by decide +kernel), List.mem_of_getElem? (i := 411) (by decide +kernel)⟩
theorem lw_p11 : lw_okq (⟨"BitRows", "readStuffedIfDue", "()I"⟩, 8) := ⟨⟨by decide +kernel, by decide +kernel⟩, List.mem_of_getElem? (i := 15) (by decide +kernel), List.mem_of_getElem? (i := 418) (by decide +kernel), List.mem_of_getElem? (i := 419) (by decide +kernel)⟩
theorem lw_p12 : lw_okq (⟨"BitRowsModel", "isFull", "(I)Z"⟩, 19) := ⟨⟨by decide +kernel, by decide +kernel⟩, List.mem_of_getElem? (i := 451) (by decide +kernel), List.mem_of_getElem? (i := 528) (by decide +kernel), List.mem_of_getElem? (i := 529) (by decide +kernel)⟩
theorem lw_p13 : lw_okq (⟨"BitRowsModel", "putBit", "(Z)I"⟩, 19) := ⟨⟨by decide +kernel, by decide +kernel⟩, List.mem_of_getElem? (i := 451) (by decide +kernel), List.mem_of_getElem? (i := 532) (by decide +kernel), List.mem_of_getElem? (i := 533) (by decide +kernel)⟩
theorem lw_p14 : lw_okq (⟨"BitRowsModel", "stuff", "()V"⟩, 19) := ⟨⟨by decide +kernel, by decide +kernel⟩, List.mem_of_getElem? (i := 451) (by decide +kernel), List.mem_of_getElem? (i := 536) (by decide +kernel), List.mem_of_getElem? (i := 537) (by decide +kernel)⟩
theorem lw_p15 : lw_okq (⟨"BitRowsModel", "add", "(Z)V"⟩, 19) := ⟨⟨by decide +kernel, by decide +kernel⟩, List.mem_of_getElem? (i := 451) (by decide +kernel), List.mem_of_getElem? (i := 540) (by decide +kernel), List.mem_of_getElem? (i := 541) (by decide +kernel)⟩
def lw_privs_1 : List (MethodName × Nat) := [(⟨"BitRows$Track", "isBehindFullByte", "()Z"⟩, 7), (⟨"BitRows$Row", "shiftInByte", "(I)I"⟩, 3), (⟨"java/lang/Throwable", "fillInStackTrace", "(I)Ljava/lang/Throwable;"⟩, 6), (⟨"BitRows", "refuseToOverfill", "(I)V"⟩, 8), (⟨"BitRows", "writeStuffedIfDue", "()V"⟩, 8), (⟨"BitRows", "shiftOf", "(II)I"⟩, 8), (⟨"BitRows", "writeBit", "(I)V"⟩, 8), (⟨"BitRows", "writeTillAligned", "()I"⟩, 8), (⟨"BitRows", "refuseMoreBytes", "(I)V"⟩, 8), (⟨"BitRows", "readBit", "()I"⟩, 8), (⟨"BitRows", "meetHere", "()I"⟩, 8), (⟨"BitRows", "readStuffedIfDue", "()I"⟩, 8), (⟨"BitRowsModel", "isFull", "(I)Z"⟩, 19), (⟨"BitRowsModel", "putBit", "(Z)I"⟩, 19), (⟨"BitRowsModel", "stuff", "()V"⟩, 19), (⟨"BitRowsModel", "add", "(Z)V"⟩, 19)]
theorem lw_r1 : ∀ q ∈ lw_privs_1, lw_okq q := List.forall_mem_cons.mpr ⟨lw_p0, List.forall_mem_cons.mpr ⟨lw_p1, List.forall_mem_cons.mpr ⟨lw_p2, List.forall_mem_cons.mpr ⟨lw_p3, List.forall_mem_cons.mpr ⟨lw_p4, List.forall_mem_cons.mpr ⟨lw_p5, List.forall_mem_cons.mpr ⟨lw_p6, List.forall_mem_cons.mpr ⟨lw_p7, List.forall_mem_cons.mpr ⟨lw_p8, List.forall_mem_cons.mpr ⟨lw_p9, List.forall_mem_cons.mpr ⟨lw_p10, List.forall_mem_cons.mpr ⟨lw_p11, List.forall_mem_cons.mpr ⟨lw_p12, List.forall_mem_cons.mpr ⟨lw_p13, List.forall_mem_cons.mpr ⟨lw_p14, List.forall_mem_cons.mpr ⟨lw_p15, fun _ h => absurd h List.not_mem_nil⟩⟩⟩⟩⟩⟩⟩⟩⟩⟩⟩⟩⟩⟩⟩⟩
theorem lw_p16 : lw_okq (⟨"BitRowsModel", "byteOf", "(I)I"⟩, 19) := ⟨⟨by decide +kernel, by decide +kernel⟩, List.mem_of_getElem? (i := 451) (by decide +kernel), List.mem_of_getElem? (i := 544) (by decide +kernel), List.mem_of_getElem? (i := 545) (by decide +kernel)⟩
theorem lw_p17 : lw_okq (⟨"BitRowsModel", "alignAll", "()I"⟩, 19) := ⟨⟨by decide +kernel, by decide +kernel⟩, List.mem_of_getElem? (i := 451) (by decide +kernel), List.mem_of_getElem? (i := 552) (by decide +kernel), List.mem_of_getElem? (i := 553) (by decide +kernel)⟩
theorem lw_p18 : lw_okq (⟨"BitRowsModel", "bytesWritten", "()I"⟩, 19) := ⟨⟨by decide +kernel, by decide +kernel⟩, List.mem_of_getElem? (i := 451) (by decide +kernel), List.mem_of_getElem? (i := 570) (by decide +kernel), List.mem_of_getElem? (i := 571) (by decide +kernel)⟩
theorem lw_p19 : lw_okq (⟨"BitRowsModel", "beginTry", "()V"⟩, 19) := ⟨⟨by decide +kernel, by decide +kernel⟩, List.mem_of_getElem? (i := 451) (by decide +kernel), List.mem_of_getElem? (i := 587) (by decide +kernel), List.mem_of_getElem? (i := 588) (by decide +kernel)⟩
theorem lw_p20 : lw_okq (⟨"BitRowsModel", "tryBit", "()I"⟩, 19) := ⟨⟨by decide +kernel, by decide +kernel⟩, List.mem_of_getElem? (i := 451) (by decide +kernel), List.mem_of_getElem? (i := 591) (by decide +kernel), List.mem_of_getElem? (i := 592) (by decide +kernel)⟩
theorem lw_p21 : lw_okq (⟨"BitRowsModel", "obstacle", "()I"⟩, 19) := ⟨⟨by decide +kernel, by decide +kernel⟩, List.mem_of_getElem? (i := 451) (by decide +kernel), List.mem_of_getElem? (i := 595) (by decide +kernel), List.mem_of_getElem? (i := 596) (by decide +kernel)⟩
theorem lw_p22 : lw_okq (⟨"BitRowsModel", "bitAt", "(I)I"⟩, 19) := ⟨⟨by decide +kernel, by decide +kernel⟩, List.mem_of_getElem? (i := 451) (by decide +kernel), List.mem_of_getElem? (i := 599) (by decide +kernel), List.mem_of_getElem? (i := 600) (by decide +kernel)⟩
theorem lw_p23 : lw_okq (⟨"BitRowsModel", "goOn", "()V"⟩, 19) := ⟨⟨by decide +kernel, by decide +kernel⟩, List.mem_of_getElem? (i := 451) (by decide +kernel), List.mem_of_getElem? (i := 603) (by decide +kernel), List.mem_of_getElem? (i := 604) (by decide +kernel)⟩
theorem lw_p24 : lw_okq (⟨"BitRowsModel", "keepTry", "()V"⟩, 19) := ⟨⟨by decide +kernel, by decide +kernel⟩, List.mem_of_getElem? (i := 451) (by decide +kernel), List.mem_of_getElem? (i := 608) (by decide +kernel), List.mem_of_getElem? (i := 609) (by decide +kernel)⟩
theorem lw_p25 : lw_okq (⟨"BitRowsModel", "isMark", "(I)Z"⟩, 19) := ⟨⟨by decide +kernel, by decide +kernel⟩, List.mem_of_getElem? (i := 451) (by decide +kernel), List.mem_of_getElem? (i := 620) (by decide +kernel), List.mem_of_getElem? (i := 621) (by decide +kernel)⟩
def lw_privs_2 : List (MethodName × Nat) := [(⟨"BitRowsModel", "byteOf", "(I)I"⟩, 19), (⟨"BitRowsModel", "alignAll", "()I"⟩, 19), (⟨"BitRowsModel", "bytesWritten", "()I"⟩, 19), (⟨"BitRowsModel", "beginTry", "()V"⟩, 19), (⟨"BitRowsModel", "tryBit", "()I"⟩, 19), (⟨"BitRowsModel", "obstacle", "()I"⟩, 19), (⟨"BitRowsModel", "bitAt", "(I)I"⟩, 19), (⟨"BitRowsModel", "goOn", "()V"⟩, 19), (⟨"BitRowsModel", "keepTry", "()V"⟩, 19), (⟨"BitRowsModel", "isMark", "(I)Z"⟩, 19)]
theorem lw_r2 : ∀ q ∈ lw_privs_2, lw_okq q := List.forall_mem_cons.mpr ⟨lw_p16, List.forall_mem_cons.mpr ⟨lw_p17, List.forall_mem_cons.mpr ⟨lw_p18, List.forall_mem_cons.mpr ⟨lw_p19, List.forall_mem_cons.mpr ⟨lw_p20, List.forall_mem_cons.mpr ⟨lw_p21, List.forall_mem_cons.mpr ⟨lw_p22, List.forall_mem_cons.mpr ⟨lw_p23, List.forall_mem_cons.mpr ⟨lw_p24, List.forall_mem_cons.mpr ⟨lw_p25, fun _ h => absurd h List.not_mem_nil⟩⟩⟩⟩⟩⟩⟩⟩⟩⟩
def lw_privs : List (MethodName × Nat) := lw_privs_1 ++ (lw_privs_2)
def lw_tbl : List Cond := k2_sels lw_privs ++ tables_1
theorem lw_privs_ok : ∀ q ∈ lw_privs, lw_okq q := by
  show ∀ q ∈ lw_privs_1 ++ (lw_privs_2), lw_okq q
  exact List.forall_mem_append.mpr ⟨lw_r1, lw_r2⟩
end
section
/-! ===== BEGIN words of one list among another's, by their places ===== -/
theorem goodIn_r {big : List Cond} (ws : List Cond) (ps : List Nat) (hp : ws = ps.filterMap (fun i => big[i]?)) (h : ws.all goodWord = true) : GoodIn big ws := by
  intro w hw
  have h1 := List.all_eq_true.mp h w hw
  rw [hp] at hw
  obtain ⟨i, -, hi⟩ := List.mem_filterMap.mp hw
  have hm : w ∈ big := by first | exact List.mem_of_getElem? hi | exact List.getElem?_mem hi
  exact ⟨hm, good_of_word h1⟩
theorem goodIn_app {big a b : List Cond} (ha : GoodIn big a) (hb : GoodIn big b) : GoodIn big (a ++ b) := fun w h => (List.mem_append.mp h).elim (ha w) (hb w)
theorem goodIn_ca {big a b : List Cond} {c : Cond} (ha : GoodIn big (c :: a)) (hb : GoodIn big b) : GoodIn big (c :: (a ++ b)) := fun w h => (List.mem_cons.mp h).elim (fun e => ha w (List.mem_cons.mpr (Or.inl e))) (fun h => (List.mem_append.mp h).elim (fun h => ha w (List.mem_cons.mpr (Or.inr h))) (hb w))
theorem goodIn_sub {big ws : List Cond} (hm : ∀ w ∈ ws, w ∈ big) (h : ws.all goodWord = true) : GoodIn big ws := fun w hw => ⟨hm w hw, good_of_word (List.all_eq_true.mp h w hw)⟩
/-! ===== END ===== -/

/-! ===== BEGIN exceptions that leave a method, and their catching by the caller (launches without stack traces) ===== -/
section VXA
/-! The laws vx_back, vx_callV, vx_callS, vx_callSW, vx_throw0, vx_throwS follow proofs of the library, with one case more: JvmDerived/Free/Laws.lean (Back.of_free), Shelf42/LK1.lean (callV, callS), Shelf/KitTraced.lean (throwNew0V, throwNewS). -/
/-- where a method has thrown q: the class by its name, the cell, what was written, the world -/
def vx_T (XC : String → State → State → Prop) (st : State) (q : Addr) (t : State) (mc ms : Nat) (free : Addr → Prop) : Prop :=
  ∃ (E : String) (ce : Cell) (L : List Loc), XC E st t ∧ t.heap[q]? = some ce ∧ ce.vm = .none ∧ st.vm.findClass E = some ce.cls ∧ st.WarmedH t.vm ∧ st.sameButNew ({ t with vm := st.vm } : State) L mc ms ∧ ∀ z ∈ L, free z.base
def vx_Q (Qc : Array Value → State → Outcome → State → Prop) (XC : String → State → State → Prop) (mc ms : Nat) (free : Addr → Prop) : Array Value → State → Outcome → State → Prop := fun a st o t =>
  (Qc a st o t ∧ ∃ L, FrameEnd st o t L mc ms ∧ ∀ q ∈ L, free q.base) ∨ ∃ q, o = .threw q ∧ vx_T XC st q t mc ms free
/-- a callee that returns or throws -/
def vx_Met (l : Launch) (y : MethodName) (ws : List Cond) (rm : Room) (Pc : Array Value → State → Prop) (Qc : Array Value → State → Outcome → State → Prop) (XC : String → State → State → Prop) (mc ms : Nat) (free : Addr → Prop) : Prop :=
  MetFree l y (headSpec ws rm) Pc (fun _ _ _ _ _ => True) (vx_Q Qc XC mc ms free)
def vx_Post (XC : String → State → State → Prop) (mc ms : Nat) (free : Addr → Prop) : Pt → Array Value → Addr → Pt → Prop := fun A a q B =>
  ∃ (g : JFrame) (mk : MethodId) (t : State) (L : List Loc) (E : String) (ce : Cell), B.U.heap = t.heap ∧ B.U.vm = t.vm ∧ XC E (A.U.calling g mk a) t ∧ t.heap[q]? = some ce ∧ ce.vm = .none ∧ A.U.vm.findClass E = some ce.cls ∧ B.locs = A.locs ++ L ∧ (∀ z ∈ L, free z.base) ∧ B.cells = A.cells + mc ∧ B.slots = A.slots + ms
def vx_Back (l : Launch) (R : Room) (p : Program) (e : Env) (below : List Frame) (s : State) (sargs : Array Value) (y : MethodName) (len W9 : Nat)
    (Pre : Pt → Array Value → Prop) (Post : Pt → Array Value → Option Value → Pt → Prop) (PostX : Pt → Array Value → Addr → Pt → Prop) : Prop :=
  ∀ (m : MethodId) (meth : Method) (c : Code) (A : Pt) (g : JFrame) (ig : Instr) (mk : MethodId) (a : Array Value),
    Stand p l e R s m sargs below meth c A.U A.locs A.cells A.slots → g.method = m → g.locals.size = c.maxLocals → decode c.code g.pc = .ok (ig, len) →
    2 * g.monitorRoom + (g.stack.map fun v => v.category).sum ≤ W9 → A.U.methodNamed? y = some mk → Pre A a →
    (∃ (v : Option Value) (B : Pt), Stand p l e R s m sargs below meth c B.U B.locs B.cells B.slots ∧ Post A a v B ∧
      Steps p.tables e below (doInvoke e (A.U.setTop g) [] mk a).1 (B.U.setTop { g with pc := g.pc + len, stack := v.toList ++ g.stack })) ∨
    (∃ (q : Addr) (B : Pt), Stand p l e R s m sargs below meth c B.U B.locs B.cells B.slots ∧ PostX A a q B ∧
      Steps p.tables e below (doInvoke e (A.U.setTop g) [] mk a).1 ((B.U.setTop g).pushFrame (.throwing q)))
section Payer
variable {l : Launch} {R : Room} {p : Program} {e : Env} {below : List Frame} {s : State} {sargs : Array Value} {y : MethodName} {len W9 : Nat}
theorem vx_back {ws : List Cond} {rm : Room} {Pc : Array Value → State → Prop} {Qc : Array Value → State → Outcome → State → Prop} {XC : String → State → State → Prop} {mc ms : Nat} {free : Addr → Prop} {bytes : ByteArray} {maxL : Nat} {ret : Option FieldType}
    (hM : vx_Met l y ws rm Pc Qc XC mc ms free) (hblind : FrameBlind Pc) (hrc : rm.cells = mc) (hrs : rm.slots = ms)
    (hframes : rm.frames + 1 ≤ R.frames) (hlocals : W9 + (maxL + 11) + rm.locals ≤ R.locals)
    (hws : ∀ w ∈ ws, ∀ a' U, s.WarmedH U.vm → w.before a' U = true) (hcode : Cond.code y bytes maxL ret ∈ ws) (hinit : ∀ a' U, s.WarmedH U.vm → (Cond.initialized y.cls).before a' U = true) :
    vx_Back l R p e below s sargs y len W9 (PreOf R mc ms Pc) (PostOf Qc mc ms free) (vx_Post XC mc ms free) := by
  intro m meth c A g ig mk a X hg hsize hdg hW hn hp
  have h1 : (headSpec ws rm).pre.before a A.U = true := atoms_intro fun w hw => hws w hw _ _ X.warmed
  have h2 : (Cond.code y bytes maxL ret).before a A.U = true := hws _ hcode _ _ X.warmed
  have h3 : (Cond.initialized y.cls).before a A.U = true := hinit _ _ X.warmed
  have h4 : A.cells + (headSpec ws rm).room.cells ≤ R.cells := by rw [show (headSpec ws rm).room.cells = mc from hrc]; exact hp.1
  have h5 : A.slots + (headSpec ws rm).room.slots ≤ R.slots := by rw [show (headSpec ws rm).room.slots = ms from hrs]; exact hp.2.1
  have hPc : Pc a (A.U.calling g mk a) := hblind _ _ _ _ hp.2.2
  obtain ⟨U, Ls, c0, s0⟩ := A
  dsimp only [Pt.U, Pt.locs, Pt.cells, Pt.slots] at h1 h2 h3 h4 h5 X hn hPc ⊢
  obtain ⟨methY, cY, hmY, hcY, -, hlY, -, -, -, -⟩ := Cond.code_spec hn h2
  obtain ⟨kY, hkY, -⟩ := className_of_methodNamed hn
  have hinitY : kY.init = .initialized := Cond.initialized_spec (findClass_of_methodNamed hn) hkY h3
  have h : At U g.method c below := by rw [hg]; exact X.here
  have hlocals9 : W9 + (maxL + 11) + (headSpec ws rm).room.locals ≤ R.locals := hlocals
  have happ : (headSpec ws rm).appliesLoose y e.platform (U.calling g mk a) = true :=
    Spec.appliesLoose_calling (g := g) h hdg hn hkY hinitY
      (X.room_calling (g := g) (R' := (headSpec ws rm).room) hsize hmY hcY hframes (by rw [hlY]; omega) h4 h5) h1
  obtain ⟨mid, hmid⟩ := h.above
  have hfr : (U.setTop g).frames = (.java g :: mid) ++ below := by rw [State.frames_setTop' g h.top, hmid]; rfl
  obtain ⟨o, s₂, hsteps, -, hend, hq⟩ := Steps.callFree hM p X.admits X.cas X.clock (acts := []) hfr happ hPc trivial
  have hq' : vx_Q Qc XC mc ms free a (U.calling g mk a) o s₂ := hq
  rw [State.frames_setTop' g h.top] at hend
  obtain ⟨g₀, hg0⟩ := Option.isSome_iff_exists.mp h.top
  obtain ⟨r, hr⟩ := State.topJava?_eq_some.mp hg0
  have hr' : (({ U with heap := s₂.heap, slotsUsed := s₂.slotsUsed } : State).setVm s₂.vm).frames = .java g₀ :: r := hr
  rcases hq' with ⟨hqc, L, hfe, hL⟩ | ⟨q, rfl, E, ce, L, hx, hce, hcv, hcl, hW₂, hsm, hL⟩
  · obtain ⟨⟨v, rfl⟩, hW₂, e2, q2, q3, q4, q5, q6⟩ := id hfe
    have e3 : s₂ = ({ (U.calling g mk a).setFrames s₂.frames with heap := s₂.heap, slotsUsed := s₂.slotsUsed } : State).setVm s₂.vm := by
      have : s₂ = ({ s₂ with vm := (U.calling g mk a).vm } : State).setVm s₂.vm := rfl
      rw [e2] at this
      exact this
    obtain ⟨c₂, i₂, len₂, hc₂, hd₂, hf₂⟩ := hend
    have hW' : U.WarmedH s₂.vm := hW₂
    have hcc : c₂ = c := by
      have h1 : s₂.code? g.method = U.code? g.method := by
        rw [State.code?_eq, State.code?_eq, hW'.alike.method?]
      exact Option.some.inj (hc₂.symm.trans (h1.trans h.code))
    subst hcc
    have hlen : len₂ = len := by rw [hdg] at hd₂; cases hd₂; rfl
    subst hlen
    have hs₂ : s₂ = (({ U with heap := s₂.heap, slotsUsed := s₂.slotsUsed } : State).setVm s₂.vm).setTop { g with pc := g.pc + len₂, stack := v.toList ++ g.stack } := by
      refine e3.trans ?_
      rw [hf₂, State.calling_eq h.top, State.setFrames_setFrames, State.setTop_of_frames _ hr', hr]
      rfl
    have hsame : U.sameButNew ({ U with heap := s₂.heap, slotsUsed := s₂.slotsUsed } : State) L mc ms := by
      refine ⟨?_, q2, q3, q4, q5, q6⟩
      obtain ⟨t, ht, -⟩ := State.frames_cons hr
      show ({ U with heap := s₂.heap, slotsUsed := s₂.slotsUsed } : State) = { U.setFrames U.frames with heap := s₂.heap, slotsUsed := s₂.slotsUsed }
      rw [State.setFrames_self ht]
    subst hg
    refine Or.inl ⟨v, ⟨(({ U with heap := s₂.heap, slotsUsed := s₂.slotsUsed } : State).setVm s₂.vm), Ls ++ L, c0 + mc, s0 + ms⟩,
      ⟨X.admits, X.cas, X.clock, X.frames, X.room, X.hears, X.method, X.code, (X.here.setHeapUsed s₂.heap s₂.slotsUsed).setVm hW'.alike, X.tail, State.WarmedH.trans X.warmed hW', X.limits, X.bytes, X.same.trans (hsame.setVm s.vm)⟩,
      ⟨g, mk, s₂, L, rfl, rfl, hqc, rfl, hL, rfl, rfl⟩, ?_⟩
    show Steps p.tables e below _ ((({ U with heap := s₂.heap, slotsUsed := s₂.slotsUsed } : State).setVm s₂.vm).setTop { g with pc := g.pc + len₂, stack := v.toList ++ g.stack })
    rw [← hs₂]
    exact hsteps
  · obtain ⟨e2, q2, q3, q4, q5, q6⟩ := id hsm
    have e3 : s₂ = ({ (U.calling g mk a).setFrames s₂.frames with heap := s₂.heap, slotsUsed := s₂.slotsUsed } : State).setVm s₂.vm := by
      have : s₂ = ({ s₂ with vm := (U.calling g mk a).vm } : State).setVm s₂.vm := rfl
      rw [e2] at this
      exact this
    have hf₂ : s₂.frames = .throwing q :: .java g :: U.frames.tail := hend
    have hW' : U.WarmedH s₂.vm := hW₂
    have hs₂ : s₂ = ((({ U with heap := s₂.heap, slotsUsed := s₂.slotsUsed } : State).setVm s₂.vm).setTop g).pushFrame (.throwing q) := by
      refine e3.trans ?_
      rw [hf₂, State.calling_eq h.top, State.setFrames_setFrames, State.pushFrame, State.frames_setTop _ hr', State.setTop_of_frames _ hr', State.setFrames_setFrames, hr]
      rfl
    have hsame : U.sameButNew ({ U with heap := s₂.heap, slotsUsed := s₂.slotsUsed } : State) L mc ms := by
      refine ⟨?_, q2, q3, q4, q5, q6⟩
      obtain ⟨t, ht, -⟩ := State.frames_cons hr
      show ({ U with heap := s₂.heap, slotsUsed := s₂.slotsUsed } : State) = { U.setFrames U.frames with heap := s₂.heap, slotsUsed := s₂.slotsUsed }
      rw [State.setFrames_self ht]
    subst hg
    refine Or.inr ⟨q, ⟨(({ U with heap := s₂.heap, slotsUsed := s₂.slotsUsed } : State).setVm s₂.vm), Ls ++ L, c0 + mc, s0 + ms⟩,
      ⟨X.admits, X.cas, X.clock, X.frames, X.room, X.hears, X.method, X.code, (X.here.setHeapUsed s₂.heap s₂.slotsUsed).setVm hW'.alike, X.tail, State.WarmedH.trans X.warmed hW', X.limits, X.bytes, X.same.trans (hsame.setVm s.vm)⟩,
      ⟨g, mk, s₂, L, E, ce, rfl, rfl, hx, hce, hcv, hcl, rfl, hL, rfl, rfl⟩, ?_⟩
    show Steps p.tables e below _ (((({ U with heap := s₂.heap, slotsUsed := s₂.slotsUsed } : State).setVm s₂.vm).setTop g).pushFrame (.throwing q))
    rw [← hs₂]
    exact hsteps
end Payer
section Calls
variable {p : Program} {l : Launch} {e : Env} {R : Room} {s : State} {m : MethodId} {args : Array Value} {below : List Frame} {meth : Method} {c : Code} {T : State} {locs : List Loc} {cells slots : Nat}
theorem vx_callV (X : Stand p l e R s m args below meth c T locs cells slots) (hexec : p.tables.exec = Jvm.exec) {own C : String} {index : Nat} {y : MethodName} {bytes : ByteArray} {maxL : Nat} {ret : Option FieldType}
    (hown : s.vm.findClass own = some m.cls) (hlink : (Cond.methodLink own index y).before args s = true) (hinst : (Cond.instanceMethod y).before args s = true) (hsel : (Cond.selects C y y).before args s = true)
    (hcode : (Cond.code y bytes maxL ret).before args s = true) (hy : y.cls ≠ "java/lang/invoke/MethodHandle" ∧ y.cls ≠ "java/lang/invoke/VarHandle")
    {W9 : Nat} {Pre : Pt → Array Value → Prop} {Post : Pt → Array Value → Option Value → Pt → Prop} {PostX : Pt → Array Value → Addr → Pt → Prop} (hK : vx_Back l R p e below s args y 3 W9 Pre Post PostX)
    {b : Addr} {cellB : Cell} (hcell : T.heap[b]? = some cellB) (hobj : cellB.vm.isStatics = false) (hcls : s.vm.findClass C = some cellB.cls)
    {g : JFrame} (hg : g.method = m) (hsize : g.locals.size = c.maxLocals) {argsL rest : List Value} (hlen : ∀ sig, parseMethodDescriptor y.desc = some sig → argsL.length = sig.parameters.length)
    (hstack : g.stack = argsL.reverse ++ .ref b :: rest) (hW : 2 * g.monitorRoom + (rest.map fun v => v.category).sum ≤ W9) (hdg : decode c.code g.pc = .ok (.invokevirtual index, 3))
    (hpre : ∀ vm₁, s.WarmedH vm₁ → Pre ⟨T.setVm vm₁, locs, cells, slots⟩ (Value.ref b :: argsL).toArray) :
    (∃ (v : Option Value) (vm₁ : Vm) (B : Pt), s.WarmedH vm₁ ∧ Stand p l e R s m args below meth c B.U B.locs B.cells B.slots ∧ Post ⟨T.setVm vm₁, locs, cells, slots⟩ (Value.ref b :: argsL).toArray v B ∧
      ∀ target, Steps p.tables e below (B.U.setTop { g with pc := g.pc + 3, stack := v.toList ++ rest }) target → Steps p.tables e below (T.setTop g) target) ∨
    (∃ (q : Addr) (vm₁ : Vm) (B : Pt), s.WarmedH vm₁ ∧ Stand p l e R s m args below meth c B.U B.locs B.cells B.slots ∧ PostX ⟨T.setVm vm₁, locs, cells, slots⟩ (Value.ref b :: argsL).toArray q B ∧
      Steps p.tables e below (T.setTop g) ((B.U.setTop { g with stack := rest }).pushFrame (.throwing q))) := by
  obtain ⟨mk, methM, hnamed, hmethM, hstM, habM⟩ := Cond.instanceMethod_spec hinst
  obtain ⟨methM', cM, hmethM', -, -, -, -, -, -, hsigM⟩ := Cond.code_spec hnamed hcode
  cases hmethM.symm.trans hmethM'
  obtain ⟨c2, r2, m2, q1, q2, q3, q4, kP, hkP, hkPi⟩ := Cond.selects_spec hsel
  cases hcls.symm.trans q1
  cases (State.methodFound?_of_named hnamed hy).symm.trans q2
  cases hnamed.symm.trans q3
  have hselP : selectMethod e.platform s.vm cellB.cls mk = .method mk := by rw [Launch.admits_selectMethod X.admits]; exact q4
  obtain ⟨vm₁, X₁, hstep₁⟩ := X.invokevirtual hexec hown hlink hnamed hmethM hstM hkP hkPi hy (a := b) (cell := cellB) hcell
    (fun z h => by rw [h] at hobj; cases hobj) hselP hmethM habM hkP hkPi (g := g) hg (argsL := argsL) (rest := rest) (hlen _ hsigM) hstack hdg
  rcases hK m meth c ⟨T.setVm vm₁, locs, cells, slots⟩ { g with stack := rest } (.invokevirtual index) mk (Value.ref b :: argsL).toArray X₁ hg hsize hdg hW (X₁.named hnamed) (hpre vm₁ X₁.warmed) with ⟨v, B, X', hpost, hsteps⟩ | ⟨q, B, X', hpost, hsteps⟩
  · exact Or.inl ⟨v, vm₁, B, X₁.warmed, X', hpost, fun target h => hstep₁ _ fun acts => by rw [doInvoke_state]; exact hsteps.trans h⟩
  · exact Or.inr ⟨q, vm₁, B, X₁.warmed, X', hpost, hstep₁ _ fun acts => by rw [doInvoke_state]; exact hsteps⟩
theorem vx_callS (X : Stand p l e R s m args below meth c T locs cells slots) (hexec : p.tables.exec = Jvm.exec) {own : String} {index : Nat} {y : MethodName} {bytes : ByteArray} {maxL : Nat} {ret : Option FieldType}
    (hown : s.vm.findClass own = some m.cls) (hlink : (Cond.methodLink own index y).before args s = true) (hstat : (Cond.static y).before args s = true) (hinit : (Cond.initialized y.cls).before args s = true)
    (hcode : (Cond.code y bytes maxL ret).before args s = true) (hy : y.cls ≠ "java/lang/invoke/MethodHandle" ∧ y.cls ≠ "java/lang/invoke/VarHandle")
    {W9 : Nat} {Pre : Pt → Array Value → Prop} {Post : Pt → Array Value → Option Value → Pt → Prop} {PostX : Pt → Array Value → Addr → Pt → Prop} (hK : vx_Back l R p e below s args y 3 W9 Pre Post PostX)
    {g : JFrame} (hg : g.method = m) (hsize : g.locals.size = c.maxLocals) {argsL rest : List Value} (hlen : ∀ sig, parseMethodDescriptor y.desc = some sig → argsL.length = sig.parameters.length)
    (hstack : g.stack = argsL.reverse ++ rest) (hW : 2 * g.monitorRoom + (rest.map fun v => v.category).sum ≤ W9) (hdg : decode c.code g.pc = .ok (.invokestatic index, 3))
    (hpre : ∀ vm₁, s.WarmedH vm₁ → Pre ⟨T.setVm vm₁, locs, cells, slots⟩ argsL.toArray) :
    (∃ (v : Option Value) (vm₁ : Vm) (B : Pt), s.WarmedH vm₁ ∧ Stand p l e R s m args below meth c B.U B.locs B.cells B.slots ∧ Post ⟨T.setVm vm₁, locs, cells, slots⟩ argsL.toArray v B ∧
      ∀ target, Steps p.tables e below (B.U.setTop { g with pc := g.pc + 3, stack := v.toList ++ rest }) target → Steps p.tables e below (T.setTop g) target) ∨
    (∃ (q : Addr) (vm₁ : Vm) (B : Pt), s.WarmedH vm₁ ∧ Stand p l e R s m args below meth c B.U B.locs B.cells B.slots ∧ PostX ⟨T.setVm vm₁, locs, cells, slots⟩ argsL.toArray q B ∧
      Steps p.tables e below (T.setTop g) ((B.U.setTop { g with stack := rest }).pushFrame (.throwing q))) := by
  obtain ⟨mk, hnamed⟩ := Cond.code_named hcode
  obtain ⟨methM, cM, hmethM, -, -, -, -, -, -, hsigM⟩ := Cond.code_spec hnamed hcode
  have hstatic : methM.isStatic = true := Cond.static_spec hnamed hmethM hstat
  obtain ⟨kP, hkP, -⟩ := className_of_methodNamed hnamed
  have hinitP : kP.init = .initialized := Cond.initialized_spec (findClass_of_methodNamed hnamed) hkP hinit
  obtain ⟨vm₁, X₁, hstep₁⟩ := X.invokestatic hexec hown hlink hnamed hmethM hstatic hkP hinitP hy (g := g) hg (argsL := argsL) (rest := rest) (hlen _ hsigM) hstack hdg
  rcases hK m meth c ⟨T.setVm vm₁, locs, cells, slots⟩ { g with stack := rest } (.invokestatic index) mk argsL.toArray X₁ hg hsize hdg hW (X₁.named hnamed) (hpre vm₁ X₁.warmed) with ⟨v, B, X', hpost, hsteps⟩ | ⟨q, B, X', hpost, hsteps⟩
  · exact Or.inl ⟨v, vm₁, B, X₁.warmed, X', hpost, fun target h => hstep₁ _ fun acts => by rw [doInvoke_state]; exact hsteps.trans h⟩
  · exact Or.inr ⟨q, vm₁, B, X₁.warmed, X', hpost, hstep₁ _ fun acts => by rw [doInvoke_state]; exact hsteps⟩
end Calls
theorem vx_cls {s : State} {T : State} {vm₁ : Vm} {E : String} {k : ClassId} (hW : s.WarmedH vm₁) (h : (T.setVm vm₁).vm.findClass E = some k) : s.vm.findClass E = some k := by
  have h1 : vm₁.findClass E = some k := h
  rw [hW.alike.findClass] at h1
  exact h1
/-- the method's frame g, with q thrown over it -/
def vx_W (p : Program) (l : Launch) (e : Env) (R : Room) (s : State) (m : MethodId) (args : Array Value) (below : List Frame) (meth : Method) (c : Code) (H : Heap) (locs : List Loc) (cells slots : Nat) (Q : State → Prop) (g : JFrame) (q : Addr) : Prop :=
  ∀ T : State, T.heap = H → Stand p l e R s m args below meth c T locs cells slots → ∃ t, Steps p.tables e below ((T.setTop g).pushFrame (.throwing q)) t ∧ Q t
def vx_Run (p : Program) (l : Launch) (e : Env) (R : Room) (s : State) (m : MethodId) (args : Array Value) (below : List Frame) (meth : Method) (c : Code) (H : Heap) (locs : List Loc) (cells slots mc ms : Nat) (g : JFrame) (rest : List Value) (Qa : State → Outcome → State → Prop) (XC : String → State → State → Prop) (free : Addr → Prop) : Prop :=
  ∀ T : State, T.heap = H → Stand p l e R s m args below meth c T locs cells slots →
    (∃ (v : Option Value) (st₀ t T' : State) (L : List Loc), st₀.heap = H ∧ Stand p l e R s m args below meth c T' (locs ++ L) (cells + mc) (slots + ms) ∧ (∀ q ∈ L, free q.base) ∧ T'.heap = t.heap ∧ T'.vm = t.vm ∧ Qa st₀ (.returned v) t ∧
      Goes p e below T g T' { g with pc := g.pc + 3, stack := v.toList ++ rest }) ∨
    (∃ (q : Addr) (st₀ t T' : State) (L : List Loc) (E : String) (ce : Cell), st₀.heap = H ∧ Stand p l e R s m args below meth c T' (locs ++ L) (cells + mc) (slots + ms) ∧ (∀ z ∈ L, free z.base) ∧ T'.heap = t.heap ∧ T'.vm = t.vm ∧ XC E st₀ t ∧ t.heap[q]? = some ce ∧ ce.vm = .none ∧ s.vm.findClass E = some ce.cls ∧
      Steps p.tables e below (T.setTop g) ((T'.setTop { g with stack := rest }).pushFrame (.throwing q)))
def vx_X {S : Type} (px : S → Prop) (B : String → S → State → Prop) (A : Nat → Prop) : String → State → State → Prop := fun E st t => ∃ u : S, px u ∧ B E u t ∧ va_F A st t
section Runs
variable {p : Program} {l : Launch} {e : Env} {R : Room} {s : State} {m : MethodId} {args : Array Value} {below : List Frame} {meth : Method} {c : Code} {H : Heap} {locs : List Loc} {cells slots : Nat}
variable {y : MethodName} {bytes cc : ByteArray} {maxL nL mc ms n index : Nat} {ret : Option FieldType} {ws : List Cond} {rm : Room} {Pc : Array Value → State → Prop} {Qc : Array Value → State → Outcome → State → Prop} {XC : String → State → State → Prop} {free : Addr → Prop} {Ts : List Cond} {own C : String} {b : Addr} {As rest : List Value} {g : JFrame}
theorem vx_callBack (cb : CallB R s args own index y bytes maxL ret ws rm mc ms n) (hM : vx_Met l y ws rm Pc Qc XC mc ms free) (hbl : FrameBlind Pc) : vx_Back l R p e below s args y 3 8 (PreOf R mc ms Pc) (PostOf Qc mc ms free) (vx_Post XC mc ms free) := by
  obtain ⟨hrc, hrs, hfr, hlo, hws, hcw, -, hini, -⟩ := cb
  exact vx_back (bytes := bytes) (maxL := maxL) (ret := ret) hM hbl hrc hrs hfr hlo hws hcw (fun a' U hW => word_at hW (Or.inl (by first | rfl | simp [Cond.onTables, Cond.keeps, Cond.steady])) hini)
theorem vx_runV (S : CallFix p m c cc nL s args Ts own) (hM : vx_Met l y ws rm Pc Qc XC mc ms free) (cw : CallW R s args own C index y bytes maxL ret ws rm mc ms n) (hp : PreV s H C b Pc As)
    (hg : g.method = m) (hn : As.length = n) (hsize : g.locals.size = nL) (hstack : g.stack = As.reverse ++ .ref b :: rest) (hW : 2 * g.monitorRoom + (rest.map fun v => v.category).sum ≤ 8) (hdg : decode cc g.pc = .ok (.invokevirtual index, 3)) (hf : cells + mc ≤ R.cells ∧ slots + ms ≤ R.slots) :
    vx_Run p l e R s m args below meth c H locs cells slots mc ms g rest (Qc (Value.ref b :: As).toArray) XC free := by
  have hK : vx_Back l R p e below s args y 3 8 (PreOf R mc ms Pc) (PostOf Qc mc ms free) (vx_Post XC mc ms free) := vx_callBack cw.1 hM hp.1
  obtain ⟨⟨-, -, -, -, -, -, hcode, -, hy, hlen, hl⟩, hin, hse⟩ := cw
  obtain ⟨hx, hb, hml, ho, -⟩ := S
  obtain ⟨-, ⟨cellB, hcB, hoB, hclB⟩, hPc⟩ := hp
  intro T hT X
  rcases vx_callV X hx (C := C) (bytes := bytes) (maxL := maxL) (ret := ret) ho hl hin hse hcode hy hK (by rw [hT]; exact hcB) hoB hclB hg (hsize.trans hml.symm) (argsL := As) (rest := rest) (fun sig h => hn.trans (hlen sig h)) hstack hW (by rw [hb]; exact hdg)
    (fun vm₁ hW₁ => ⟨hf.1, hf.2, hPc (T.setVm vm₁) hT hW₁⟩) with ⟨v, vm₁, ⟨U', l2, c2, s2⟩, hW₁, X', ⟨g', mk, t, L, e1, e2, hq, h1, hL, h2, h3⟩, st⟩ | ⟨q, vm₁, ⟨U', l2, c2, s2⟩, hW₁, X', ⟨g', mk, t, L, E, ce, e1, e2, hq, hce, hcv, hcl, h1, hL, h2, h3⟩, st⟩
  · dsimp only [Pt.U, Pt.locs, Pt.cells, Pt.slots] at X' e1 e2 h1 h2 h3 st
    subst h1; subst h2; subst h3
    exact Or.inl ⟨v, (T.setVm vm₁).calling g' mk (Value.ref b :: As).toArray, t, U', L, hT, X', hL, e1, e2, hq, st⟩
  · dsimp only [Pt.U, Pt.locs, Pt.cells, Pt.slots] at X' e1 e2 h1 h2 h3 st hcl
    subst h1; subst h2; subst h3
    exact Or.inr ⟨q, (T.setVm vm₁).calling g' mk (Value.ref b :: As).toArray, t, U', L, E, ce, hT, X', hL, e1, e2, hq, hce, hcv, vx_cls hW₁ hcl, st⟩
theorem vx_runS (S : CallFix p m c cc nL s args Ts own) (hM : vx_Met l y ws rm Pc Qc XC mc ms free) (cw : CallB R s args own index y bytes maxL ret ws rm mc ms n ∧ (Cond.static y).before args s = true) (hp : PreS s H Pc As)
    (hg : g.method = m) (hn : As.length = n) (hsize : g.locals.size = nL) (hstack : g.stack = As.reverse ++ rest) (hW : 2 * g.monitorRoom + (rest.map fun v => v.category).sum ≤ 8) (hdg : decode cc g.pc = .ok (.invokestatic index, 3)) (hf : cells + mc ≤ R.cells ∧ slots + ms ≤ R.slots) :
    vx_Run p l e R s m args below meth c H locs cells slots mc ms g rest (Qc As.toArray) XC free := by
  have hK : vx_Back l R p e below s args y 3 8 (PreOf R mc ms Pc) (PostOf Qc mc ms free) (vx_Post XC mc ms free) := vx_callBack cw.1 hM hp.1
  obtain ⟨⟨-, -, -, -, -, -, hcode, hini, hy, hlen, hl⟩, hstt⟩ := cw
  obtain ⟨hx, hb, hml, ho, -⟩ := S
  intro T hT X
  rcases vx_callS X hx (bytes := bytes) (maxL := maxL) (ret := ret) ho hl hstt hini hcode hy hK hg (hsize.trans hml.symm) (argsL := As) (rest := rest) (fun sig h => hn.trans (hlen sig h)) hstack hW (by rw [hb]; exact hdg)
    (fun vm₁ hW₁ => ⟨hf.1, hf.2, hp.2 (T.setVm vm₁) hT hW₁⟩) with ⟨v, vm₁, ⟨U', l2, c2, s2⟩, hW₁, X', ⟨g', mk, t, L, e1, e2, hq, h1, hL, h2, h3⟩, st⟩ | ⟨q, vm₁, ⟨U', l2, c2, s2⟩, hW₁, X', ⟨g', mk, t, L, E, ce, e1, e2, hq, hce, hcv, hcl, h1, hL, h2, h3⟩, st⟩
  · dsimp only [Pt.U, Pt.locs, Pt.cells, Pt.slots] at X' e1 e2 h1 h2 h3 st
    subst h1; subst h2; subst h3
    exact Or.inl ⟨v, (T.setVm vm₁).calling g' mk As.toArray, t, U', L, hT, X', hL, e1, e2, hq, st⟩
  · dsimp only [Pt.U, Pt.locs, Pt.cells, Pt.slots] at X' e1 e2 h1 h2 h3 st hcl
    subst h1; subst h2; subst h3
    exact Or.inr ⟨q, (T.setVm vm₁).calling g' mk As.toArray, t, U', L, E, ce, hT, X', hL, e1, e2, hq, hce, hcv, vx_cls hW₁ hcl, st⟩
end Runs
section Rows
variable {p : Program} {l : Launch} {e : Env} {R : Room} {s : State} {m : MethodId} {args : Array Value} {below : List Frame} {meth : Method} {c : Code} {H : Heap} {locs : List Loc} {cells slots : Nat} {Q : State → Prop}
variable {mc ms : Nat} {free : Addr → Prop} {A0 A1 : Nat → Prop} {H0 : Heap} {a : Array Value} {pc : Nat} {ls : Array Slot} {st0 rest : List Value}
theorem vx_keep {st₀ t T' : State} {L : List Loc} (h0 : st₀.heap = H) (e1 : T'.heap = t.heap) (hS : va_S A0 H0 H locs) (hA : ∀ q, q < H.size → A1 q → A0 q) (hf : ∀ q, free q → A0 q) (hL : ∀ q ∈ L, free q.base) (hF : va_F A1 st₀ t) :
    H.size ≤ T'.heap.size ∧ (∀ q : Nat, q < H.size → ¬ A1 q → T'.heap[q]? = H[q]?) ∧ va_S A0 H0 T'.heap (locs ++ L) := by
  obtain ⟨hz, hk⟩ := hF
  rw [h0] at hz hk
  exact ⟨by rw [e1]; exact hz, fun q h1 h2 => by rw [e1]; exact hk q h1 h2,
    ⟨Nat.le_trans hS.1 (by rw [e1]; exact hz), fun q h1 h2 => by rw [e1, hk q (Nat.lt_of_lt_of_le h1 hS.1) (fun z => h2 (hA q (Nat.lt_of_lt_of_le h1 hS.1) z))]; exact hS.2.1 q h1 h2, fun q hq => by
      rcases List.mem_append.mp hq with h | h
      · exact hS.2.2 q h
      · exact hf _ (hL q h)⟩⟩
theorem vx_calli {S SX : Type} {post : Int32 → S → Prop} {px : SX → Prop} {B : S → State → Prop} {BX : String → SX → State → Prop} {AX : Nat → Prop} (hr : vx_Run p l e R s m args below meth c H locs cells slots mc ms (F0 m pc ls st0) rest (va_Qi post B A1 a) (vx_X px BX AX) free) (hS : va_S A0 H0 H locs) (hA : ∀ q, q < H.size → A1 q → A0 q) (hf : ∀ q, free q → A0 q) (hAX : ∀ q, q < H.size → AX q → A0 q)
    (kx : ∀ (E : String) (ce : Cell) (q9 : Addr) (u : SX) (t : State) (H1 : Heap) (locs1 : List Loc), t.heap = H1 → s.vm.Alike t.vm → px u → BX E u t → H.size ≤ H1.size → (∀ q : Nat, q < H.size → ¬ AX q → H1[q]? = H[q]?) → va_S A0 H0 H1 locs1 → H1[q9]? = some ce → ce.vm = .none → s.vm.findClass E = some ce.cls → vx_W p l e R s m args below meth c H1 locs1 (cells + mc) (slots + ms) Q (F0 m pc ls rest) q9)
    (kk : ∀ (r : Int32) (u : S) (t : State) (H1 : Heap) (locs1 : List Loc), t.heap = H1 → s.vm.Alike t.vm → post r u → B u t → H.size ≤ H1.size → (∀ q : Nat, q < H.size → ¬ A1 q → H1[q]? = H[q]?) → va_S A0 H0 H1 locs1 → W p l e R s m args below meth c H1 locs1 (cells + mc) (slots + ms) Q (F0 m (pc + 3) ls (.int r :: rest))) : W p l e R s m args below meth c H locs cells slots Q (F0 m pc ls st0) := by
  intro T hT X
  rcases hr T hT X with ⟨v, st₀, t, T', L, h0, X', hL, e1, e2, ⟨⟨r, u, hv, hp, hb⟩, hF⟩, st⟩ | ⟨q, st₀, t, T', L, E, ce, h0, X', hL, e1, e2, ⟨u, hp, hb, hF⟩, hce, hcv, hcl, st⟩
  · cases hv
    obtain ⟨k1, k2, k3⟩ := vx_keep h0 e1 hS hA hf hL hF
    obtain ⟨t2, a1, b1⟩ := kk r u t T'.heap (locs ++ L) e1.symm (by rw [← e2]; exact X'.warmed.alike) hp hb k1 k2 k3 T' rfl X'
    exact ⟨t2, st t2 a1, b1⟩
  · obtain ⟨k1, k2, k3⟩ := vx_keep h0 e1 hS hAX hf hL hF
    obtain ⟨t2, a1, b1⟩ := kx E ce q u t T'.heap (locs ++ L) e1.symm (by rw [← e2]; exact X'.warmed.alike) hp hb k1 k2 k3 (by rw [e1]; exact hce) hcv hcl T' rfl X'
    exact ⟨t2, st.trans a1, b1⟩
theorem vx_calll {S SX : Type} {post : Int64 → S → Prop} {px : SX → Prop} {B : S → State → Prop} {BX : String → SX → State → Prop} {AX : Nat → Prop} (hr : vx_Run p l e R s m args below meth c H locs cells slots mc ms (F0 m pc ls st0) rest (va_Ql post B A1 a) (vx_X px BX AX) free) (hS : va_S A0 H0 H locs) (hA : ∀ q, q < H.size → A1 q → A0 q) (hf : ∀ q, free q → A0 q) (hAX : ∀ q, q < H.size → AX q → A0 q)
    (kx : ∀ (E : String) (ce : Cell) (q9 : Addr) (u : SX) (t : State) (H1 : Heap) (locs1 : List Loc), t.heap = H1 → s.vm.Alike t.vm → px u → BX E u t → H.size ≤ H1.size → (∀ q : Nat, q < H.size → ¬ AX q → H1[q]? = H[q]?) → va_S A0 H0 H1 locs1 → H1[q9]? = some ce → ce.vm = .none → s.vm.findClass E = some ce.cls → vx_W p l e R s m args below meth c H1 locs1 (cells + mc) (slots + ms) Q (F0 m pc ls rest) q9)
    (kk : ∀ (r : Int64) (u : S) (t : State) (H1 : Heap) (locs1 : List Loc), t.heap = H1 → s.vm.Alike t.vm → post r u → B u t → H.size ≤ H1.size → (∀ q : Nat, q < H.size → ¬ A1 q → H1[q]? = H[q]?) → va_S A0 H0 H1 locs1 → W p l e R s m args below meth c H1 locs1 (cells + mc) (slots + ms) Q (F0 m (pc + 3) ls (.long r :: rest))) : W p l e R s m args below meth c H locs cells slots Q (F0 m pc ls st0) := by
  intro T hT X
  rcases hr T hT X with ⟨v, st₀, t, T', L, h0, X', hL, e1, e2, ⟨⟨r, u, hv, hp, hb⟩, hF⟩, st⟩ | ⟨q, st₀, t, T', L, E, ce, h0, X', hL, e1, e2, ⟨u, hp, hb, hF⟩, hce, hcv, hcl, st⟩
  · cases hv
    obtain ⟨k1, k2, k3⟩ := vx_keep h0 e1 hS hA hf hL hF
    obtain ⟨t2, a1, b1⟩ := kk r u t T'.heap (locs ++ L) e1.symm (by rw [← e2]; exact X'.warmed.alike) hp hb k1 k2 k3 T' rfl X'
    exact ⟨t2, st t2 a1, b1⟩
  · obtain ⟨k1, k2, k3⟩ := vx_keep h0 e1 hS hAX hf hL hF
    obtain ⟨t2, a1, b1⟩ := kx E ce q u t T'.heap (locs ++ L) e1.symm (by rw [← e2]; exact X'.warmed.alike) hp hb k1 k2 k3 (by rw [e1]; exact hce) hcv hcl T' rfl X'
    exact ⟨t2, st.trans a1, b1⟩
theorem vx_callf {S SX : Type} {post : UInt32 → S → Prop} {px : SX → Prop} {B : S → State → Prop} {BX : String → SX → State → Prop} {AX : Nat → Prop} (hr : vx_Run p l e R s m args below meth c H locs cells slots mc ms (F0 m pc ls st0) rest (va_Qf post B A1 a) (vx_X px BX AX) free) (hS : va_S A0 H0 H locs) (hA : ∀ q, q < H.size → A1 q → A0 q) (hf : ∀ q, free q → A0 q) (hAX : ∀ q, q < H.size → AX q → A0 q)
    (kx : ∀ (E : String) (ce : Cell) (q9 : Addr) (u : SX) (t : State) (H1 : Heap) (locs1 : List Loc), t.heap = H1 → s.vm.Alike t.vm → px u → BX E u t → H.size ≤ H1.size → (∀ q : Nat, q < H.size → ¬ AX q → H1[q]? = H[q]?) → va_S A0 H0 H1 locs1 → H1[q9]? = some ce → ce.vm = .none → s.vm.findClass E = some ce.cls → vx_W p l e R s m args below meth c H1 locs1 (cells + mc) (slots + ms) Q (F0 m pc ls rest) q9)
    (kk : ∀ (r : UInt32) (u : S) (t : State) (H1 : Heap) (locs1 : List Loc), t.heap = H1 → s.vm.Alike t.vm → post r u → B u t → H.size ≤ H1.size → (∀ q : Nat, q < H.size → ¬ A1 q → H1[q]? = H[q]?) → va_S A0 H0 H1 locs1 → W p l e R s m args below meth c H1 locs1 (cells + mc) (slots + ms) Q (F0 m (pc + 3) ls (.float r :: rest))) : W p l e R s m args below meth c H locs cells slots Q (F0 m pc ls st0) := by
  intro T hT X
  rcases hr T hT X with ⟨v, st₀, t, T', L, h0, X', hL, e1, e2, ⟨⟨r, u, hv, hp, hb⟩, hF⟩, st⟩ | ⟨q, st₀, t, T', L, E, ce, h0, X', hL, e1, e2, ⟨u, hp, hb, hF⟩, hce, hcv, hcl, st⟩
  · cases hv
    obtain ⟨k1, k2, k3⟩ := vx_keep h0 e1 hS hA hf hL hF
    obtain ⟨t2, a1, b1⟩ := kk r u t T'.heap (locs ++ L) e1.symm (by rw [← e2]; exact X'.warmed.alike) hp hb k1 k2 k3 T' rfl X'
    exact ⟨t2, st t2 a1, b1⟩
  · obtain ⟨k1, k2, k3⟩ := vx_keep h0 e1 hS hAX hf hL hF
    obtain ⟨t2, a1, b1⟩ := kx E ce q u t T'.heap (locs ++ L) e1.symm (by rw [← e2]; exact X'.warmed.alike) hp hb k1 k2 k3 (by rw [e1]; exact hce) hcv hcl T' rfl X'
    exact ⟨t2, st.trans a1, b1⟩
theorem vx_calld {S SX : Type} {post : UInt64 → S → Prop} {px : SX → Prop} {B : S → State → Prop} {BX : String → SX → State → Prop} {AX : Nat → Prop} (hr : vx_Run p l e R s m args below meth c H locs cells slots mc ms (F0 m pc ls st0) rest (va_Qd post B A1 a) (vx_X px BX AX) free) (hS : va_S A0 H0 H locs) (hA : ∀ q, q < H.size → A1 q → A0 q) (hf : ∀ q, free q → A0 q) (hAX : ∀ q, q < H.size → AX q → A0 q)
    (kx : ∀ (E : String) (ce : Cell) (q9 : Addr) (u : SX) (t : State) (H1 : Heap) (locs1 : List Loc), t.heap = H1 → s.vm.Alike t.vm → px u → BX E u t → H.size ≤ H1.size → (∀ q : Nat, q < H.size → ¬ AX q → H1[q]? = H[q]?) → va_S A0 H0 H1 locs1 → H1[q9]? = some ce → ce.vm = .none → s.vm.findClass E = some ce.cls → vx_W p l e R s m args below meth c H1 locs1 (cells + mc) (slots + ms) Q (F0 m pc ls rest) q9)
    (kk : ∀ (r : UInt64) (u : S) (t : State) (H1 : Heap) (locs1 : List Loc), t.heap = H1 → s.vm.Alike t.vm → post r u → B u t → H.size ≤ H1.size → (∀ q : Nat, q < H.size → ¬ A1 q → H1[q]? = H[q]?) → va_S A0 H0 H1 locs1 → W p l e R s m args below meth c H1 locs1 (cells + mc) (slots + ms) Q (F0 m (pc + 3) ls (.double r :: rest))) : W p l e R s m args below meth c H locs cells slots Q (F0 m pc ls st0) := by
  intro T hT X
  rcases hr T hT X with ⟨v, st₀, t, T', L, h0, X', hL, e1, e2, ⟨⟨r, u, hv, hp, hb⟩, hF⟩, st⟩ | ⟨q, st₀, t, T', L, E, ce, h0, X', hL, e1, e2, ⟨u, hp, hb, hF⟩, hce, hcv, hcl, st⟩
  · cases hv
    obtain ⟨k1, k2, k3⟩ := vx_keep h0 e1 hS hA hf hL hF
    obtain ⟨t2, a1, b1⟩ := kk r u t T'.heap (locs ++ L) e1.symm (by rw [← e2]; exact X'.warmed.alike) hp hb k1 k2 k3 T' rfl X'
    exact ⟨t2, st t2 a1, b1⟩
  · obtain ⟨k1, k2, k3⟩ := vx_keep h0 e1 hS hAX hf hL hF
    obtain ⟨t2, a1, b1⟩ := kx E ce q u t T'.heap (locs ++ L) e1.symm (by rw [← e2]; exact X'.warmed.alike) hp hb k1 k2 k3 (by rw [e1]; exact hce) hcv hcl T' rfl X'
    exact ⟨t2, st.trans a1, b1⟩
theorem vx_callv {S SX : Type} {post : S → Prop} {px : SX → Prop} {B : S → State → Prop} {BX : String → SX → State → Prop} {AX : Nat → Prop} (hr : vx_Run p l e R s m args below meth c H locs cells slots mc ms (F0 m pc ls st0) rest (va_Qv post B A1 a) (vx_X px BX AX) free) (hS : va_S A0 H0 H locs) (hA : ∀ q, q < H.size → A1 q → A0 q) (hf : ∀ q, free q → A0 q) (hAX : ∀ q, q < H.size → AX q → A0 q)
    (kx : ∀ (E : String) (ce : Cell) (q9 : Addr) (u : SX) (t : State) (H1 : Heap) (locs1 : List Loc), t.heap = H1 → s.vm.Alike t.vm → px u → BX E u t → H.size ≤ H1.size → (∀ q : Nat, q < H.size → ¬ AX q → H1[q]? = H[q]?) → va_S A0 H0 H1 locs1 → H1[q9]? = some ce → ce.vm = .none → s.vm.findClass E = some ce.cls → vx_W p l e R s m args below meth c H1 locs1 (cells + mc) (slots + ms) Q (F0 m pc ls rest) q9)
    (kk : ∀ (u : S) (t : State) (H1 : Heap) (locs1 : List Loc), t.heap = H1 → s.vm.Alike t.vm → post u → B u t → H.size ≤ H1.size → (∀ q : Nat, q < H.size → ¬ A1 q → H1[q]? = H[q]?) → va_S A0 H0 H1 locs1 → W p l e R s m args below meth c H1 locs1 (cells + mc) (slots + ms) Q (F0 m (pc + 3) ls (rest))) : W p l e R s m args below meth c H locs cells slots Q (F0 m pc ls st0) := by
  intro T hT X
  rcases hr T hT X with ⟨v, st₀, t, T', L, h0, X', hL, e1, e2, ⟨⟨u, hv, hp, hb⟩, hF⟩, st⟩ | ⟨q, st₀, t, T', L, E, ce, h0, X', hL, e1, e2, ⟨u, hp, hb, hF⟩, hce, hcv, hcl, st⟩
  · cases hv
    obtain ⟨k1, k2, k3⟩ := vx_keep h0 e1 hS hA hf hL hF
    obtain ⟨t2, a1, b1⟩ := kk u t T'.heap (locs ++ L) e1.symm (by rw [← e2]; exact X'.warmed.alike) hp hb k1 k2 k3 T' rfl X'
    exact ⟨t2, st t2 a1, b1⟩
  · obtain ⟨k1, k2, k3⟩ := vx_keep h0 e1 hS hAX hf hL hF
    obtain ⟨t2, a1, b1⟩ := kx E ce q u t T'.heap (locs ++ L) e1.symm (by rw [← e2]; exact X'.warmed.alike) hp hb k1 k2 k3 (by rw [e1]; exact hce) hcv hcl T' rfl X'
    exact ⟨t2, st.trans a1, b1⟩
/-- caught by the row x of this method's table; the rows ahead don't take it -/
theorem vx_catch {own name : String} {E : String} {ce : Cell} {q : Addr} (hown : s.vm.findClass own = some m.cls) (pre : List ExceptionTableEntry) (x : ExceptionTableEntry) (suf : List ExceptionTableEntry) (hsplit : c.exceptionTable.toList = pre ++ x :: suf)
    (hpass : ∀ z ∈ pre, covers z pc = false ∨ (z.catchType ≠ 0 ∧ ∃ nm : String, (Cond.classLink own z.catchType nm).before args s = true ∧ va_Nc E nm s)) (hx : covers x pc = true) (h0 : x.catchType ≠ 0)
    (hlink : (Cond.classLink own x.catchType name).before args s = true) (hcast : (Cond.castable E name).before args s = true) (hcell : H[q]? = some ce) (hv : ce.vm = .none) (hcl : s.vm.findClass E = some ce.cls)
    (kk : W p l e R s m args below meth c H locs cells slots Q (F0 m x.handlerPc ls [.ref q])) : vx_W p l e R s m args below meth c H locs cells slots Q (F0 m pc ls rest) q := by
  intro T hT X
  have hpl : e.platform.magicAccessors = ({} : Platform).magicAccessors := by rw [X.admits.platform]
  obtain ⟨c3, c4, hc3, hc4, hasg⟩ := Cond.castable_spec hcast
  cases Option.some.inj (hc3.symm.trans hcl)
  obtain ⟨c5, hc5, hcl5⟩ := Cond.classLink_spec hown hlink e.platform hpl
  cases Option.some.inj (hc4.symm.trans hc5)
  obtain ⟨vm', X', st⟩ := X.thenCaughtThrough q (g := F0 m pc ls rest) rfl (Steps.refl _) (by rw [hT]; exact hcell) (by rw [hv]; rfl) (by obtain ⟨k9, h9, -⟩ := Vm.findClass_spec hcl; exact ⟨k9, h9⟩) pre x suf hsplit
    (fun z hz => by
      rcases hpass z hz with h | ⟨hz0, nm, hl1, hn1⟩
      · exact Or.inl h
      · obtain ⟨c6, hc6, hcl6⟩ := Cond.classLink_spec hown hl1 e.platform hpl
        obtain ⟨a8, b8, h1, h2, h3⟩ := hn1
        cases Option.some.inj (h1.symm.trans hcl)
        cases Option.some.inj (h2.symm.trans hc6)
        exact Or.inr ⟨hz0, _, hcl6, h3⟩) hx (Or.inr ⟨h0, c4, hcl5, hasg⟩)
  obtain ⟨t, a1, b1⟩ := kk (T.setVm vm') hT X'
  exact ⟨t, st.trans a1, b1⟩
end Rows
section Ends
variable {p : Program} {l : Launch} {e : Env} {R : Room} {s : State} {m : MethodId} {args : Array Value} {below : List Frame} {meth : Method} {c : Code} {H : Heap} {locs : List Loc} {cells slots : Nat} {Q : State → Prop}
variable {mc ms : Nat} {free : Addr → Prop} {A0 A1 : Nat → Prop} {H0 : Heap} {a : Array Value} {ls : Array Slot} {st0 rest : List Value}
variable {Qc : Array Value → State → Outcome → State → Prop} {XC : String → State → State → Prop}
/-- what a body that may throw owes at its end -/
def vx_MQ (below : List Frame) (Qc : Array Value → State → Outcome → State → Prop) (XC : String → State → State → Prop) (a : Array Value) (s : State) (mc ms : Nat) (free : Addr → Prop) : State → Prop := fun t =>
  ∃ o, t.status = .running ∧ Ended t below o ∧ vx_Q Qc XC mc ms free a s o t
theorem vx_ret {g : JFrame} {mc ms : Nat} (k : W p l e R s m args below meth c H locs cells slots (MQ below Qc args s mc ms free) g) : W p l e R s m args below meth c H locs cells slots (vx_MQ below Qc XC args s mc ms free) g := by
  intro T hT X
  obtain ⟨t, a1, o, b1, b2, b3, b4⟩ := k T hT X
  exact ⟨t, a1, o, b1, b2, Or.inl ⟨b3, b4⟩⟩
/-- not caught here: it goes on to the caller -/
theorem vx_widen {g : JFrame} {q : Addr} {k n : Nat} (h1 : cells ≤ k) (h2 : slots ≤ n) (kk : vx_W p l e R s m args below meth c H locs k n Q g q) : vx_W p l e R s m args below meth c H locs cells slots Q g q := fun T hT X => kk T hT (stand_widen X h1 h2)
theorem vx_out {pc : Nat} {E : String} {ce : Cell} {q : Addr} {mc ms : Nat} (hout : ∀ x ∈ c.exceptionTable.toList, covers x pc = false) (hlocks : meth.locks = false) (hcell : H[q]? = some ce) (hv : ce.vm = .none) (hcl : s.vm.findClass E = some ce.cls)
    (hx : ∀ t : State, t.heap = H → s.vm.Alike t.vm → XC E s t) (hf : ∀ z ∈ locs, free z.base) (hc : cells ≤ mc) (hs : slots ≤ ms) :
    vx_W p l e R s m args below meth c H locs cells slots (vx_MQ below Qc XC args s mc ms free) (F0 m pc ls rest) q := by
  intro T hT X
  obtain ⟨st1, hrun, hend, hW, hsm⟩ := X.leaveThrown q (g := F0 m pc ls rest) rfl rfl rfl hout hlocks
  have hcell9 : (T.setFrames (.throwing q :: below)).heap[q]? = some ce := by
    show T.heap[q]? = some ce
    rw [hT]; exact hcell
  exact ⟨_, st1, .threw q, hrun, hend, Or.inr ⟨q, rfl, E, ce, locs, hx _ hT hW.alike, hcell9, hv, hcl, hW, hsm.mono hc hs, hf⟩⟩
theorem vx_frame {U : State} {k n : Nat} (h : s.sameButNew ({ U with vm := s.vm } : State) locs k n) : s.heap.size ≤ U.heap.size ∧ ∀ q : Nat, q < s.heap.size → (∀ z ∈ locs, z.base ≠ q) → U.heap[q]? = s.heap[q]? := by
  obtain ⟨-, h2, -, -, -, h6⟩ := h
  refine ⟨h2, fun q hq hz => ?_⟩
  obtain ⟨c9, e1, e2, e3, e4⟩ := h6 q _ (Array.getElem?_eq_getElem hq)
  have hs : c9.slots = (s.heap[q]).slots := Array.ext_getElem? fun i => e4 i fun hm => hz _ hm rfl
  have h9 : c9 = s.heap[q] := by
    rw [hs] at e2
    exact e2
  have e5 : U.heap[q]? = some c9 := e1
  rw [e5, h9, Array.getElem?_eq_getElem hq]
/-- the words of a throw but the four that speak of the heap -/
def vx_no (w : Cond) : Bool := decide (w ≠ .isRef (.static Bundle.tN "UNASSIGNED_STACK" Bundle.steD)) && decide (w ≠ .isRef (.static Bundle.tN "SUPPRESSED_SENTINEL" Bundle.listD)) && decide (w ≠ .laysStatic Bundle.tN "UNASSIGNED_STACK" Bundle.steD) && decide (w ≠ .laysStatic Bundle.tN "SUPPRESSED_SENTINEL" Bundle.listD)
def vx_at0 (own : String) (ic : Nat) (X : String) (names : List String) : List Cond := (Bundle.ownAtoms0 own ic X names).filter vx_no
def vx_atS (own : String) (ic : Nat) (X : String) (names : List String) : List Cond := (Bundle.ownAtoms own ic X names).filter vx_no
/-- a word that the tables alone decide, or a good one -/
def vx_ot (w : Cond) : Bool := w.onTables || goodWord w
theorem vx_ot_at {args a' : Array Value} {s U : State} {w : Cond} (hW : s.WarmedH U.vm) (hvm : s.vm = U.vm) (hg : vx_ot w = true) (h : w.before args s = true) : w.before a' U = true := by
  simp only [vx_ot, Bool.or_eq_true] at hg
  rcases hg with hg | hg
  · exact va_tabs hg hvm h
  · exact word_at hW (good_of_word hg) h
/-- a list's words: the good ones out of the method's own list, the others by premises of their own -/
theorem vx_hat {args : Array Value} {s : State} {L B : List Cond} (h1 : ∀ w ∈ L.filter goodWord, w.before args s = true) (h2 : ∀ w ∈ L.filter (fun w => !goodWord w), w ∈ B) (h3 : ∀ w ∈ B, w.before args s = true) : ∀ w ∈ L, w.before args s = true := by
  intro w hw
  by_cases g : goodWord w = true
  · exact h1 w (List.mem_filter.mpr ⟨hw, g⟩)
  · refine h3 w (h2 w (List.mem_filter.mpr ⟨hw, ?_⟩))
    show (!goodWord w) = true
    cases hgw : goodWord w
    · rfl
    · exact absurd hgw g
theorem vx_c {args : Array Value} {s : State} {w : Cond} {B : List Cond} (h : w.before args s = true) (t : ∀ w ∈ B, w.before args s = true) : ∀ w' ∈ w :: B, w'.before args s = true := fun w' h' => (List.mem_cons.mp h').elim (fun e => by rw [e]; exact h) (t w')
theorem vx_n {args : Array Value} {s : State} : ∀ w ∈ ([] : List Cond), w.before args s = true := fun _ h => nomatch h
theorem vx_own {args : Array Value} {s : State} {L : List Cond} (h1 : ∀ w ∈ L.filter vx_no, w.before args s = true)
    (hU : (Cond.isRef (.static Bundle.tN "UNASSIGNED_STACK" Bundle.steD)).before args s = true) (hN : (Cond.isRef (.static Bundle.tN "SUPPRESSED_SENTINEL" Bundle.listD)).before args s = true)
    (lU : (Cond.laysStatic Bundle.tN "UNASSIGNED_STACK" Bundle.steD).before args s = true) (lN : (Cond.laysStatic Bundle.tN "SUPPRESSED_SENTINEL" Bundle.listD).before args s = true) : ∀ w ∈ L, w.before args s = true := by
  intro w hw
  by_cases e1 : w = .isRef (.static Bundle.tN "UNASSIGNED_STACK" Bundle.steD)
  · rw [e1]; exact hU
  · by_cases e2 : w = .isRef (.static Bundle.tN "SUPPRESSED_SENTINEL" Bundle.listD)
    · rw [e2]; exact hN
    · by_cases e3 : w = .laysStatic Bundle.tN "UNASSIGNED_STACK" Bundle.steD
      · rw [e3]; exact lU
      · by_cases e4 : w = .laysStatic Bundle.tN "SUPPRESSED_SENTINEL" Bundle.listD
        · rw [e4]; exact lN
        · exact h1 w (List.mem_filter.mpr ⟨hw, by unfold vx_no; rw [decide_eq_true e1, decide_eq_true e2, decide_eq_true e3, decide_eq_true e4]; rfl⟩)
/-- where a static field lies, its class's statics cell in H -/
def vx_L (C n d : String) (A : Nat → Prop) (U : State) (H : Heap) : Prop := ∃ (c : ClassId) (k : Class) (i : Nat) (f : Field) (a : Nat) (cell : Cell), U.vm.findClass C = some c ∧ U.fieldFound? C n d = some (c, k, i, f) ∧ f.isStatic = true ∧ k.statics = some a ∧ H[a]? = some cell ∧ cell.vm.isStatics = true ∧ cell.cls = c ∧ f.slot < cell.slots.size ∧ k.staticTypes[f.slot]? = some f.type ∧ ¬ A a
theorem vx_L.moved {C n d : String} {A : Nat → Prop} {u U : State} {H : Heap} (hvm : u.vm.Alike U.vm) (h : vx_L C n d A u H) : vx_L C n d A U H := by
  obtain ⟨c, k, i, f, a, cell, h1, h2, h3, h4, h5, h6, h7, h8, h9, h10⟩ := h
  obtain ⟨k', hi', he⟩ := State.fieldFound?_setVm hvm h2
  exact ⟨c, k', i, f, a, cell, by rw [hvm.findClass]; exact h1, hi', h3, by rw [he]; exact h4, h5, h6, h7, h8, by rw [he]; exact h9, h10⟩
theorem vx_L.kept {C n d : String} {A : Nat → Prop} {U : State} {H H1 : Heap} (h : vx_L C n d A U H) (hq : ∀ a : Nat, a < H.size → ¬ A a → H1[a]? = H[a]?) : vx_L C n d A U H1 := by
  obtain ⟨c, k, i, f, a, cell, h1, h2, h3, h4, h5, h6, h7, h8, h9, h10⟩ := h
  exact ⟨c, k, i, f, a, cell, h1, h2, h3, h4, by rw [hq a (Array.getElem?_eq_some_iff.mp h5).1 h10]; exact h5, h6, h7, h8, h9, h10⟩
theorem vx_L.narrow {C n d : String} {A B : Nat → Prop} {U : State} {H : Heap} (h : vx_L C n d A U H) (hAB : ∀ q, B q → A q) : vx_L C n d B U H := by
  obtain ⟨c, k, i, f, a, cell, h1, h2, h3, h4, h5, h6, h7, h8, h9, h10⟩ := h
  exact ⟨c, k, i, f, a, cell, h1, h2, h3, h4, h5, h6, h7, h8, h9, fun z => h10 (hAB _ z)⟩
theorem vx_L.word {C n d : String} {A : Nat → Prop} {s : State} {args : Array Value} (h : vx_L C n d A s s.heap) : (Cond.laysStatic C n d).before args s = true := by
  obtain ⟨c, k, i, f, a, cell, h1, h2, h3, h4, h5, h6, h7, h8, h9, -⟩ := h
  show (Cond.laysStatic C n d).holds args s none s [] = true
  exact Cond.laysStatic_of h1 h2 h3 h4 h5 h6 h7 h8 h9
/-- .. and what it holds: null or some reference -/
def vx_Zq (C n d : String) (A : Nat → Prop) (U : State) (H : Heap) : Prop := va_Zq C n d A U H ∧ vx_L C n d A U H
theorem vx_Zq.moved {C n d : String} {A : Nat → Prop} {u U : State} {H : Heap} (hvm : u.vm.Alike U.vm) (h : vx_Zq C n d A u H) : vx_Zq C n d A U H := ⟨va_Zq.moved hvm h.1, vx_L.moved hvm h.2⟩
theorem vx_Zq.kept {C n d : String} {A : Nat → Prop} {U : State} {H H1 : Heap} (h : vx_Zq C n d A U H) (hq : ∀ a : Nat, a < H.size → ¬ A a → H1[a]? = H[a]?) : vx_Zq C n d A U H1 := ⟨va_Zq.kept h.1 hq, vx_L.kept h.2 hq⟩
theorem vx_Zq.narrow {C n d : String} {A B : Nat → Prop} {U : State} {H : Heap} (h : vx_Zq C n d A U H) (hAB : ∀ q, B q → A q) : vx_Zq C n d B U H := ⟨va_Zq.narrow h.1 hAB, vx_L.narrow h.2 hAB⟩
theorem vx_Zqof {args : Array Value} {s : State} {C n d : String} {A : Nat → Prop} (hl : (Cond.laysStatic C n d).before args s = true) (hini : (Cond.initialized C).before args s = true) (h : (Cond.isRef (.static C n d)).before args s = true) (hA : ∀ a : Nat, a < s.heap.size → ¬ A a) : vx_Zq C n d A s s.heap := by
  refine ⟨va_Zqof hl hini h hA, ?_⟩
  obtain ⟨c, k, i, f, a, cell, h1, h2, h3, h4, h5, h6, h7, h8, h9⟩ := Cond.laysStatic_spec hl
  exact ⟨c, k, i, f, a, cell, h1, h2, h3, h4, h5, h6, h7, h8, h9, hA a (Array.getElem?_eq_some_iff.mp h5).1⟩
theorem vx_isRef {C n d : String} {v : Value} {A : Nat → Prop} {s : State} {args : Array Value} (h : va_Z C n d v A s s.heap) (hv : v.isRef = true) : (Cond.isRef (.static C n d)).before args s = true := by
  obtain ⟨cf, kf, fi, f, a, cell, h1, h2, h3, h4, h5, h6, h7, -⟩ := h
  have he : (Term.static C n d).eval args s none [] s = some v := by
    simp [Term.eval, State.fieldNamed?, h1, h2, h4, h5, h6, h7]
  simp only [Cond.before, Cond.holds, Cond.value, he]
  cases v <;> simp_all [Value.isRef]
theorem vx_isRefq {C n d : String} {A : Nat → Prop} {s : State} {args : Array Value} (h : va_Zq C n d A s s.heap) : (Cond.isRef (.static C n d)).before args s = true := by
  rcases h with h | ⟨t, h⟩
  · exact vx_isRef h rfl
  · exact vx_isRef h rfl
/-- the same frame, seen from here: as if the method were called anew in this heap -/
theorem vx_rebase {T : State} (X : Stand p l e R s m args below meth c T locs cells slots) {R' : Room} (hf : R'.frames ≤ R.frames) (hl : R'.locals ≤ R.locals) (hc : cells + R'.cells ≤ R.cells) (hs : slots + R'.slots ≤ R.slots) :
    Stand p l e R' ((T.setVm s.vm).setFrames (.invoking m args :: below)) m args below meth c T [] 0 0 := by
  have htop : (T.setVm s.vm).topJava?.isSome := X.here.top
  have hF : ((T.setVm s.vm).setFrames (.invoking m args :: below)).frames = .invoking m args :: below := State.frames_setFrames _ (State.cur_lt_of_top htop)
  obtain ⟨g₀, hg0⟩ := Option.isSome_iff_exists.mp htop
  obtain ⟨r, hr⟩ := State.topJava?_eq_some.mp hg0
  have hl9 : e.platform.stackLimits (T.setVm s.vm).me = e.platform.stackLimits s.me := X.limits
  have hb9 : (T.setVm s.vm).me.stackBytes = s.me.stackBytes := X.bytes
  refine ⟨X.admits, X.cas, X.clock, hF, ?_, X.hears, X.method, X.code, X.here, X.tail, X.warmed, ?_, ?_, ?_⟩
  · have h := X.room
    have hU : ((T.setVm s.vm).setFrames (.invoking m args :: below)).localsInUse = s.localsInUse := by
      rw [State.localsInUse_invoking hF (meth := meth) (c := c) X.method X.code, State.localsInUse_invoking X.frames X.method X.code]
    simp only [State.hasRoom, Bool.and_eq_true, decide_eq_true_eq] at h ⊢
    obtain ⟨⟨⟨⟨h1, h2, h3, h4, h5, h6⟩, h7⟩, h8⟩, h9⟩ := h
    rw [X.frames, List.length_cons] at h2 h3
    have q1 := X.heapSize
    have q2 := X.used
    simp only [hF, hU, List.length_cons, State.stackLimits_setFrames, State.stackBytes_setFrames, hl9, hb9]
    refine ⟨⟨⟨⟨by omega, by omega, by omega, by omega, by omega, h6⟩, ?_⟩, ?_⟩, X.book⟩
    · show T.heap.size + R'.cells ≤ e.platform.maxCells
      omega
    · show T.slotsUsed + R'.slots ≤ e.platform.maxSlots
      omega
  · rw [State.stackLimits_setFrames]; rfl
  · rw [State.stackBytes_setFrames]; rfl
  · refine ⟨?_, Nat.le_refl _, Nat.le_refl _, ?_, ?_, fun a c9 h9 => ⟨c9, h9, rfl, rfl, fun _ _ => rfl⟩⟩
    · obtain ⟨t, ht, -⟩ := State.frames_cons hr
      show T.setVm s.vm = { ((T.setVm s.vm).setFrames (.invoking m args :: below)).setFrames (T.setVm s.vm).frames with heap := T.heap, slotsUsed := T.slotsUsed }
      rw [State.setFrames_setFrames, State.setFrames_self ht]
      rfl
    · show T.slotsUsed = T.slotsUsed + ((T.heap.toList.drop T.heap.size).map (·.slots.size)).sum
      rw [List.drop_eq_nil_of_le (Nat.le_of_eq Array.length_toList)]
      rfl
    · show ((T.heap.toList.drop T.heap.size).map (·.slots.size)).sum ≤ 0
      rw [List.drop_eq_nil_of_le (Nat.le_of_eq Array.length_toList)]
      exact Nat.le_refl _
/-- 'throw new E()': new; dup; invokespecial; athrow -/
theorem vx_throw0 {cc : ByteArray} {pc : Nat} (hexec : p.tables.exec = Jvm.exec) (hb : c.code = cc) (hl : l.stackTraces = false) {own cls : String} {names : List String} {ik ic mc ms : Nat} {A : Nat → Prop}
    (hown : s.vm.findClass own = some m.cls) (hcls : Bundle.fit cls = true) (hnames : ∀ n ∈ names, Bundle.fit n = true)
    (hk : (Cond.classLink own ik cls).before args s = true) (hini : (Cond.initialized cls).before args s = true) (hat : ∀ w ∈ vx_at0 own ic cls names, w.before args s = true)
    (hgood : ∀ w ∈ Cond.classLink own ik cls :: Cond.initialized cls :: vx_at0 own ic cls names, vx_ot w = true)
    (hU : vx_Zq Bundle.tN "UNASSIGNED_STACK" Bundle.steD A s s.heap) (hN : vx_Zq Bundle.tN "SUPPRESSED_SENTINEL" Bundle.listD A s s.heap) (hS : va_S A s.heap H locs) (hsize : ls.size = c.maxLocals)
    (d0 : decode cc pc = .ok (.new ik, 3)) (d3 : decode cc (pc + 3) = .ok (.dup, 1)) (d4 : decode cc (pc + 4) = .ok (.invokespecial ic, 3)) (d7 : decode cc (pc + 7) = .ok (.athrow, 1))
    (hout : ∀ x ∈ c.exceptionTable.toList, covers x (pc + 7) = false)
    (hRframes : names.length + 3 < R.frames) (hRlocals : (rest.map fun v => v.category).sum + (13 * (names.length + 1) + 42) ≤ R.locals) (hRcells : cells + 1 ≤ R.cells) (hRslots : slots + 6 ≤ R.slots) (hlocks : meth.locks = false)
    (hx : ∀ t : State, s.vm.Alike t.vm → H.size ≤ t.heap.size → (∀ q : Nat, q < H.size → t.heap[q]? = H[q]?) → XC cls s t)
    (hf : ∀ z ∈ locs, free z.base) (hc : cells + 1 ≤ mc) (hs : slots + 6 ≤ ms) :
    W p l e R s m args below meth c H locs cells slots (vx_MQ below Qc XC args s mc ms free) (F0 m pc ls rest) := by
  intro T hT X
  have htr : e.platform.stackTraces = false := (show e.platform.stackTraces = l.stackTraces by rw [X.admits.platform]).trans hl
  have Y := vx_rebase X (R' := { frames := R.frames, locals := R.locals, cells := 1, slots := 6 }) (Nat.le_refl _) (Nat.le_refl _) hRcells hRslots
  obtain ⟨s', hA⟩ : ∃ z, z = (T.setVm s.vm).setFrames (.invoking m args :: below) := ⟨_, rfl⟩
  rw [← hA] at Y
  have hvm : s'.vm = s.vm := by rw [hA]; rfl
  have hhp : s'.heap = H := by rw [hA]; exact hT
  have hW0 : s.WarmedH s'.vm := by rw [hvm]; exact State.WarmedH.refl s
  have hat' : ∀ w ∈ vx_at0 own ic cls names, w.before args s' = true := fun w hw => vx_ot_at hW0 hvm.symm (hgood w (List.mem_cons_of_mem _ (List.mem_cons_of_mem _ hw))) (hat w hw)
  have hk' : (Cond.classLink own ik cls).before args s' = true := vx_ot_at hW0 hvm.symm (hgood _ List.mem_cons_self) hk
  have hini' : (Cond.initialized cls).before args s' = true := vx_ot_at hW0 hvm.symm (hgood _ (List.mem_cons_of_mem _ List.mem_cons_self)) hini
  have hU' : vx_Zq Bundle.tN "UNASSIGNED_STACK" Bundle.steD A s' s'.heap := by rw [hhp]; exact vx_Zq.moved hW0.alike (hU.kept hS.2.1)
  have hN' : vx_Zq Bundle.tN "SUPPRESSED_SENTINEL" Bundle.listD A s' s'.heap := by rw [hhp]; exact vx_Zq.moved hW0.alike (hN.kept hS.2.1)
  have h : ∀ w ∈ Bundle.ownAtoms0 own ic cls names, w.before args s' = true := vx_own hat' (vx_isRefq hU'.1) (vx_isRefq hN'.1) hU'.2.word hN'.2.word
  have hown' : s'.vm.findClass own = some m.cls := by rw [hvm]; exact hown
  have hins : (Cond.instantiable cls 6).before args s' = true := h _ (by simp [Bundle.ownAtoms0])
  obtain ⟨vm₁, cX, kX, hfX, hkX, -, -, X₁, st1⟩ := Y.newCold hexec (own := own) (C := cls) (index := ik) (n := 6) hown' hk' hins hini'
    (g := F0 m pc ls rest) rfl (by rw [hb]; exact d0) (Nat.le_refl _) (Nat.le_refl _)
  generalize hT1 : (T.setVm vm₁).pushCell { cls := cX, slots := kX.instanceTypes.map defaultValue, vm := .none } = T1 at X₁ st1
  have hcat : (Value.ref T.heap.size).category = 1 := rfl
  have hcellA : T1.heap[T.heap.size]? = some (freshCell cX kX) := by rw [← hT1]; exact State.heap_pushCell_size _ _
  have d3' : decode c.code (pc + 3) = .ok (.dup, 1) := by rw [hb]; exact d3
  obtain ⟨U, hsteps, hrun, hend, hW, hsame, ce, hce, hO⟩ := X₁.ctorThrow0 hexec htr (own := own) (cls := cls) (names := names) (ic := ic) hown' hcls hnames h (fun x hx => nomatch hx) hfX hkX hcellA (by rw [hhp, hT]; exact Nat.le_refl _)
    (g := { method := m, pc := pc + 4, locals := ls, stack := .ref T.heap.size :: .ref T.heap.size :: rest, locked := none }) rfl hsize rfl rfl (rest := rest) rfl
    (by rw [hb]; exact d4) (by rw [hb]; exact d7) hout hRframes (by simp only [List.map_cons, List.sum_cons, hcat]; omega) hlocks
  obtain ⟨f1, f2⟩ := vx_frame hsame
  rw [hhp] at f1 f2
  have hWs : s.WarmedH U.vm := State.WarmedH.trans hW0 hW
  have hcl : s.vm.findClass cls = some ce.cls := by
    have h9 := hO.cls
    rw [hvm] at h9
    exact h9
  have hall : s.sameButNew ({ U with vm := s.vm } : State) locs mc ms := by
    subst hA
    obtain ⟨e1, e2⟩ := hsame
    rw [State.setFrames_setFrames] at e1
    have h2 : (T.setVm s.vm).sameButNew ({ U with vm := s.vm } : State) [] (0 + 1) (0 + 6) := ⟨e1, e2⟩
    have h3 := X.same.trans h2
    rw [List.append_nil] at h3
    exact h3.mono hc hs
  refine ⟨U, ?_, .threw T.heap.size, hrun, hend, Or.inr ⟨T.heap.size, rfl, cls, ce, locs, hx U hWs.alike f1 (fun q hq => f2 q hq (fun z hz => nomatch hz)), hce, hO.vm, hcl, hWs, hall, hf⟩⟩
  refine st1 _ ?_
  show Steps p.tables e below (T1.setTop { method := m, pc := pc + 3, locals := ls, stack := .ref T.heap.size :: rest, locked := none }) _
  jvm_step X₁.here [X₁.here.top, hexec, d3', Value.category]
  exact hsteps
/-- 'throw new E("text")': new; dup; ldc; invokespecial; athrow -/
theorem vx_throwS {cc : ByteArray} {pc : Nat} (hexec : p.tables.exec = Jvm.exec) (hb : c.code = cc) (hl : l.stackTraces = false) {own cls text : String} {names : List String} {ik is ic mc ms sa : Nat} {A : Nat → Prop}
    (hown : s.vm.findClass own = some m.cls) (hcls : Bundle.fit cls = true) (hnames : ∀ n ∈ names, Bundle.fit n = true)
    (hk : (Cond.classLink own ik cls).before args s = true) (hini : (Cond.initialized cls).before args s = true) (hstr : vk_R own is text sa s) (hat : ∀ w ∈ vx_atS own ic cls names, w.before args s = true)
    (hgood : ∀ w ∈ Cond.classLink own ik cls :: Cond.initialized cls :: vx_atS own ic cls names, vx_ot w = true)
    (hU : vx_Zq Bundle.tN "UNASSIGNED_STACK" Bundle.steD A s s.heap) (hN : vx_Zq Bundle.tN "SUPPRESSED_SENTINEL" Bundle.listD A s s.heap) (hS : va_S A s.heap H locs) (hsize : ls.size = c.maxLocals)
    (d0 : decode cc pc = .ok (.new ik, 3)) (d3 : decode cc (pc + 3) = .ok (.dup, 1)) (d4 : decode cc (pc + 4) = .ok (.ldc is, 2)) (d6 : decode cc (pc + 6) = .ok (.invokespecial ic, 3)) (d9 : decode cc (pc + 9) = .ok (.athrow, 1))
    (hout : ∀ x ∈ c.exceptionTable.toList, covers x (pc + 9) = false)
    (hRframes : names.length + 3 < R.frames) (hRlocals : (rest.map fun v => v.category).sum + (13 * (names.length + 1) + 43) ≤ R.locals) (hRcells : cells + 1 ≤ R.cells) (hRslots : slots + 6 ≤ R.slots) (hlocks : meth.locks = false)
    (hx : ∀ t : State, s.vm.Alike t.vm → H.size ≤ t.heap.size → (∀ q : Nat, q < H.size → t.heap[q]? = H[q]?) → XC cls s t)
    (hf : ∀ z ∈ locs, free z.base) (hc : cells + 1 ≤ mc) (hs : slots + 6 ≤ ms) :
    W p l e R s m args below meth c H locs cells slots (vx_MQ below Qc XC args s mc ms free) (F0 m pc ls rest) := by
  intro T hT X
  have htr : e.platform.stackTraces = false := (show e.platform.stackTraces = l.stackTraces by rw [X.admits.platform]).trans hl
  have Y := vx_rebase X (R' := { frames := R.frames, locals := R.locals, cells := 1, slots := 6 }) (Nat.le_refl _) (Nat.le_refl _) hRcells hRslots
  obtain ⟨s', hA⟩ : ∃ z, z = (T.setVm s.vm).setFrames (.invoking m args :: below) := ⟨_, rfl⟩
  rw [← hA] at Y
  have hvm : s'.vm = s.vm := by rw [hA]; rfl
  have hhp : s'.heap = H := by rw [hA]; exact hT
  have hW0 : s.WarmedH s'.vm := by rw [hvm]; exact State.WarmedH.refl s
  have hat' : ∀ w ∈ vx_atS own ic cls names, w.before args s' = true := fun w hw => vx_ot_at hW0 hvm.symm (hgood w (List.mem_cons_of_mem _ (List.mem_cons_of_mem _ hw))) (hat w hw)
  have hk' : (Cond.classLink own ik cls).before args s' = true := vx_ot_at hW0 hvm.symm (hgood _ List.mem_cons_self) hk
  have hini' : (Cond.initialized cls).before args s' = true := vx_ot_at hW0 hvm.symm (hgood _ (List.mem_cons_of_mem _ List.mem_cons_self)) hini
  have hU' : vx_Zq Bundle.tN "UNASSIGNED_STACK" Bundle.steD A s' s'.heap := by rw [hhp]; exact vx_Zq.moved hW0.alike (hU.kept hS.2.1)
  have hN' : vx_Zq Bundle.tN "SUPPRESSED_SENTINEL" Bundle.listD A s' s'.heap := by rw [hhp]; exact vx_Zq.moved hW0.alike (hN.kept hS.2.1)
  have h : ∀ w ∈ Bundle.ownAtoms own ic cls names, w.before args s' = true := vx_own hat' (vx_isRefq hU'.1) (vx_isRefq hN'.1) hU'.2.word hN'.2.word
  have hown' : s'.vm.findClass own = some m.cls := by rw [hvm]; exact hown
  have hins : (Cond.instantiable cls 6).before args s' = true := h _ (by simp [Bundle.ownAtoms])
  obtain ⟨vm₁, cX, kX, hfX, hkX, -, -, X₁, st1⟩ := Y.newCold hexec (own := own) (C := cls) (index := ik) (n := 6) hown' hk' hins hini'
    (g := F0 m pc ls rest) rfl (by rw [hb]; exact d0) (Nat.le_refl _) (Nat.le_refl _)
  generalize hT1 : (T.setVm vm₁).pushCell { cls := cX, slots := kX.instanceTypes.map defaultValue, vm := .none } = T1 at X₁ st1
  have hcat : (Value.ref T.heap.size).category = 1 := rfl
  have hcellA : T1.heap[T.heap.size]? = some (freshCell cX kX) := by rw [← hT1]; exact State.heap_pushCell_size _ _
  have d3' : decode c.code (pc + 3) = .ok (.dup, 1) := by rw [hb]; exact d3
  have d4' : decode c.code (pc + 4) = .ok (.ldc is, 2) := by rw [hb]; exact d4
  have hstr' : vk_R own is text sa s' := vk_R.warm hW0 hstr
  obtain ⟨U, hsteps, hrun, hend, hW, hsame, ce, hce, hO⟩ := X₁.ctorThrowS hexec htr (own := own) (cls := cls) (names := names) (ic := ic) hown' hcls hnames h (fun x hx => nomatch hx) hfX hkX hcellA (by rw [hhp, hT]; exact Nat.le_refl _) (msg := .ref sa) rfl
    (g := { method := m, pc := pc + 6, locals := ls, stack := .ref sa :: .ref T.heap.size :: .ref T.heap.size :: rest, locked := none }) rfl hsize rfl rfl (rest := rest) rfl
    (by rw [hb]; exact d6) (by rw [hb]; exact d9) hout hRframes (by simp only [List.map_cons, List.sum_cons, hcat]; omega) hlocks
  obtain ⟨f1, f2⟩ := vx_frame hsame
  rw [hhp] at f1 f2
  have hWs : s.WarmedH U.vm := State.WarmedH.trans hW0 hW
  have hcl : s.vm.findClass cls = some ce.cls := by
    have h9 := hO.cls
    rw [hvm] at h9
    exact h9
  have hall : s.sameButNew ({ U with vm := s.vm } : State) locs mc ms := by
    subst hA
    obtain ⟨e1, e2⟩ := hsame
    rw [State.setFrames_setFrames] at e1
    have h2 : (T.setVm s.vm).sameButNew ({ U with vm := s.vm } : State) [] (0 + 1) (0 + 6) := ⟨e1, e2⟩
    have h3 := X.same.trans h2
    rw [List.append_nil] at h3
    exact h3.mono hc hs
  refine ⟨U, ?_, .threw T.heap.size, hrun, hend, Or.inr ⟨T.heap.size, rfl, cls, ce, locs, hx U hWs.alike f1 (fun q hq => f2 q hq (fun z hz => nomatch hz)), hce, hO.vm, hcl, hWs, hall, hf⟩⟩
  refine st1 _ ?_
  show Steps p.tables e below (T1.setTop { method := m, pc := pc + 3, locals := ls, stack := .ref T.heap.size :: rest, locked := none }) _
  jvm_step X₁.here [X₁.here.top, hexec, d3', Value.category]
  exact X₁.ldcString hexec (own := own) (text := text) (index := is) (a := sa) hown' hstr'.1 hstr'.2
    (g := { method := m, pc := pc + 4, locals := ls, stack := .ref T.heap.size :: .ref T.heap.size :: rest, locked := none }) rfl d4' _ hsteps
/-- 'throw new E("text")', the text by a wide index -/
theorem vx_throwSW {cc : ByteArray} {pc : Nat} (hexec : p.tables.exec = Jvm.exec) (hb : c.code = cc) (hl : l.stackTraces = false) {own cls text : String} {names : List String} {ik is ic mc ms sa : Nat} {A : Nat → Prop}
    (hown : s.vm.findClass own = some m.cls) (hcls : Bundle.fit cls = true) (hnames : ∀ n ∈ names, Bundle.fit n = true)
    (hk : (Cond.classLink own ik cls).before args s = true) (hini : (Cond.initialized cls).before args s = true) (hstr : vk_R own is text sa s) (hat : ∀ w ∈ vx_atS own ic cls names, w.before args s = true)
    (hgood : ∀ w ∈ Cond.classLink own ik cls :: Cond.initialized cls :: vx_atS own ic cls names, vx_ot w = true)
    (hU : vx_Zq Bundle.tN "UNASSIGNED_STACK" Bundle.steD A s s.heap) (hN : vx_Zq Bundle.tN "SUPPRESSED_SENTINEL" Bundle.listD A s s.heap) (hS : va_S A s.heap H locs) (hsize : ls.size = c.maxLocals)
    (d0 : decode cc pc = .ok (.new ik, 3)) (d3 : decode cc (pc + 3) = .ok (.dup, 1)) (d4 : decode cc (pc + 4) = .ok (.ldc_w is, 3)) (d7 : decode cc (pc + 7) = .ok (.invokespecial ic, 3)) (d10 : decode cc (pc + 10) = .ok (.athrow, 1))
    (hout : ∀ x ∈ c.exceptionTable.toList, covers x (pc + 10) = false)
    (hRframes : names.length + 3 < R.frames) (hRlocals : (rest.map fun v => v.category).sum + (13 * (names.length + 1) + 43) ≤ R.locals) (hRcells : cells + 1 ≤ R.cells) (hRslots : slots + 6 ≤ R.slots) (hlocks : meth.locks = false)
    (hx : ∀ t : State, s.vm.Alike t.vm → H.size ≤ t.heap.size → (∀ q : Nat, q < H.size → t.heap[q]? = H[q]?) → XC cls s t)
    (hf : ∀ z ∈ locs, free z.base) (hc : cells + 1 ≤ mc) (hs : slots + 6 ≤ ms) :
    W p l e R s m args below meth c H locs cells slots (vx_MQ below Qc XC args s mc ms free) (F0 m pc ls rest) := by
  intro T hT X
  have htr : e.platform.stackTraces = false := (show e.platform.stackTraces = l.stackTraces by rw [X.admits.platform]).trans hl
  have Y := vx_rebase X (R' := { frames := R.frames, locals := R.locals, cells := 1, slots := 6 }) (Nat.le_refl _) (Nat.le_refl _) hRcells hRslots
  obtain ⟨s', hA⟩ : ∃ z, z = (T.setVm s.vm).setFrames (.invoking m args :: below) := ⟨_, rfl⟩
  rw [← hA] at Y
  have hvm : s'.vm = s.vm := by rw [hA]; rfl
  have hhp : s'.heap = H := by rw [hA]; exact hT
  have hW0 : s.WarmedH s'.vm := by rw [hvm]; exact State.WarmedH.refl s
  have hat' : ∀ w ∈ vx_atS own ic cls names, w.before args s' = true := fun w hw => vx_ot_at hW0 hvm.symm (hgood w (List.mem_cons_of_mem _ (List.mem_cons_of_mem _ hw))) (hat w hw)
  have hk' : (Cond.classLink own ik cls).before args s' = true := vx_ot_at hW0 hvm.symm (hgood _ List.mem_cons_self) hk
  have hini' : (Cond.initialized cls).before args s' = true := vx_ot_at hW0 hvm.symm (hgood _ (List.mem_cons_of_mem _ List.mem_cons_self)) hini
  have hU' : vx_Zq Bundle.tN "UNASSIGNED_STACK" Bundle.steD A s' s'.heap := by rw [hhp]; exact vx_Zq.moved hW0.alike (hU.kept hS.2.1)
  have hN' : vx_Zq Bundle.tN "SUPPRESSED_SENTINEL" Bundle.listD A s' s'.heap := by rw [hhp]; exact vx_Zq.moved hW0.alike (hN.kept hS.2.1)
  have h : ∀ w ∈ Bundle.ownAtoms own ic cls names, w.before args s' = true := vx_own hat' (vx_isRefq hU'.1) (vx_isRefq hN'.1) hU'.2.word hN'.2.word
  have hown' : s'.vm.findClass own = some m.cls := by rw [hvm]; exact hown
  have hins : (Cond.instantiable cls 6).before args s' = true := h _ (by simp [Bundle.ownAtoms])
  obtain ⟨vm₁, cX, kX, hfX, hkX, -, -, X₁, st1⟩ := Y.newCold hexec (own := own) (C := cls) (index := ik) (n := 6) hown' hk' hins hini'
    (g := F0 m pc ls rest) rfl (by rw [hb]; exact d0) (Nat.le_refl _) (Nat.le_refl _)
  generalize hT1 : (T.setVm vm₁).pushCell { cls := cX, slots := kX.instanceTypes.map defaultValue, vm := .none } = T1 at X₁ st1
  have hcat : (Value.ref T.heap.size).category = 1 := rfl
  have hcellA : T1.heap[T.heap.size]? = some (freshCell cX kX) := by rw [← hT1]; exact State.heap_pushCell_size _ _
  have d3' : decode c.code (pc + 3) = .ok (.dup, 1) := by rw [hb]; exact d3
  have d4' : decode c.code (pc + 4) = .ok (.ldc_w is, 3) := by rw [hb]; exact d4
  have hstr' : vk_R own is text sa s' := vk_R.warm hW0 hstr
  obtain ⟨U, hsteps, hrun, hend, hW, hsame, ce, hce, hO⟩ := X₁.ctorThrowS hexec htr (own := own) (cls := cls) (names := names) (ic := ic) hown' hcls hnames h (fun x hx => nomatch hx) hfX hkX hcellA (by rw [hhp, hT]; exact Nat.le_refl _) (msg := .ref sa) rfl
    (g := { method := m, pc := pc + 7, locals := ls, stack := .ref sa :: .ref T.heap.size :: .ref T.heap.size :: rest, locked := none }) rfl hsize rfl rfl (rest := rest) rfl
    (by rw [hb]; exact d7) (by rw [hb]; exact d10) hout hRframes (by simp only [List.map_cons, List.sum_cons, hcat]; omega) hlocks
  obtain ⟨f1, f2⟩ := vx_frame hsame
  rw [hhp] at f1 f2
  have hWs : s.WarmedH U.vm := State.WarmedH.trans hW0 hW
  have hcl : s.vm.findClass cls = some ce.cls := by
    have h9 := hO.cls
    rw [hvm] at h9
    exact h9
  have hall : s.sameButNew ({ U with vm := s.vm } : State) locs mc ms := by
    subst hA
    obtain ⟨e1, e2⟩ := hsame
    rw [State.setFrames_setFrames] at e1
    have h2 : (T.setVm s.vm).sameButNew ({ U with vm := s.vm } : State) [] (0 + 1) (0 + 6) := ⟨e1, e2⟩
    have h3 := X.same.trans h2
    rw [List.append_nil] at h3
    exact h3.mono hc hs
  refine ⟨U, ?_, .threw T.heap.size, hrun, hend, Or.inr ⟨T.heap.size, rfl, cls, ce, locs, hx U hWs.alike f1 (fun q hq => f2 q hq (fun z hz => nomatch hz)), hce, hO.vm, hcl, hWs, hall, hf⟩⟩
  refine st1 _ ?_
  show Steps p.tables e below (T1.setTop { method := m, pc := pc + 3, locals := ls, stack := .ref T.heap.size :: rest, locked := none }) _
  jvm_step X₁.here [X₁.here.top, hexec, d3', Value.category]
  exact X₁.ldcStringW hexec (own := own) (text := text) (index := is) (a := sa) hown' hstr'.1 hstr'.2
    (g := { method := m, pc := pc + 4, locals := ls, stack := .ref T.heap.size :: .ref T.heap.size :: rest, locked := none }) rfl d4' _ hsteps
end Ends
section Bodies
variable {l : Launch}
theorem vx_ofW {y : MethodName} {ws ws' : List Cond} {rm : Room} {Pc : Array Value → State → Prop} {Qc : Array Value → State → Outcome → State → Prop} {XC : String → State → State → Prop} {mc ms : Nat} {free : Addr → Prop} {cc : ByteArray} {maxL : Nat} {ret : Option FieldType}
    (hy : plainName y.cls = true) (hw : ws = Cond.code y cc maxL ret :: ws')
    (body : ∀ p e s m args below meth c s₁, BodyLoose p l y (headSpec ws rm) cc maxL ret e s m args below meth c s₁ → c.maxLocals = maxL → (∀ x ∈ c.exceptionTable.toList, False) → Pc args s →
      W p l e (headSpec ws rm).room s m args below meth c s.heap [] 0 0 (vx_MQ below Qc XC args s mc ms free) (entryFrame m args maxL)) : vx_Met l y ws rm Pc Qc XC mc ms free := by
  refine MetFree.of_bodyS (code := cc) (maxLocals := maxL) (ret := ret) hy ?_ ?_
  · intro args s m h hn
    obtain ⟨meth, c, h1, h2, h3, h4, h5, h6, -, -⟩ := Cond.code_spec hn (atoms_spec (ws := ws) h _ (by rw [hw]; exact List.mem_cons_self))
    exact ⟨meth, c, h1, h2, h3, h4, h5, h6⟩
  · intro p e s m args below meth c s₁ B hml hP _
    have hh0 : s₁.heap = s.heap := by rw [B.state]; rfl
    have ht : ∀ x ∈ c.exceptionTable.toList, False := by
      obtain ⟨meth9, c9, h1, h2, -, -, -, -, h7, -⟩ := Cond.code_spec B.named (atoms_spec (ws := ws) B.pre _ (by rw [hw]; exact List.mem_cons_self))
      cases Option.some.inj (h1.symm.trans B.method)
      cases Option.some.inj (h2.symm.trans (Stand.of_body B).code)
      intro x hx
      rw [Array.isEmpty_iff.mp h7] at hx
      cases hx
    obtain ⟨t, a1, o, b1, b2, b3⟩ := body p e s m args below meth c s₁ B hml ht hP s₁ hh0 (Stand.of_body B)
    exact ⟨t, o, a1, b1, b2, b3⟩
/-- the table of a body with handlers -/
theorem vx_table {p : Program} {x y : MethodName} {S : Spec} {cc bytes : ByteArray} {maxL maxL' : Nat} {ret ret' : Option FieldType} {e : Env} {s s₁ : State} {m : MethodId} {args : Array Value} {below : List Frame} {meth : Method} {c : Code} {hh : List (Nat × Nat × Nat × Nat)}
    (B : BodyLoose p l y S cc maxL ret e s m args below meth c s₁) (h : (Cond.codeWith y bytes maxL' ret' hh).before args s = true) : c.exceptionTable.toList = tableOf hh := by
  obtain ⟨m9, meth9, c9, hn9, h1, h2, -, -, h6, -⟩ := Cond.codeWith_spec h
  cases Option.some.inj (hn9.symm.trans B.named)
  cases Option.some.inj (h1.symm.trans B.method)
  cases Option.some.inj (h2.symm.trans (Stand.of_body B).code)
  rw [← h6, table_eq]
end Bodies
end VXA
/-! ===== END ===== -/
/-! ===== BEGIN a static call of a method with an exception table ===== -/
section VXS
variable {p : Program} {l : Launch} {e : Env} {R : Room} {s : State} {m : MethodId} {args : Array Value} {below : List Frame} {meth : Method} {c : Code} {T : State} {H : Heap} {locs : List Loc} {cells slots : Nat}
abbrev vx_CSW (R : Room) (s : State) (args : Array Value) (own : String) (index : Nat) (y : MethodName) (bytes : ByteArray) (maxL : Nat) (ret : Option FieldType) (hh : List (Nat × Nat × Nat × Nat)) (ws : List Cond) (rm : Room) (mc ms n : Nat) : Prop :=
  (rm.cells = mc ∧ rm.slots = ms ∧ rm.frames + 1 ≤ R.frames ∧ 8 + (maxL + 11) + rm.locals ≤ R.locals ∧ (∀ w ∈ ws, ∀ (a' : Array Value) (U : State), s.WarmedH U.vm → w.before a' U = true) ∧ Cond.codeWith y bytes maxL ret hh ∈ ws) ∧
  (Cond.codeWith y bytes maxL ret hh).before args s = true ∧ (Cond.initialized y.cls).before args s = true ∧ (y.cls ≠ "java/lang/invoke/MethodHandle" ∧ y.cls ≠ "java/lang/invoke/VarHandle") ∧
  (∀ sig, parseMethodDescriptor y.desc = some sig → n = sig.parameters.length) ∧ (Cond.methodLink own index y).before args s = true ∧ (Cond.static y).before args s = true
theorem vx_cwSW {own : String} {index maxL mc ms : Nat} {y : MethodName} {bytes : ByteArray} {ret : Option FieldType} {hh : List (Nat × Nat × Nat × Nat)} {Ts ws ws' : List Cond} {rm : Room} (n : Nat) (ht : ∀ w ∈ Ts, w.before args s = true) (hT : GoodIn Ts (va_wsS own index y ws)) (hw : ws = Cond.codeWith y bytes maxL ret hh :: ws') (hrc : rm.cells = mc) (hrs : rm.slots = ms)
    (hd : y.cls ≠ "java/lang/invoke/MethodHandle" ∧ y.cls ≠ "java/lang/invoke/VarHandle" ∧ (parseMethodDescriptor y.desc).map (fun d => d.parameters.length) = some n) (hR : rm.frames + 1 ≤ R.frames ∧ 8 + (maxL + 11) + rm.locals ≤ R.locals) :
    vx_CSW R s args own index y bytes maxL ret hh ws rm mc ms n := by
  have ok : ∀ w ∈ va_wsS own index y ws, w.before args s = true := fun w h => ht w (hT w h).1
  have hG : GoodIn Ts ws := fun w h => hT w (by unfold va_wsS; exact List.mem_append_right _ h)
  have hc : Cond.codeWith y bytes maxL ret hh ∈ ws := by rw [hw]; exact List.mem_cons_self
  refine ⟨⟨hrc, hrs, hR.1, hR.2, pay_in ht hG, hc⟩, ht _ (hG _ hc).1, ok _ (by simp [va_wsS]), ⟨hd.1, hd.2.1⟩, fun sig h => ?_, ok _ (by simp [va_wsS]), ok _ (by simp [va_wsS])⟩
  have h2 := hd.2.2
  rw [h] at h2
  exact (Option.some.inj h2).symm
theorem vx_callSW (X : Stand p l e R s m args below meth c T locs cells slots) (hexec : p.tables.exec = Jvm.exec) {own : String} {index : Nat} {y : MethodName} {bytes : ByteArray} {maxL : Nat} {ret : Option FieldType} {hh : List (Nat × Nat × Nat × Nat)}
    (hown : s.vm.findClass own = some m.cls) (hlink : (Cond.methodLink own index y).before args s = true) (hstat : (Cond.static y).before args s = true) (hinit : (Cond.initialized y.cls).before args s = true)
    (hcode : (Cond.codeWith y bytes maxL ret hh).before args s = true) (hy : y.cls ≠ "java/lang/invoke/MethodHandle" ∧ y.cls ≠ "java/lang/invoke/VarHandle")
    {W9 : Nat} {Pre : Pt → Array Value → Prop} {Post : Pt → Array Value → Option Value → Pt → Prop} (hK : Back l R p e below s args y 3 W9 Pre Post)
    {g : JFrame} (hg : g.method = m) (hsize : g.locals.size = c.maxLocals) {argsL rest : List Value} (hlen : ∀ sig, parseMethodDescriptor y.desc = some sig → argsL.length = sig.parameters.length)
    (hstack : g.stack = argsL.reverse ++ rest) (hW : 2 * g.monitorRoom + (rest.map fun v => v.category).sum ≤ W9) (hdg : decode c.code g.pc = .ok (.invokestatic index, 3))
    (hpre : ∀ vm₁, s.WarmedH vm₁ → Pre ⟨T.setVm vm₁, locs, cells, slots⟩ argsL.toArray) :
    ∃ (v : Option Value) (vm₁ : Vm) (B : Pt), s.WarmedH vm₁ ∧ Stand p l e R s m args below meth c B.U B.locs B.cells B.slots ∧ Post ⟨T.setVm vm₁, locs, cells, slots⟩ argsL.toArray v B ∧
      ∀ target, Steps p.tables e below (B.U.setTop { g with pc := g.pc + 3, stack := v.toList ++ rest }) target → Steps p.tables e below (T.setTop g) target := by
  obtain ⟨mk, methM, cM, hnamed, hmethM, -, -, -, -, -, -, hsigM⟩ := Cond.codeWith_spec hcode
  have hstatic : methM.isStatic = true := Cond.static_spec hnamed hmethM hstat
  obtain ⟨kP, hkP, -⟩ := className_of_methodNamed hnamed
  have hinitP : kP.init = .initialized := Cond.initialized_spec (findClass_of_methodNamed hnamed) hkP hinit
  obtain ⟨vm₁, X₁, hstep₁⟩ := X.invokestatic hexec hown hlink hnamed hmethM hstatic hkP hinitP hy (g := g) hg (argsL := argsL) (rest := rest) (hlen _ hsigM) hstack hdg
  obtain ⟨v, B, X', hpost, hsteps⟩ := hK m meth c ⟨T.setVm vm₁, locs, cells, slots⟩ { g with stack := rest } (.invokestatic index) mk argsL.toArray X₁ hg hsize hdg hW (X₁.named hnamed) (hpre vm₁ X₁.warmed)
  exact ⟨v, vm₁, B, X₁.warmed, X', hpost, fun target h => hstep₁ _ fun acts => by rw [doInvoke_state]; exact hsteps.trans h⟩
theorem vx_runSW {y : MethodName} {bytes cc : ByteArray} {maxL nL mc ms n index : Nat} {ret : Option FieldType} {hh : List (Nat × Nat × Nat × Nat)} {ws : List Cond} {rm : Room} {Pc : Array Value → State → Prop} {Qc : Array Value → State → Outcome → State → Prop} {free : Addr → Prop} {Ts : List Cond} {own : String} {As rest : List Value} {g : JFrame}
    (S : CallFix p m c cc nL s args Ts own) (hM : Met l y ws rm Pc Qc mc ms free) (cw : vx_CSW R s args own index y bytes maxL ret hh ws rm mc ms n) (hp : PreS s H Pc As)
    (hg : g.method = m) (hn : As.length = n) (hsize : g.locals.size = nL) (hstack : g.stack = As.reverse ++ rest) (hW : 2 * g.monitorRoom + (rest.map fun v => v.category).sum ≤ 8) (hdg : decode cc g.pc = .ok (.invokestatic index, 3)) (hf : cells + mc ≤ R.cells ∧ slots + ms ≤ R.slots) :
    va_Run p l e R s m args below meth c H locs cells slots mc ms g rest (Qc As.toArray) (free) := by
  obtain ⟨⟨hrc, hrs, hfr, hlo, hws, hcw⟩, hcode, hini, hy, hlen, hl, hstt⟩ := cw
  have hK : Back l R p e below s args y 3 8 (PreOf R mc ms Pc) (PostOf Qc mc ms free) := va_backW (hh := hh) (bytes := bytes) (maxL := maxL) (ret := ret) hM hp.1 hrc hrs hfr hlo hws hcw (fun a' U hW => word_at hW (Or.inl (by first | rfl | simp [Cond.onTables, Cond.keeps, Cond.steady])) hini)
  obtain ⟨hx, hb, hml, ho, -⟩ := S
  intro T hT X
  obtain ⟨v, vm₁, ⟨U', l2, c2, s2⟩, hW₁, X', ⟨g', mk, t, L, e1, e2, hq, h1, hL, h2, h3⟩, st⟩ := vx_callSW X hx (hh := hh) (bytes := bytes) (maxL := maxL) (ret := ret) ho hl hstt hini hcode hy hK hg (hsize.trans hml.symm) (argsL := As) (rest := rest) (fun sig h => hn.trans (hlen sig h)) hstack hW (by rw [hb]; exact hdg)
    (fun vm₁ hW₁ => ⟨hf.1, hf.2, hp.2 (T.setVm vm₁) hT hW₁⟩)
  dsimp only [Pt.U, Pt.locs, Pt.cells, Pt.slots] at X' e1 e2 h1 h2 h3 st
  subst h1; subst h2; subst h3
  exact ⟨v, (T.setVm vm₁).calling g' mk As.toArray, t, U', L, hT, X', hL, e1, e2, hq, st⟩
/-- not caught here, past rows that name other classes: it goes on to the caller -/
theorem vx_outP {p : Program} {l : Launch} {e : Env} {R : Room} {s : State} {m : MethodId} {args : Array Value} {below : List Frame} {meth : Method} {c : Code} {H : Heap} {locs : List Loc} {cells slots : Nat} {free : Addr → Prop} {ls : Array Slot} {rest : List Value} {Qc : Array Value → State → Outcome → State → Prop} {XC : String → State → State → Prop}
    {pc : Nat} {own E : String} {ce : Cell} {q : Addr} {mc ms : Nat} (hown : s.vm.findClass own = some m.cls) (hlocks : meth.locks = false)
    (hpass : ∀ z ∈ c.exceptionTable.toList, covers z pc = false ∨ (z.catchType ≠ 0 ∧ ∃ nm : String, (Cond.classLink own z.catchType nm).before args s = true ∧ va_Nc E nm s)) (hcell : H[q]? = some ce) (hv : ce.vm = .none) (hcl : s.vm.findClass E = some ce.cls)
    (hx : ∀ t : State, t.heap = H → s.vm.Alike t.vm → XC E s t) (hf : ∀ z ∈ locs, free z.base) (hc : cells ≤ mc) (hs : slots ≤ ms) :
    vx_W p l e R s m args below meth c H locs cells slots (vx_MQ below Qc XC args s mc ms free) (F0 m pc ls rest) q := by
  intro T hT X
  have hpl : e.platform.magicAccessors = ({} : Platform).magicAccessors := by rw [X.admits.platform]
  obtain ⟨vm', hW', X', st⟩ := X.outThrough hlocks q (g := F0 m pc ls rest) rfl rfl rfl (cell := ce) (by rw [hT]; exact hcell) (by rw [hv]; rfl)
    (by obtain ⟨k9, h9, -⟩ := Vm.findClass_spec hcl; exact ⟨k9, h9⟩) (fun z hz => by
      rcases hpass z hz with h | ⟨hz0, nm, hl1, hn1⟩
      · exact Or.inl h
      · obtain ⟨c6, hc6, hcl6⟩ := Cond.classLink_spec hown hl1 e.platform hpl
        obtain ⟨a8, b8, h1, h2, h3⟩ := hn1
        cases Option.some.inj (h1.symm.trans hcl)
        cases Option.some.inj (h2.symm.trans hc6)
        exact Or.inr ⟨hz0, _, hcl6, h3⟩)
  obtain ⟨g₀, hfr⟩ := X'.frames_eq
  have hcell9 : ((T.setVm vm').setFrames (.throwing q :: below)).heap[q]? = some ce := by
    show T.heap[q]? = some ce
    rw [hT]; exact hcell
  have hend : Ended ((T.setVm vm').setFrames (.throwing q :: below)) below (.threw q) := State.frames_setFrames _ (State.cur_lt_of_frames hfr)
  refine ⟨(T.setVm vm').setFrames (.throwing q :: below), ?_, .threw q, X'.here.running, hend, Or.inr ⟨q, rfl, E, ce, locs, hx _ hT (X'.ends _).1.alike, hcell9, hv, hcl, (X'.ends _).1, (X'.ends _).2.mono hc hs, hf⟩⟩
  rw [X.pushThrowing_eq]
  exact st
/-- a thing of a world lies in the heap -/
theorem vx_lt {D : va_G} {cl : List vw_C} {ws : va_W} {H1 : Heap} (h : va_P D cl ws H1) {k : Nat} {q : Nat × va_E} (hk : ws[k]? = some q) : q.1 < H1.size := (h k q hk).lt
end VXS
/-! ===== END ===== -/
/-! ===== BEGIN methods with a table of their own: called by a name, returning or throwing ===== -/
section VXH
/-! vx_backW, vx_callVX, vx_callSX, vx_callVW, vx_runVW, vx_runVX, vx_runSX, vx_ofWH follow the same proofs as their sisters above (Free/Laws.lean, Shelf42/LK1.lean); vx_outP calls Shelf42/NT130.lean (outThrough). -/
section
variable {l : Launch} {R : Room} {p : Program} {e : Env} {below : List Frame} {s : State} {sargs : Array Value} {y : MethodName} {len W9 : Nat}
theorem vx_backW {ws : List Cond} {rm : Room} {Pc : Array Value → State → Prop} {Qc : Array Value → State → Outcome → State → Prop} {XC : String → State → State → Prop} {mc ms : Nat} {free : Addr → Prop} {bytes : ByteArray} {maxL : Nat} {ret : Option FieldType} {hh : List (Nat × Nat × Nat × Nat)}
    (hM : vx_Met l y ws rm Pc Qc XC mc ms free) (hblind : FrameBlind Pc) (hrc : rm.cells = mc) (hrs : rm.slots = ms)
    (hframes : rm.frames + 1 ≤ R.frames) (hlocals : W9 + (maxL + 11) + rm.locals ≤ R.locals)
    (hws : ∀ w ∈ ws, ∀ a' U, s.WarmedH U.vm → w.before a' U = true) (hcode : Cond.codeWith y bytes maxL ret hh ∈ ws) (hinit : ∀ a' U, s.WarmedH U.vm → (Cond.initialized y.cls).before a' U = true) :
    vx_Back l R p e below s sargs y len W9 (PreOf R mc ms Pc) (PostOf Qc mc ms free) (vx_Post XC mc ms free) := by
  intro m meth c A g ig mk a X hg hsize hdg hW hn hp
  have h1 : (headSpec ws rm).pre.before a A.U = true := atoms_intro fun w hw => hws w hw _ _ X.warmed
  have h2 : (Cond.codeWith y bytes maxL ret hh).before a A.U = true := hws _ hcode _ _ X.warmed
  have h3 : (Cond.initialized y.cls).before a A.U = true := hinit _ _ X.warmed
  have h4 : A.cells + (headSpec ws rm).room.cells ≤ R.cells := by rw [show (headSpec ws rm).room.cells = mc from hrc]; exact hp.1
  have h5 : A.slots + (headSpec ws rm).room.slots ≤ R.slots := by rw [show (headSpec ws rm).room.slots = ms from hrs]; exact hp.2.1
  have hPc : Pc a (A.U.calling g mk a) := hblind _ _ _ _ hp.2.2
  obtain ⟨U, Ls, c0, s0⟩ := A
  dsimp only [Pt.U, Pt.locs, Pt.cells, Pt.slots] at h1 h2 h3 h4 h5 X hn hPc ⊢
  obtain ⟨m9, methY, cY, hn9, hmY, hcY, -, hlY, -⟩ := Cond.codeWith_spec h2
  cases Option.some.inj (hn9.symm.trans hn)
  obtain ⟨kY, hkY, -⟩ := className_of_methodNamed hn
  have hinitY : kY.init = .initialized := Cond.initialized_spec (findClass_of_methodNamed hn) hkY h3
  have h : At U g.method c below := by rw [hg]; exact X.here
  have hlocals9 : W9 + (maxL + 11) + (headSpec ws rm).room.locals ≤ R.locals := hlocals
  have happ : (headSpec ws rm).appliesLoose y e.platform (U.calling g mk a) = true :=
    Spec.appliesLoose_calling (g := g) h hdg hn hkY hinitY
      (X.room_calling (g := g) (R' := (headSpec ws rm).room) hsize hmY hcY hframes (by rw [hlY]; omega) h4 h5) h1
  obtain ⟨mid, hmid⟩ := h.above
  have hfr : (U.setTop g).frames = (.java g :: mid) ++ below := by rw [State.frames_setTop' g h.top, hmid]; rfl
  obtain ⟨o, s₂, hsteps, -, hend, hq⟩ := Steps.callFree hM p X.admits X.cas X.clock (acts := []) hfr happ hPc trivial
  have hq' : vx_Q Qc XC mc ms free a (U.calling g mk a) o s₂ := hq
  rw [State.frames_setTop' g h.top] at hend
  obtain ⟨g₀, hg0⟩ := Option.isSome_iff_exists.mp h.top
  obtain ⟨r, hr⟩ := State.topJava?_eq_some.mp hg0
  have hr' : (({ U with heap := s₂.heap, slotsUsed := s₂.slotsUsed } : State).setVm s₂.vm).frames = .java g₀ :: r := hr
  rcases hq' with ⟨hqc, L, hfe, hL⟩ | ⟨q, rfl, E, ce, L, hx, hce, hcv, hcl, hW₂, hsm, hL⟩
  · obtain ⟨⟨v, rfl⟩, hW₂, e2, q2, q3, q4, q5, q6⟩ := id hfe
    have e3 : s₂ = ({ (U.calling g mk a).setFrames s₂.frames with heap := s₂.heap, slotsUsed := s₂.slotsUsed } : State).setVm s₂.vm := by
      have : s₂ = ({ s₂ with vm := (U.calling g mk a).vm } : State).setVm s₂.vm := rfl
      rw [e2] at this
      exact this
    obtain ⟨c₂, i₂, len₂, hc₂, hd₂, hf₂⟩ := hend
    have hW' : U.WarmedH s₂.vm := hW₂
    have hcc : c₂ = c := by
      have h1 : s₂.code? g.method = U.code? g.method := by
        rw [State.code?_eq, State.code?_eq, hW'.alike.method?]
      exact Option.some.inj (hc₂.symm.trans (h1.trans h.code))
    subst hcc
    have hlen : len₂ = len := by rw [hdg] at hd₂; cases hd₂; rfl
    subst hlen
    have hs₂ : s₂ = (({ U with heap := s₂.heap, slotsUsed := s₂.slotsUsed } : State).setVm s₂.vm).setTop { g with pc := g.pc + len₂, stack := v.toList ++ g.stack } := by
      refine e3.trans ?_
      rw [hf₂, State.calling_eq h.top, State.setFrames_setFrames, State.setTop_of_frames _ hr', hr]
      rfl
    have hsame : U.sameButNew ({ U with heap := s₂.heap, slotsUsed := s₂.slotsUsed } : State) L mc ms := by
      refine ⟨?_, q2, q3, q4, q5, q6⟩
      obtain ⟨t, ht, -⟩ := State.frames_cons hr
      show ({ U with heap := s₂.heap, slotsUsed := s₂.slotsUsed } : State) = { U.setFrames U.frames with heap := s₂.heap, slotsUsed := s₂.slotsUsed }
      rw [State.setFrames_self ht]
    subst hg
    refine Or.inl ⟨v, ⟨(({ U with heap := s₂.heap, slotsUsed := s₂.slotsUsed } : State).setVm s₂.vm), Ls ++ L, c0 + mc, s0 + ms⟩,
      ⟨X.admits, X.cas, X.clock, X.frames, X.room, X.hears, X.method, X.code, (X.here.setHeapUsed s₂.heap s₂.slotsUsed).setVm hW'.alike, X.tail, State.WarmedH.trans X.warmed hW', X.limits, X.bytes, X.same.trans (hsame.setVm s.vm)⟩,
      ⟨g, mk, s₂, L, rfl, rfl, hqc, rfl, hL, rfl, rfl⟩, ?_⟩
    show Steps p.tables e below _ ((({ U with heap := s₂.heap, slotsUsed := s₂.slotsUsed } : State).setVm s₂.vm).setTop { g with pc := g.pc + len₂, stack := v.toList ++ g.stack })
    rw [← hs₂]
    exact hsteps
  · obtain ⟨e2, q2, q3, q4, q5, q6⟩ := id hsm
    have e3 : s₂ = ({ (U.calling g mk a).setFrames s₂.frames with heap := s₂.heap, slotsUsed := s₂.slotsUsed } : State).setVm s₂.vm := by
      have : s₂ = ({ s₂ with vm := (U.calling g mk a).vm } : State).setVm s₂.vm := rfl
      rw [e2] at this
      exact this
    have hf₂ : s₂.frames = .throwing q :: .java g :: U.frames.tail := hend
    have hW' : U.WarmedH s₂.vm := hW₂
    have hs₂ : s₂ = ((({ U with heap := s₂.heap, slotsUsed := s₂.slotsUsed } : State).setVm s₂.vm).setTop g).pushFrame (.throwing q) := by
      refine e3.trans ?_
      rw [hf₂, State.calling_eq h.top, State.setFrames_setFrames, State.pushFrame, State.frames_setTop _ hr', State.setTop_of_frames _ hr', State.setFrames_setFrames, hr]
      rfl
    have hsame : U.sameButNew ({ U with heap := s₂.heap, slotsUsed := s₂.slotsUsed } : State) L mc ms := by
      refine ⟨?_, q2, q3, q4, q5, q6⟩
      obtain ⟨t, ht, -⟩ := State.frames_cons hr
      show ({ U with heap := s₂.heap, slotsUsed := s₂.slotsUsed } : State) = { U.setFrames U.frames with heap := s₂.heap, slotsUsed := s₂.slotsUsed }
      rw [State.setFrames_self ht]
    subst hg
    refine Or.inr ⟨q, ⟨(({ U with heap := s₂.heap, slotsUsed := s₂.slotsUsed } : State).setVm s₂.vm), Ls ++ L, c0 + mc, s0 + ms⟩,
      ⟨X.admits, X.cas, X.clock, X.frames, X.room, X.hears, X.method, X.code, (X.here.setHeapUsed s₂.heap s₂.slotsUsed).setVm hW'.alike, X.tail, State.WarmedH.trans X.warmed hW', X.limits, X.bytes, X.same.trans (hsame.setVm s.vm)⟩,
      ⟨g, mk, s₂, L, E, ce, rfl, rfl, hx, hce, hcv, hcl, rfl, hL, rfl, rfl⟩, ?_⟩
    show Steps p.tables e below _ (((({ U with heap := s₂.heap, slotsUsed := s₂.slotsUsed } : State).setVm s₂.vm).setTop g).pushFrame (.throwing q))
    rw [← hs₂]
    exact hsteps
end
variable {p : Program} {l : Launch} {e : Env} {R : Room} {s : State} {m : MethodId} {args : Array Value} {below : List Frame} {meth : Method} {c : Code} {T : State} {H : Heap} {locs : List Loc} {cells slots : Nat}
theorem vx_callVX (X : Stand p l e R s m args below meth c T locs cells slots) (hexec : p.tables.exec = Jvm.exec) {own C : String} {index : Nat} {y : MethodName} {bytes : ByteArray} {maxL : Nat} {ret : Option FieldType} {hh : List (Nat × Nat × Nat × Nat)}
    (hown : s.vm.findClass own = some m.cls) (hlink : (Cond.methodLink own index y).before args s = true) (hinst : (Cond.instanceMethod y).before args s = true) (hsel : (Cond.selects C y y).before args s = true)
    (hcode : (Cond.codeWith y bytes maxL ret hh).before args s = true) (hy : y.cls ≠ "java/lang/invoke/MethodHandle" ∧ y.cls ≠ "java/lang/invoke/VarHandle")
    {W9 : Nat} {Pre : Pt → Array Value → Prop} {Post : Pt → Array Value → Option Value → Pt → Prop} {PostX : Pt → Array Value → Addr → Pt → Prop} (hK : vx_Back l R p e below s args y 3 W9 Pre Post PostX)
    {b : Addr} {cellB : Cell} (hcell : T.heap[b]? = some cellB) (hobj : cellB.vm.isStatics = false) (hcls : s.vm.findClass C = some cellB.cls)
    {g : JFrame} (hg : g.method = m) (hsize : g.locals.size = c.maxLocals) {argsL rest : List Value} (hlen : ∀ sig, parseMethodDescriptor y.desc = some sig → argsL.length = sig.parameters.length)
    (hstack : g.stack = argsL.reverse ++ .ref b :: rest) (hW : 2 * g.monitorRoom + (rest.map fun v => v.category).sum ≤ W9) (hdg : decode c.code g.pc = .ok (.invokevirtual index, 3))
    (hpre : ∀ vm₁, s.WarmedH vm₁ → Pre ⟨T.setVm vm₁, locs, cells, slots⟩ (Value.ref b :: argsL).toArray) :
    (∃ (v : Option Value) (vm₁ : Vm) (B : Pt), s.WarmedH vm₁ ∧ Stand p l e R s m args below meth c B.U B.locs B.cells B.slots ∧ Post ⟨T.setVm vm₁, locs, cells, slots⟩ (Value.ref b :: argsL).toArray v B ∧
      ∀ target, Steps p.tables e below (B.U.setTop { g with pc := g.pc + 3, stack := v.toList ++ rest }) target → Steps p.tables e below (T.setTop g) target) ∨
    (∃ (q : Addr) (vm₁ : Vm) (B : Pt), s.WarmedH vm₁ ∧ Stand p l e R s m args below meth c B.U B.locs B.cells B.slots ∧ PostX ⟨T.setVm vm₁, locs, cells, slots⟩ (Value.ref b :: argsL).toArray q B ∧
      Steps p.tables e below (T.setTop g) ((B.U.setTop { g with stack := rest }).pushFrame (.throwing q))) := by
  obtain ⟨mk, methM, hnamed, hmethM, hstM, habM⟩ := Cond.instanceMethod_spec hinst
  obtain ⟨m8, methM', cM, hn8, hmethM', -, -, -, -, -, -, hsigM⟩ := Cond.codeWith_spec hcode
  cases Option.some.inj (hn8.symm.trans hnamed)
  cases hmethM.symm.trans hmethM'
  obtain ⟨c2, r2, m2, q1, q2, q3, q4, kP, hkP, hkPi⟩ := Cond.selects_spec hsel
  cases hcls.symm.trans q1
  cases (State.methodFound?_of_named hnamed hy).symm.trans q2
  cases hnamed.symm.trans q3
  have hselP : selectMethod e.platform s.vm cellB.cls mk = .method mk := by rw [Launch.admits_selectMethod X.admits]; exact q4
  obtain ⟨vm₁, X₁, hstep₁⟩ := X.invokevirtual hexec hown hlink hnamed hmethM hstM hkP hkPi hy (a := b) (cell := cellB) hcell
    (fun z h => by rw [h] at hobj; cases hobj) hselP hmethM habM hkP hkPi (g := g) hg (argsL := argsL) (rest := rest) (hlen _ hsigM) hstack hdg
  rcases hK m meth c ⟨T.setVm vm₁, locs, cells, slots⟩ { g with stack := rest } (.invokevirtual index) mk (Value.ref b :: argsL).toArray X₁ hg hsize hdg hW (X₁.named hnamed) (hpre vm₁ X₁.warmed) with ⟨v, B, X', hpost, hsteps⟩ | ⟨q, B, X', hpost, hsteps⟩
  · exact Or.inl ⟨v, vm₁, B, X₁.warmed, X', hpost, fun target h => hstep₁ _ fun acts => by rw [doInvoke_state]; exact hsteps.trans h⟩
  · exact Or.inr ⟨q, vm₁, B, X₁.warmed, X', hpost, hstep₁ _ fun acts => by rw [doInvoke_state]; exact hsteps⟩
theorem vx_callSX (X : Stand p l e R s m args below meth c T locs cells slots) (hexec : p.tables.exec = Jvm.exec) {own : String} {index : Nat} {y : MethodName} {bytes : ByteArray} {maxL : Nat} {ret : Option FieldType} {hh : List (Nat × Nat × Nat × Nat)}
    (hown : s.vm.findClass own = some m.cls) (hlink : (Cond.methodLink own index y).before args s = true) (hstat : (Cond.static y).before args s = true) (hinit : (Cond.initialized y.cls).before args s = true)
    (hcode : (Cond.codeWith y bytes maxL ret hh).before args s = true) (hy : y.cls ≠ "java/lang/invoke/MethodHandle" ∧ y.cls ≠ "java/lang/invoke/VarHandle")
    {W9 : Nat} {Pre : Pt → Array Value → Prop} {Post : Pt → Array Value → Option Value → Pt → Prop} {PostX : Pt → Array Value → Addr → Pt → Prop} (hK : vx_Back l R p e below s args y 3 W9 Pre Post PostX)
    {g : JFrame} (hg : g.method = m) (hsize : g.locals.size = c.maxLocals) {argsL rest : List Value} (hlen : ∀ sig, parseMethodDescriptor y.desc = some sig → argsL.length = sig.parameters.length)
    (hstack : g.stack = argsL.reverse ++ rest) (hW : 2 * g.monitorRoom + (rest.map fun v => v.category).sum ≤ W9) (hdg : decode c.code g.pc = .ok (.invokestatic index, 3))
    (hpre : ∀ vm₁, s.WarmedH vm₁ → Pre ⟨T.setVm vm₁, locs, cells, slots⟩ argsL.toArray) :
    (∃ (v : Option Value) (vm₁ : Vm) (B : Pt), s.WarmedH vm₁ ∧ Stand p l e R s m args below meth c B.U B.locs B.cells B.slots ∧ Post ⟨T.setVm vm₁, locs, cells, slots⟩ argsL.toArray v B ∧
      ∀ target, Steps p.tables e below (B.U.setTop { g with pc := g.pc + 3, stack := v.toList ++ rest }) target → Steps p.tables e below (T.setTop g) target) ∨
    (∃ (q : Addr) (vm₁ : Vm) (B : Pt), s.WarmedH vm₁ ∧ Stand p l e R s m args below meth c B.U B.locs B.cells B.slots ∧ PostX ⟨T.setVm vm₁, locs, cells, slots⟩ argsL.toArray q B ∧
      Steps p.tables e below (T.setTop g) ((B.U.setTop { g with stack := rest }).pushFrame (.throwing q))) := by
  obtain ⟨mk, methM, cM, hnamed, hmethM, -, -, -, -, -, -, hsigM⟩ := Cond.codeWith_spec hcode
  have hstatic : methM.isStatic = true := Cond.static_spec hnamed hmethM hstat
  obtain ⟨kP, hkP, -⟩ := className_of_methodNamed hnamed
  have hinitP : kP.init = .initialized := Cond.initialized_spec (findClass_of_methodNamed hnamed) hkP hinit
  obtain ⟨vm₁, X₁, hstep₁⟩ := X.invokestatic hexec hown hlink hnamed hmethM hstatic hkP hinitP hy (g := g) hg (argsL := argsL) (rest := rest) (hlen _ hsigM) hstack hdg
  rcases hK m meth c ⟨T.setVm vm₁, locs, cells, slots⟩ { g with stack := rest } (.invokestatic index) mk argsL.toArray X₁ hg hsize hdg hW (X₁.named hnamed) (hpre vm₁ X₁.warmed) with ⟨v, B, X', hpost, hsteps⟩ | ⟨q, B, X', hpost, hsteps⟩
  · exact Or.inl ⟨v, vm₁, B, X₁.warmed, X', hpost, fun target h => hstep₁ _ fun acts => by rw [doInvoke_state]; exact hsteps.trans h⟩
  · exact Or.inr ⟨q, vm₁, B, X₁.warmed, X', hpost, hstep₁ _ fun acts => by rw [doInvoke_state]; exact hsteps⟩
theorem vx_callVW (X : Stand p l e R s m args below meth c T locs cells slots) (hexec : p.tables.exec = Jvm.exec) {own C : String} {index : Nat} {y : MethodName} {bytes : ByteArray} {maxL : Nat} {ret : Option FieldType} {hh : List (Nat × Nat × Nat × Nat)}
    (hown : s.vm.findClass own = some m.cls) (hlink : (Cond.methodLink own index y).before args s = true) (hinst : (Cond.instanceMethod y).before args s = true) (hsel : (Cond.selects C y y).before args s = true)
    (hcode : (Cond.codeWith y bytes maxL ret hh).before args s = true) (hy : y.cls ≠ "java/lang/invoke/MethodHandle" ∧ y.cls ≠ "java/lang/invoke/VarHandle")
    {W9 : Nat} {Pre : Pt → Array Value → Prop} {Post : Pt → Array Value → Option Value → Pt → Prop} (hK : Back l R p e below s args y 3 W9 Pre Post)
    {b : Addr} {cellB : Cell} (hcell : T.heap[b]? = some cellB) (hobj : cellB.vm.isStatics = false) (hcls : s.vm.findClass C = some cellB.cls)
    {g : JFrame} (hg : g.method = m) (hsize : g.locals.size = c.maxLocals) {argsL rest : List Value} (hlen : ∀ sig, parseMethodDescriptor y.desc = some sig → argsL.length = sig.parameters.length)
    (hstack : g.stack = argsL.reverse ++ .ref b :: rest) (hW : 2 * g.monitorRoom + (rest.map fun v => v.category).sum ≤ W9) (hdg : decode c.code g.pc = .ok (.invokevirtual index, 3))
    (hpre : ∀ vm₁, s.WarmedH vm₁ → Pre ⟨T.setVm vm₁, locs, cells, slots⟩ (Value.ref b :: argsL).toArray) :
    ∃ (v : Option Value) (vm₁ : Vm) (B : Pt), s.WarmedH vm₁ ∧ Stand p l e R s m args below meth c B.U B.locs B.cells B.slots ∧ Post ⟨T.setVm vm₁, locs, cells, slots⟩ (Value.ref b :: argsL).toArray v B ∧
      ∀ target, Steps p.tables e below (B.U.setTop { g with pc := g.pc + 3, stack := v.toList ++ rest }) target → Steps p.tables e below (T.setTop g) target := by
  obtain ⟨mk, methM, hnamed, hmethM, hstM, habM⟩ := Cond.instanceMethod_spec hinst
  obtain ⟨m8, methM', cM, hn8, hmethM', -, -, -, -, -, -, hsigM⟩ := Cond.codeWith_spec hcode
  cases Option.some.inj (hn8.symm.trans hnamed)
  cases hmethM.symm.trans hmethM'
  obtain ⟨c2, r2, m2, q1, q2, q3, q4, kP, hkP, hkPi⟩ := Cond.selects_spec hsel
  cases hcls.symm.trans q1
  cases (State.methodFound?_of_named hnamed hy).symm.trans q2
  cases hnamed.symm.trans q3
  have hselP : selectMethod e.platform s.vm cellB.cls mk = .method mk := by rw [Launch.admits_selectMethod X.admits]; exact q4
  obtain ⟨vm₁, X₁, hstep₁⟩ := X.invokevirtual hexec hown hlink hnamed hmethM hstM hkP hkPi hy (a := b) (cell := cellB) hcell
    (fun z h => by rw [h] at hobj; cases hobj) hselP hmethM habM hkP hkPi (g := g) hg (argsL := argsL) (rest := rest) (hlen _ hsigM) hstack hdg
  obtain ⟨v, B, X', hpost, hsteps⟩ := hK m meth c ⟨T.setVm vm₁, locs, cells, slots⟩ { g with stack := rest } (.invokevirtual index) mk (Value.ref b :: argsL).toArray X₁ hg hsize hdg hW (X₁.named hnamed) (hpre vm₁ X₁.warmed)
  exact ⟨v, vm₁, B, X₁.warmed, X', hpost, fun target h => hstep₁ _ fun acts => by rw [doInvoke_state]; exact hsteps.trans h⟩
abbrev vx_CVW (R : Room) (s : State) (args : Array Value) (own C : String) (index : Nat) (y : MethodName) (bytes : ByteArray) (maxL : Nat) (ret : Option FieldType) (hh : List (Nat × Nat × Nat × Nat)) (ws : List Cond) (rm : Room) (mc ms n : Nat) : Prop :=
  (rm.cells = mc ∧ rm.slots = ms ∧ rm.frames + 1 ≤ R.frames ∧ 8 + (maxL + 11) + rm.locals ≤ R.locals ∧ (∀ w ∈ ws, ∀ (a' : Array Value) (U : State), s.WarmedH U.vm → w.before a' U = true) ∧ Cond.codeWith y bytes maxL ret hh ∈ ws) ∧
  (Cond.codeWith y bytes maxL ret hh).before args s = true ∧ (Cond.initialized y.cls).before args s = true ∧ (y.cls ≠ "java/lang/invoke/MethodHandle" ∧ y.cls ≠ "java/lang/invoke/VarHandle") ∧
  (∀ sig, parseMethodDescriptor y.desc = some sig → n = sig.parameters.length) ∧ (Cond.methodLink own index y).before args s = true ∧ (Cond.instanceMethod y).before args s = true ∧ (Cond.selects C y y).before args s = true
theorem vx_cwVW {own C : String} {index maxL mc ms : Nat} {y : MethodName} {bytes : ByteArray} {ret : Option FieldType} {hh : List (Nat × Nat × Nat × Nat)} {Ts ws ws' : List Cond} {rm : Room} (n : Nat) (ht : ∀ w ∈ Ts, w.before args s = true) (hT : GoodIn Ts (wsV own index C y ws)) (hw : ws = Cond.codeWith y bytes maxL ret hh :: ws') (hrc : rm.cells = mc) (hrs : rm.slots = ms)
    (hd : y.cls = C ∧ y.cls ≠ "java/lang/invoke/MethodHandle" ∧ y.cls ≠ "java/lang/invoke/VarHandle" ∧ (parseMethodDescriptor y.desc).map (fun d => d.parameters.length) = some n) (hR : rm.frames + 1 ≤ R.frames ∧ 8 + (maxL + 11) + rm.locals ≤ R.locals) :
    vx_CVW R s args own C index y bytes maxL ret hh ws rm mc ms n := by
  obtain ⟨hC, hd⟩ := hd
  subst hC
  have ok : ∀ w ∈ wsV own index y.cls y ws, w.before args s = true := fun w h => ht w (hT w h).1
  have hG : GoodIn Ts ws := fun w h => hT w (by unfold wsV; exact List.mem_append_right _ h)
  have hc : Cond.codeWith y bytes maxL ret hh ∈ ws := by rw [hw]; exact List.mem_cons_self
  refine ⟨⟨hrc, hrs, hR.1, hR.2, pay_in ht hG, hc⟩, ht _ (hG _ hc).1, ok _ (by simp [wsV]), ⟨hd.1, hd.2.1⟩, fun sig h => ?_, ok _ (by simp [wsV]), ok _ (by simp [wsV]), ok _ (by simp [wsV])⟩
  have h2 := hd.2.2
  rw [h] at h2
  exact (Option.some.inj h2).symm
theorem vx_runVW {y : MethodName} {bytes cc : ByteArray} {maxL nL mc ms n index : Nat} {ret : Option FieldType} {hh : List (Nat × Nat × Nat × Nat)} {ws : List Cond} {rm : Room} {Pc : Array Value → State → Prop} {Qc : Array Value → State → Outcome → State → Prop} {free : Addr → Prop} {Ts : List Cond} {own C : String} {b : Addr} {As rest : List Value} {g : JFrame}
    (S : CallFix p m c cc nL s args Ts own) (hM : Met l y ws rm Pc Qc mc ms free) (cw : vx_CVW R s args own C index y bytes maxL ret hh ws rm mc ms n) (hp : PreV s H C b Pc As)
    (hg : g.method = m) (hn : As.length = n) (hsize : g.locals.size = nL) (hstack : g.stack = As.reverse ++ .ref b :: rest) (hW : 2 * g.monitorRoom + (rest.map fun v => v.category).sum ≤ 8) (hdg : decode cc g.pc = .ok (.invokevirtual index, 3)) (hf : cells + mc ≤ R.cells ∧ slots + ms ≤ R.slots) :
    va_Run p l e R s m args below meth c H locs cells slots mc ms g rest (Qc (Value.ref b :: As).toArray) free := by
  obtain ⟨⟨hrc, hrs, hfr, hlo, hws, hcw⟩, hcode, hini, hy, hlen, hl, hin, hse⟩ := cw
  have hK : Back l R p e below s args y 3 8 (PreOf R mc ms Pc) (PostOf Qc mc ms free) := va_backW (hh := hh) (bytes := bytes) (maxL := maxL) (ret := ret) hM hp.1 hrc hrs hfr hlo hws hcw (fun a' U hW => word_at hW (Or.inl (by first | rfl | simp [Cond.onTables, Cond.keeps, Cond.steady])) hini)
  obtain ⟨hx, hb, hml, ho, -⟩ := S
  obtain ⟨-, ⟨cellB, hcB, hoB, hclB⟩, hPc⟩ := hp
  intro T hT X
  obtain ⟨v, vm₁, ⟨U', l2, c2, s2⟩, hW₁, X', ⟨g', mk, t, L, e1, e2, hq, h1, hL, h2, h3⟩, st⟩ := vx_callVW X hx (C := C) (hh := hh) (bytes := bytes) (maxL := maxL) (ret := ret) ho hl hin hse hcode hy hK (by rw [hT]; exact hcB) hoB hclB hg (hsize.trans hml.symm) (argsL := As) (rest := rest) (fun sig h => hn.trans (hlen sig h)) hstack hW (by rw [hb]; exact hdg)
    (fun vm₁ hW₁ => ⟨hf.1, hf.2, hPc (T.setVm vm₁) hT hW₁⟩)
  dsimp only [Pt.U, Pt.locs, Pt.cells, Pt.slots] at X' e1 e2 h1 h2 h3 st
  subst h1; subst h2; subst h3
  exact ⟨v, (T.setVm vm₁).calling g' mk (Value.ref b :: As).toArray, t, U', L, hT, X', hL, e1, e2, hq, st⟩
section
variable {y : MethodName} {bytes cc : ByteArray} {maxL nL mc ms n index : Nat} {ret : Option FieldType} {ws : List Cond} {rm : Room} {Pc : Array Value → State → Prop} {Qc : Array Value → State → Outcome → State → Prop} {XC : String → State → State → Prop} {free : Addr → Prop} {Ts : List Cond} {own C : String} {b : Addr} {As rest : List Value} {g : JFrame}
theorem vx_runVX {hh : List (Nat × Nat × Nat × Nat)} (S : CallFix p m c cc nL s args Ts own) (hM : vx_Met l y ws rm Pc Qc XC mc ms free) (cw : vx_CVW R s args own C index y bytes maxL ret hh ws rm mc ms n) (hp : PreV s H C b Pc As)
    (hg : g.method = m) (hn : As.length = n) (hsize : g.locals.size = nL) (hstack : g.stack = As.reverse ++ .ref b :: rest) (hW : 2 * g.monitorRoom + (rest.map fun v => v.category).sum ≤ 8) (hdg : decode cc g.pc = .ok (.invokevirtual index, 3)) (hf : cells + mc ≤ R.cells ∧ slots + ms ≤ R.slots) :
    vx_Run p l e R s m args below meth c H locs cells slots mc ms g rest (Qc (Value.ref b :: As).toArray) XC free := by
  obtain ⟨⟨hrc, hrs, hfr, hlo, hws, hcw⟩, hcode, hini, hy, hlen, hl, hin, hse⟩ := cw
  have hK : vx_Back l R p e below s args y 3 8 (PreOf R mc ms Pc) (PostOf Qc mc ms free) (vx_Post XC mc ms free) := vx_backW (hh := hh) (bytes := bytes) (maxL := maxL) (ret := ret) hM hp.1 hrc hrs hfr hlo hws hcw (fun a' U hW => word_at hW (Or.inl (by first | rfl | simp [Cond.onTables, Cond.keeps, Cond.steady])) hini)
  obtain ⟨hx, hb, hml, ho, -⟩ := S
  obtain ⟨-, ⟨cellB, hcB, hoB, hclB⟩, hPc⟩ := hp
  intro T hT X
  rcases vx_callVX X hx (C := C) (hh := hh) (bytes := bytes) (maxL := maxL) (ret := ret) ho hl hin hse hcode hy hK (by rw [hT]; exact hcB) hoB hclB hg (hsize.trans hml.symm) (argsL := As) (rest := rest) (fun sig h => hn.trans (hlen sig h)) hstack hW (by rw [hb]; exact hdg)
    (fun vm₁ hW₁ => ⟨hf.1, hf.2, hPc (T.setVm vm₁) hT hW₁⟩) with ⟨v, vm₁, ⟨U', l2, c2, s2⟩, hW₁, X', ⟨g', mk, t, L, e1, e2, hq, h1, hL, h2, h3⟩, st⟩ | ⟨q, vm₁, ⟨U', l2, c2, s2⟩, hW₁, X', ⟨g', mk, t, L, E, ce, e1, e2, hq, hce, hcv, hcl, h1, hL, h2, h3⟩, st⟩
  · dsimp only [Pt.U, Pt.locs, Pt.cells, Pt.slots] at X' e1 e2 h1 h2 h3 st
    subst h1; subst h2; subst h3
    exact Or.inl ⟨v, (T.setVm vm₁).calling g' mk (Value.ref b :: As).toArray, t, U', L, hT, X', hL, e1, e2, hq, st⟩
  · dsimp only [Pt.U, Pt.locs, Pt.cells, Pt.slots] at X' e1 e2 h1 h2 h3 st hcl
    subst h1; subst h2; subst h3
    exact Or.inr ⟨q, (T.setVm vm₁).calling g' mk (Value.ref b :: As).toArray, t, U', L, E, ce, hT, X', hL, e1, e2, hq, hce, hcv, vx_cls hW₁ hcl, st⟩
theorem vx_runSX {hh : List (Nat × Nat × Nat × Nat)} (S : CallFix p m c cc nL s args Ts own) (hM : vx_Met l y ws rm Pc Qc XC mc ms free) (cw : vx_CSW R s args own index y bytes maxL ret hh ws rm mc ms n) (hp : PreS s H Pc As)
    (hg : g.method = m) (hn : As.length = n) (hsize : g.locals.size = nL) (hstack : g.stack = As.reverse ++ rest) (hW : 2 * g.monitorRoom + (rest.map fun v => v.category).sum ≤ 8) (hdg : decode cc g.pc = .ok (.invokestatic index, 3)) (hf : cells + mc ≤ R.cells ∧ slots + ms ≤ R.slots) :
    vx_Run p l e R s m args below meth c H locs cells slots mc ms g rest (Qc As.toArray) XC free := by
  obtain ⟨⟨hrc, hrs, hfr, hlo, hws, hcw⟩, hcode, hini, hy, hlen, hl, hstt⟩ := cw
  have hK : vx_Back l R p e below s args y 3 8 (PreOf R mc ms Pc) (PostOf Qc mc ms free) (vx_Post XC mc ms free) := vx_backW (hh := hh) (bytes := bytes) (maxL := maxL) (ret := ret) hM hp.1 hrc hrs hfr hlo hws hcw (fun a' U hW => word_at hW (Or.inl (by first | rfl | simp [Cond.onTables, Cond.keeps, Cond.steady])) hini)
  obtain ⟨hx, hb, hml, ho, -⟩ := S
  intro T hT X
  rcases vx_callSX X hx (hh := hh) (bytes := bytes) (maxL := maxL) (ret := ret) ho hl hstt hini hcode hy hK hg (hsize.trans hml.symm) (argsL := As) (rest := rest) (fun sig h => hn.trans (hlen sig h)) hstack hW (by rw [hb]; exact hdg)
    (fun vm₁ hW₁ => ⟨hf.1, hf.2, hp.2 (T.setVm vm₁) hT hW₁⟩) with ⟨v, vm₁, ⟨U', l2, c2, s2⟩, hW₁, X', ⟨g', mk, t, L, e1, e2, hq, h1, hL, h2, h3⟩, st⟩ | ⟨q, vm₁, ⟨U', l2, c2, s2⟩, hW₁, X', ⟨g', mk, t, L, E, ce, e1, e2, hq, hce, hcv, hcl, h1, hL, h2, h3⟩, st⟩
  · dsimp only [Pt.U, Pt.locs, Pt.cells, Pt.slots] at X' e1 e2 h1 h2 h3 st
    subst h1; subst h2; subst h3
    exact Or.inl ⟨v, (T.setVm vm₁).calling g' mk As.toArray, t, U', L, hT, X', hL, e1, e2, hq, st⟩
  · dsimp only [Pt.U, Pt.locs, Pt.cells, Pt.slots] at X' e1 e2 h1 h2 h3 st hcl
    subst h1; subst h2; subst h3
    exact Or.inr ⟨q, (T.setVm vm₁).calling g' mk As.toArray, t, U', L, E, ce, hT, X', hL, e1, e2, hq, hce, hcv, vx_cls hW₁ hcl, st⟩
end
end VXH
theorem vx_ofWH {l : Launch} {y : MethodName} {ws ws' : List Cond} {rm : Room} {Pc : Array Value → State → Prop} {Qc : Array Value → State → Outcome → State → Prop} {XC : String → State → State → Prop} {mc ms : Nat} {free : Addr → Prop} {cc : ByteArray} {maxL : Nat} {ret : Option FieldType} {hh : List (Nat × Nat × Nat × Nat)}
    (hy : plainName y.cls = true) (hw : ws = Cond.codeWith y cc maxL ret hh :: ws')
    (body : ∀ p e s m args below meth c s₁, BodyLoose p l y (headSpec ws rm) cc maxL ret e s m args below meth c s₁ → c.maxLocals = maxL → Pc args s →
      W p l e (headSpec ws rm).room s m args below meth c s.heap [] 0 0 (vx_MQ below Qc XC args s mc ms free) (entryFrame m args maxL)) : vx_Met l y ws rm Pc Qc XC mc ms free := by
  refine MetFree.of_bodyS (code := cc) (maxLocals := maxL) (ret := ret) hy ?_ ?_
  · intro args s m h hn
    obtain ⟨m9, meth, c, hn9, h1, h2, h3, h4, -, h5, h6, -⟩ := Cond.codeWith_spec (atoms_spec (ws := ws) h _ (by rw [hw]; exact List.mem_cons_self))
    cases hn.symm.trans hn9
    exact ⟨meth, c, h1, h2, h3, h4, h5, h6⟩
  · intro p e s m args below meth c s₁ B hml hP _
    have hh0 : s₁.heap = s.heap := by rw [B.state]; rfl
    obtain ⟨t, a1, o, b1, b2, b3⟩ := body p e s m args below meth c s₁ B hml hP s₁ hh0 (Stand.of_body B)
    exact ⟨t, o, a1, b1, b2, b3⟩
/-! ===== END ===== -/
end
section
def RX0 : String := "BitRows$Row"
def RX1 : String := "BitRows$Track"
def RX2 : String := "BitRows"
def RX3 : String := "BitRowsModel"
def RL : String := "BitRowsLaw"
def RJ7 : String := "java/util/Arrays"
def TX0 : u_T := fun k => match k with
  | 0 => ("BitRows$Row", "lowFirst", "Z", true)
  | 1 => ("BitRows$Row", "bytes", "[I", true)
  | _ => ("BitRows$Row", "count", "I", false)
def tyX0 : Nat → FieldType := fun k => match k with
  | 0 => .boolean
  | 1 => .array .int
  | _ => .int
theorem nmX0 : ∀ a, a < 3 → ∀ b, b < 3 → a ≠ b → (TX0 a).2.1 ≠ (TX0 b).2.1 := by decide +kernel
theorem tyX0_ok : ∀ k, k < 3 → parseFieldDescriptor (TX0 k).2.2.1 = some (tyX0 k) := by decide +kernel
def TX1 : u_T := fun k => match k with
  | 0 => ("BitRows$Track", "row", "LBitRows$Row;", true)
  | 1 => ("BitRows$Track", "stuffing", "I", true)
  | 2 => ("BitRows$Track", "stuffedInByte", "I", true)
  | 3 => ("BitRows$Track", "place", "I", false)
  | 4 => ("BitRows$Track", "stuffed", "I", false)
  | 5 => ("BitRows$Track", "ones", "I", false)
  | _ => ("BitRows$Track", "markEnd", "I", false)
def tyX1 : Nat → FieldType := fun k => match k with
  | 0 => .object "BitRows$Row"
  | 1 => .int
  | 2 => .int
  | 3 => .int
  | 4 => .int
  | 5 => .int
  | _ => .int
theorem nmX1 : ∀ a, a < 7 → ∀ b, b < 7 → a ≠ b → (TX1 a).2.1 ≠ (TX1 b).2.1 := by decide +kernel
theorem tyX1_ok : ∀ k, k < 7 → parseFieldDescriptor (TX1 k).2.2.1 = some (tyX1 k) := by decide +kernel
def TX2 : u_T := fun k => match k with
  | 0 => ("BitRows", "stuffing", "I", true)
  | 1 => ("BitRows", "lowFirst", "Z", true)
  | 2 => ("BitRows", "stuffsAtOnce", "Z", true)
  | 3 => ("BitRows", "written", "LBitRows$Row;", true)
  | 4 => ("BitRows", "writing", "LBitRows$Track;", true)
  | 5 => ("BitRows", "came", "LBitRows$Row;", true)
  | 6 => ("BitRows", "reading", "LBitRows$Track;", true)
  | _ => ("BitRows", "bad", "Z", false)
def tyX2 : Nat → FieldType := fun k => match k with
  | 0 => .int
  | 1 => .boolean
  | 2 => .boolean
  | 3 => .object "BitRows$Row"
  | 4 => .object "BitRows$Track"
  | 5 => .object "BitRows$Row"
  | 6 => .object "BitRows$Track"
  | _ => .boolean
theorem nmX2 : ∀ a, a < 8 → ∀ b, b < 8 → a ≠ b → (TX2 a).2.1 ≠ (TX2 b).2.1 := by decide +kernel
theorem tyX2_ok : ∀ k, k < 8 → parseFieldDescriptor (TX2 k).2.2.1 = some (tyX2 k) := by decide +kernel
def TX3 : u_T := fun k => match k with
  | 0 => ("BitRowsModel", "thrown", "I", false)
  | 1 => ("BitRowsModel", "stuffing", "I", true)
  | 2 => ("BitRowsModel", "low", "Z", true)
  | 3 => ("BitRowsModel", "bits", "[Z", true)
  | 4 => ("BitRowsModel", "written", "I", false)
  | 5 => ("BitRowsModel", "stuffed", "I", false)
  | 6 => ("BitRowsModel", "ones", "I", false)
  | 7 => ("BitRowsModel", "after", "Z", false)
  | 8 => ("BitRowsModel", "came", "[I", true)
  | 9 => ("BitRowsModel", "cameCount", "I", false)
  | 10 => ("BitRowsModel", "read", "I", false)
  | 11 => ("BitRowsModel", "readStuffed", "I", false)
  | 12 => ("BitRowsModel", "readOnes", "I", false)
  | 13 => ("BitRowsModel", "readAfter", "Z", false)
  | 14 => ("BitRowsModel", "bad", "Z", false)
  | 15 => ("BitRowsModel", "tried", "I", false)
  | 16 => ("BitRowsModel", "triedStuffed", "I", false)
  | 17 => ("BitRowsModel", "triedOnes", "I", false)
  | _ => ("BitRowsModel", "triedAfter", "Z", false)
def tyX3 : Nat → FieldType := fun k => match k with
  | 0 => .int
  | 1 => .int
  | 2 => .boolean
  | 3 => .array .boolean
  | 4 => .int
  | 5 => .int
  | 6 => .int
  | 7 => .boolean
  | 8 => .array .int
  | 9 => .int
  | 10 => .int
  | 11 => .int
  | 12 => .int
  | 13 => .boolean
  | 14 => .boolean
  | 15 => .int
  | 16 => .int
  | 17 => .int
  | _ => .boolean
theorem nmX3 : ∀ a, a < 19 → ∀ b, b < 19 → a ≠ b → (TX3 a).2.1 ≠ (TX3 b).2.1 := by decide +kernel
theorem tyX3_ok : ∀ k, k < 19 → parseFieldDescriptor (TX3 k).2.2.1 = some (tyX3 k) := by decide +kernel
abbrev cX2_init : ByteArray := prog_1_method_1_code
def yX2_init : MethodName := ⟨RX2, "<init>", "(II)V"⟩
abbrev cX0_init : ByteArray := prog_2_method_1_code
def yX0_init : MethodName := ⟨RX0, "<init>", "(Z)V"⟩
abbrev cX1_init : ByteArray := prog_3_method_1_code
def yX1_init : MethodName := ⟨RX1, "<init>", "(LBitRows$Row;IZ)V"⟩
abbrev cX2_skip : ByteArray := prog_1_method_10_code
def yX2_skip : MethodName := ⟨RX2, "skip", "()I"⟩
abbrev cX1_isAligned : ByteArray := prog_3_method_6_code
def yX1_isAligned : MethodName := ⟨RX1, "isAligned", "()Z"⟩
abbrev cX1_isAtByte : ByteArray := prog_3_method_5_code
def yX1_isAtByte : MethodName := ⟨RX1, "isAtByte", "()Z"⟩
abbrev cX1_isBehindFullByte : ByteArray := prog_3_method_11_code
def yX1_isBehindFullByte : MethodName := ⟨RX1, "isBehindFullByte", "()Z"⟩
abbrev cX0_byteOf : ByteArray := prog_2_method_3_code
def yX0_byteOf : MethodName := ⟨RX0, "byteOf", "(I)I"⟩
abbrev cX1_isStuffedDue : ByteArray := prog_3_method_7_code
def yX1_isStuffedDue : MethodName := ⟨RX1, "isStuffedDue", "()Z"⟩
abbrev cX1_stepOverStuffed : ByteArray := prog_3_method_9_code
def yX1_stepOverStuffed : MethodName := ⟨RX1, "stepOverStuffed", "()V"⟩
abbrev cX0_bitOf : ByteArray := prog_2_method_5_code
def yX0_bitOf : MethodName := ⟨RX0, "bitOf", "(I)I"⟩
abbrev cX0_shiftInByte : ByteArray := prog_2_method_10_code
def yX0_shiftInByte : MethodName := ⟨RX0, "shiftInByte", "(I)I"⟩
abbrev cX1_stepOver : ByteArray := prog_3_method_8_code
def yX1_stepOver : MethodName := ⟨RX1, "stepOver", "(I)V"⟩
abbrev cX2_take : ByteArray := prog_1_method_11_code
def yX2_take : MethodName := ⟨RX2, "take", "()I"⟩
abbrev cX0_isMarkAt : ByteArray := prog_2_method_7_code
def yX0_isMarkAt : MethodName := ⟨RX0, "isMarkAt", "(I)Z"⟩
abbrev cX1_stepOverMark : ByteArray := prog_3_method_10_code
def yX1_stepOverMark : MethodName := ⟨RX1, "stepOverMark", "()V"⟩
abbrev cX2_told : ByteArray := prog_1_method_14_code
def yX2_told : MethodName := ⟨RX2, "told", "(I)I"⟩
abbrev cX2_clear : ByteArray := prog_1_method_15_code
def yX2_clear : MethodName := ⟨RX2, "clear", "()V"⟩
abbrev cX0_empty : ByteArray := prog_2_method_2_code
def yX0_empty : MethodName := ⟨RX0, "empty", "()V"⟩
abbrev cJ7_fill : ByteArray := prog_15_method_103_code
def yJ7_fill : MethodName := ⟨RJ7, "fill", "([II)V"⟩
abbrev cX1_goToStart : ByteArray := prog_3_method_2_code
def yX1_goToStart : MethodName := ⟨RX1, "goToStart", "()V"⟩
abbrev cX1_goBack : ByteArray := prog_3_method_3_code
def yX1_goBack : MethodName := ⟨RX1, "goBack", "(III)V"⟩
abbrev cL_cell : ByteArray := method_2_code
def yL_cell : MethodName := ⟨RL, "cell", "([II)I"⟩
abbrev cL_put : ByteArray := method_3_code
def yL_put : MethodName := ⟨RL, "put", "(LBitRows;II[J)I"⟩
abbrev cX2_put : ByteArray := prog_1_method_2_code
def yX2_put : MethodName := ⟨RX2, "put", "(II)I"⟩
abbrev cX2_refuseOtherWidths : ByteArray := prog_1_method_16_code
def yX2_refuseOtherWidths : MethodName := ⟨RX2, "refuseOtherWidths", "(I)V"⟩
abbrev cX2_refuseToOverfill : ByteArray := prog_1_method_17_code
def yX2_refuseToOverfill : MethodName := ⟨RX2, "refuseToOverfill", "(I)V"⟩
abbrev cX2_writeStuffedIfDue : ByteArray := prog_1_method_21_code
def yX2_writeStuffedIfDue : MethodName := ⟨RX2, "writeStuffedIfDue", "()V"⟩
abbrev cX0_setBit : ByteArray := prog_2_method_6_code
def yX0_setBit : MethodName := ⟨RX0, "setBit", "(II)V"⟩
abbrev cX2_shiftOf : ByteArray := prog_1_method_19_code
def yX2_shiftOf : MethodName := ⟨RX2, "shiftOf", "(II)I"⟩
abbrev cX2_writeBit : ByteArray := prog_1_method_20_code
def yX2_writeBit : MethodName := ⟨RX2, "writeBit", "(I)V"⟩
abbrev cL_align : ByteArray := method_4_code
def yL_align : MethodName := ⟨RL, "align", "(LBitRows;[J)I"⟩
abbrev cX2_align : ByteArray := prog_1_method_3_code
def yX2_align : MethodName := ⟨RX2, "align", "()I"⟩
abbrev cX2_writeTillAligned : ByteArray := prog_1_method_22_code
def yX2_writeTillAligned : MethodName := ⟨RX2, "writeTillAligned", "()I"⟩
abbrev cL_mark : ByteArray := method_5_code
def yL_mark : MethodName := ⟨RL, "mark", "(LBitRows;I[J)I"⟩
abbrev cX2_mark : ByteArray := prog_1_method_4_code
def yX2_mark : MethodName := ⟨RX2, "mark", "(I)I"⟩
abbrev cX0_addByte : ByteArray := prog_2_method_4_code
def yX0_addByte : MethodName := ⟨RX0, "addByte", "(I)V"⟩
abbrev cL_patch : ByteArray := method_6_code
def yL_patch : MethodName := ⟨RL, "patch", "(LBitRows;III[J)I"⟩
abbrev cX2_patch : ByteArray := prog_1_method_5_code
def yX2_patch : MethodName := ⟨RX2, "patch", "(III)I"⟩
abbrev cL_byteAt : ByteArray := method_7_code
def yL_byteAt : MethodName := ⟨RL, "byteAt", "(LBitRows;I[J)I"⟩
abbrev cX2_byteAt : ByteArray := prog_1_method_6_code
def yX2_byteAt : MethodName := ⟨RX2, "byteAt", "(I)I"⟩
abbrev cL_feed : ByteArray := method_8_code
def yL_feed : MethodName := ⟨RL, "feed", "(LBitRows;I[J)I"⟩
abbrev cX2_feed : ByteArray := prog_1_method_7_code
def yX2_feed : MethodName := ⟨RX2, "feed", "(I)I"⟩
abbrev cX2_refuseMoreBytes : ByteArray := prog_1_method_18_code
def yX2_refuseMoreBytes : MethodName := ⟨RX2, "refuseMoreBytes", "(I)V"⟩
abbrev cL_pass : ByteArray := method_9_code
def yL_pass : MethodName := ⟨RL, "pass", "(LBitRows;II[J)I"⟩
abbrev cX2_pass : ByteArray := prog_1_method_8_code
def yX2_pass : MethodName := ⟨RX2, "pass", "(II)I"⟩
abbrev cL_get : ByteArray := method_10_code
def yL_get : MethodName := ⟨RL, "get", "(LBitRows;I[J)I"⟩
abbrev cX2_get : ByteArray := prog_1_method_9_code
def yX2_get : MethodName := ⟨RX2, "get", "(I)J"⟩
abbrev cX2_readBit : ByteArray := prog_1_method_23_code
def yX2_readBit : MethodName := ⟨RX2, "readBit", "()I"⟩
abbrev cX2_meetHere : ByteArray := prog_1_method_24_code
def yX2_meetHere : MethodName := ⟨RX2, "meetHere", "()I"⟩
abbrev cX1_isWithin : ByteArray := prog_3_method_4_code
def yX1_isWithin : MethodName := ⟨RX1, "isWithin", "()Z"⟩
abbrev cX2_readStuffedIfDue : ByteArray := prog_1_method_25_code
def yX2_readStuffedIfDue : MethodName := ⟨RX2, "readStuffedIfDue", "()I"⟩
abbrev cL_find : ByteArray := method_11_code
def yL_find : MethodName := ⟨RL, "find", "(LBitRows;I[J)I"⟩
abbrev cX2_find : ByteArray := prog_1_method_12_code
def yX2_find : MethodName := ⟨RX2, "find", "(I)I"⟩
abbrev cL_sum : ByteArray := method_12_code
def yL_sum : MethodName := ⟨RL, "sum", "(LBitRows;ZIII[J)I"⟩
abbrev cX2_sum : ByteArray := prog_1_method_13_code
def yX2_sum : MethodName := ⟨RX2, "sum", "(ZIII)I"⟩
abbrev cX0_sumOf16 : ByteArray := prog_2_method_8_code
def yX0_sumOf16 : MethodName := ⟨RX0, "sumOf16", "(II)I"⟩
abbrev cX0_sumOf32 : ByteArray := prog_2_method_9_code
def yX0_sumOf32 : MethodName := ⟨RX0, "sumOf32", "(II)I"⟩
abbrev cX3_init : ByteArray := prog_5_method_1_code
def yX3_init : MethodName := ⟨RX3, "<init>", "(II)V"⟩
abbrev cX3_thrown : ByteArray := prog_5_method_2_code
def yX3_thrown : MethodName := ⟨RX3, "thrown", "()I"⟩
abbrev cX3_put : ByteArray := prog_5_method_9_code
def yX3_put : MethodName := ⟨RX3, "put", "(II)I"⟩
abbrev cX3_isIn : ByteArray := prog_5_method_3_code
def yX3_isIn : MethodName := ⟨RX3, "isIn", "(JJJ)Z"⟩
abbrev cX3_isFull : ByteArray := prog_5_method_4_code
def yX3_isFull : MethodName := ⟨RX3, "isFull", "(I)Z"⟩
abbrev cX3_putBit : ByteArray := prog_5_method_8_code
def yX3_putBit : MethodName := ⟨RX3, "putBit", "(Z)I"⟩
abbrev cX3_stuff : ByteArray := prog_5_method_7_code
def yX3_stuff : MethodName := ⟨RX3, "stuff", "()V"⟩
abbrev cX3_add : ByteArray := prog_5_method_6_code
def yX3_add : MethodName := ⟨RX3, "add", "(Z)V"⟩
abbrev cX3_byteOf : ByteArray := prog_5_method_5_code
def yX3_byteOf : MethodName := ⟨RX3, "byteOf", "(I)I"⟩
abbrev cX3_align : ByteArray := prog_5_method_11_code
def yX3_align : MethodName := ⟨RX3, "align", "()I"⟩
abbrev cX3_alignAll : ByteArray := prog_5_method_10_code
def yX3_alignAll : MethodName := ⟨RX3, "alignAll", "()I"⟩
abbrev cX3_mark : ByteArray := prog_5_method_12_code
def yX3_mark : MethodName := ⟨RX3, "mark", "(I)I"⟩
abbrev cX3_patch : ByteArray := prog_5_method_13_code
def yX3_patch : MethodName := ⟨RX3, "patch", "(III)I"⟩
abbrev cX3_byteAt : ByteArray := prog_5_method_15_code
def yX3_byteAt : MethodName := ⟨RX3, "byteAt", "(I)I"⟩
abbrev cX3_bytesWritten : ByteArray := prog_5_method_14_code
def yX3_bytesWritten : MethodName := ⟨RX3, "bytesWritten", "()I"⟩
abbrev cX3_feed : ByteArray := prog_5_method_16_code
def yX3_feed : MethodName := ⟨RX3, "feed", "(I)I"⟩
abbrev cX3_pass : ByteArray := prog_5_method_17_code
def yX3_pass : MethodName := ⟨RX3, "pass", "(II)I"⟩
abbrev cX3_get : ByteArray := prog_5_method_25_code
def yX3_get : MethodName := ⟨RX3, "get", "(I)J"⟩
abbrev cX3_beginTry : ByteArray := prog_5_method_23_code
def yX3_beginTry : MethodName := ⟨RX3, "beginTry", "()V"⟩
abbrev cX3_tryBit : ByteArray := prog_5_method_22_code
def yX3_tryBit : MethodName := ⟨RX3, "tryBit", "()I"⟩
abbrev cX3_obstacle : ByteArray := prog_5_method_21_code
def yX3_obstacle : MethodName := ⟨RX3, "obstacle", "()I"⟩
abbrev cX3_bitAt : ByteArray := prog_5_method_19_code
def yX3_bitAt : MethodName := ⟨RX3, "bitAt", "(I)I"⟩
abbrev cX3_goOn : ByteArray := prog_5_method_20_code
def yX3_goOn : MethodName := ⟨RX3, "goOn", "()V"⟩
abbrev cX3_keepTry : ByteArray := prog_5_method_24_code
def yX3_keepTry : MethodName := ⟨RX3, "keepTry", "()V"⟩
abbrev cX3_skip : ByteArray := prog_5_method_26_code
def yX3_skip : MethodName := ⟨RX3, "skip", "()I"⟩
abbrev cX3_take : ByteArray := prog_5_method_27_code
def yX3_take : MethodName := ⟨RX3, "take", "()I"⟩
abbrev cX3_isMark : ByteArray := prog_5_method_18_code
def yX3_isMark : MethodName := ⟨RX3, "isMark", "(I)Z"⟩
abbrev cX3_find : ByteArray := prog_5_method_28_code
def yX3_find : MethodName := ⟨RX3, "find", "(I)I"⟩
abbrev cX3_sum : ByteArray := prog_5_method_31_code
def yX3_sum : MethodName := ⟨RX3, "sum", "(ZIII)I"⟩
abbrev cX3_sum16 : ByteArray := prog_5_method_29_code
def yX3_sum16 : MethodName := ⟨RX3, "sum16", "(II)I"⟩
abbrev cX3_sum32 : ByteArray := prog_5_method_30_code
def yX3_sum32 : MethodName := ⟨RX3, "sum32", "(II)I"⟩
abbrev cX3_told : ByteArray := prog_5_method_32_code
def yX3_told : MethodName := ⟨RX3, "told", "(I)I"⟩
abbrev cX3_clear : ByteArray := prog_5_method_33_code
def yX3_clear : MethodName := ⟨RX3, "clear", "()V"⟩
abbrev cL_law : ByteArray := code
def yL_law : MethodName := ⟨RL, "law", "([I)Z"⟩
abbrev vwCl : List vw_C := [(RX0, TX0, 3), (RX1, TX1, 7), (RX2, TX2, 8), (RX3, TX3, 19)]
def g0 : List Cond := [(Cond.selects RX1 yX1_isBehindFullByte yX1_isBehindFullByte), (Cond.selects RX0 yX0_shiftInByte yX0_shiftInByte), (Cond.selects RX2 yX2_refuseToOverfill yX2_refuseToOverfill), (Cond.selects RX2 yX2_writeStuffedIfDue yX2_writeStuffedIfDue), (Cond.selects RX2 yX2_shiftOf yX2_shiftOf), (Cond.selects RX2 yX2_writeBit yX2_writeBit), (Cond.selects RX2 yX2_writeTillAligned yX2_writeTillAligned), (Cond.selects RX2 yX2_refuseMoreBytes yX2_refuseMoreBytes), (Cond.selects RX2 yX2_readBit yX2_readBit), (Cond.selects RX2 yX2_meetHere yX2_meetHere), (Cond.selects RX2 yX2_readStuffedIfDue yX2_readStuffedIfDue), (Cond.selects RX3 yX3_isFull yX3_isFull), (Cond.selects RX3 yX3_putBit yX3_putBit), (Cond.selects RX3 yX3_stuff yX3_stuff), (Cond.selects RX3 yX3_add yX3_add), (Cond.selects RX3 yX3_byteOf yX3_byteOf), (Cond.selects RX3 yX3_alignAll yX3_alignAll), (Cond.selects RX3 yX3_bytesWritten yX3_bytesWritten), (Cond.selects RX3 yX3_beginTry yX3_beginTry), (Cond.selects RX3 yX3_tryBit yX3_tryBit), (Cond.selects RX3 yX3_obstacle yX3_obstacle), (Cond.selects RX3 yX3_bitAt yX3_bitAt), (Cond.selects RX3 yX3_goOn yX3_goOn), (Cond.selects RX3 yX3_keepTry yX3_keepTry), (Cond.selects RX3 yX3_isMark yX3_isMark)]
def g1 : List Cond := [(Cond.initialized RL), (Cond.initialized RX2), (Cond.initialized "java/lang/Math"), (Cond.initialized RX0), (Cond.initialized RX1), (Cond.initialized RX3), (Cond.initialized "java/lang/Throwable"), (Cond.initialized "java/lang/Exception"), (Cond.initialized "java/lang/RuntimeException"), (Cond.initialized "java/lang/IllegalArgumentException"), (Cond.initialized "java/lang/UnsupportedOperationException"), (Cond.initialized "java/lang/IllegalStateException"), (Cond.initialized "java/lang/IndexOutOfBoundsException"), (Cond.initialized RJ7), (Cond.classLink RL 8 RX2), (Cond.instantiable RX2 8), (Cond.methodLink RL 59 yX2_init), (Cond.instanceMethod yX2_init), (Cond.code yX2_init prog_1_method_1_code 3 none), (Cond.methodLink RX2 1 objectInit), (Cond.instanceMethod objectInit), (Cond.code objectInit object_method_1_code 1 none), (Cond.methodLink RX2 9 ⟨"java/lang/Math", "min", "(II)I"⟩), (Cond.static ⟨"java/lang/Math", "min", "(II)I"⟩), (Cond.code ⟨"java/lang/Math", "min", "(II)I"⟩ prog_10_method_69_code 2 (some FieldType.int)), (Cond.methodLink RX2 15 ⟨"java/lang/Math", "max", "(II)I"⟩), (Cond.static ⟨"java/lang/Math", "max", "(II)I"⟩), (Cond.code ⟨"java/lang/Math", "max", "(II)I"⟩ prog_10_method_65_code 2 (some FieldType.int)), (Cond.classLink RX2 29 RX0), (Cond.instantiable RX0 3)]
def g2 : List Cond := [(Cond.methodLink RX2 31 yX0_init), (Cond.instanceMethod yX0_init), (Cond.code yX0_init prog_2_method_1_code 2 none), (Cond.methodLink RX0 3 objectInit), (Cond.fieldLink RX0 9 RX0 "lowFirst" "Z"), (Cond.fieldLink RX0 15 RX0 "bytes" "[I"), (Cond.fieldLink RX0 19 RX0 "count" "I"), (Cond.laysFinal RX0 RX0 "lowFirst" "Z"), (Cond.soleField RX0 "lowFirst"), (Cond.laysFinal RX0 RX0 "bytes" "[I"), (Cond.soleField RX0 "bytes"), (Cond.lays RX0 RX0 "count" "I"), (Cond.soleField RX0 "count"), (Cond.superclass RX0 "java/lang/Object"), (Cond.arrayClass FieldType.int), (Cond.classLink RX2 38 RX1), (Cond.instantiable RX1 7), (Cond.methodLink RX2 40 yX1_init), (Cond.instanceMethod yX1_init), (Cond.code yX1_init prog_3_method_1_code 4 none), (Cond.methodLink RX1 3 objectInit), (Cond.fieldLink RX1 9 RX1 "row" "LBitRows$Row;"), (Cond.fieldLink RX1 15 RX1 "stuffing" "I"), (Cond.fieldLink RX1 19 RX1 "stuffedInByte" "I"), (Cond.fieldLink RX1 22 RX1 "place" "I"), (Cond.fieldLink RX1 25 RX1 "stuffed" "I"), (Cond.fieldLink RX1 28 RX1 "ones" "I"), (Cond.fieldLink RX1 31 RX1 "markEnd" "I"), (Cond.laysFinal RX1 RX1 "row" "LBitRows$Row;"), (Cond.soleField RX1 "row")]
def g3 : List Cond := [(Cond.laysFinal RX1 RX1 "stuffing" "I"), (Cond.soleField RX1 "stuffing"), (Cond.laysFinal RX1 RX1 "stuffedInByte" "I"), (Cond.soleField RX1 "stuffedInByte"), (Cond.lays RX1 RX1 "place" "I"), (Cond.soleField RX1 "place"), (Cond.lays RX1 RX1 "stuffed" "I"), (Cond.soleField RX1 "stuffed"), (Cond.lays RX1 RX1 "ones" "I"), (Cond.soleField RX1 "ones"), (Cond.lays RX1 RX1 "markEnd" "I"), (Cond.soleField RX1 "markEnd"), (Cond.superclass RX1 "java/lang/Object"), (Cond.fieldLink RX2 18 RX2 "stuffing" "I"), (Cond.fieldLink RX2 22 RX2 "lowFirst" "Z"), (Cond.fieldLink RX2 26 RX2 "stuffsAtOnce" "Z"), (Cond.fieldLink RX2 34 RX2 "written" "LBitRows$Row;"), (Cond.fieldLink RX2 43 RX2 "writing" "LBitRows$Track;"), (Cond.fieldLink RX2 47 RX2 "came" "LBitRows$Row;"), (Cond.fieldLink RX2 50 RX2 "reading" "LBitRows$Track;"), (Cond.fieldLink RX2 53 RX2 "bad" "Z"), (Cond.laysFinal RX2 RX2 "stuffing" "I"), (Cond.soleField RX2 "stuffing"), (Cond.laysFinal RX2 RX2 "lowFirst" "Z"), (Cond.soleField RX2 "lowFirst"), (Cond.laysFinal RX2 RX2 "stuffsAtOnce" "Z"), (Cond.soleField RX2 "stuffsAtOnce"), (Cond.laysFinal RX2 RX2 "written" "LBitRows$Row;"), (Cond.soleField RX2 "written"), (Cond.laysFinal RX2 RX2 "writing" "LBitRows$Track;")]
def g4 : List Cond := [(Cond.soleField RX2 "writing"), (Cond.laysFinal RX2 RX2 "came" "LBitRows$Row;"), (Cond.soleField RX2 "came"), (Cond.laysFinal RX2 RX2 "reading" "LBitRows$Track;"), (Cond.soleField RX2 "reading"), (Cond.lays RX2 RX2 "bad" "Z"), (Cond.soleField RX2 "bad"), (Cond.superclass RX2 "java/lang/Object"), (Cond.methodLink RL 96 yX2_skip), (Cond.instanceMethod yX2_skip), (Cond.selects RX2 yX2_skip yX2_skip), (Cond.code yX2_skip prog_1_method_10_code 3 (some FieldType.int)), (Cond.methodLink RX2 144 yX1_isAligned), (Cond.instanceMethod yX1_isAligned), (Cond.selects RX1 yX1_isAligned yX1_isAligned), (Cond.code yX1_isAligned prog_3_method_6_code 1 (some FieldType.boolean)), (Cond.methodLink RX1 43 yX1_isAtByte), (Cond.instanceMethod yX1_isAtByte), (Cond.selects RX1 yX1_isAtByte yX1_isAtByte), (Cond.code yX1_isAtByte prog_3_method_5_code 1 (some FieldType.boolean)), (Cond.methodLink RX1 47 yX1_isBehindFullByte), (Cond.instanceMethod yX1_isBehindFullByte), (Cond.code yX1_isBehindFullByte prog_3_method_11_code 2 (some FieldType.boolean)), (Cond.methodLink RX1 50 yX0_byteOf), (Cond.instanceMethod yX0_byteOf), (Cond.selects RX0 yX0_byteOf yX0_byteOf), (Cond.code yX0_byteOf prog_2_method_3_code 2 (some FieldType.int)), (Cond.methodLink RX2 148 yX1_isStuffedDue), (Cond.instanceMethod yX1_isStuffedDue), (Cond.selects RX1 yX1_isStuffedDue yX1_isStuffedDue)]
def g5 : List Cond := [(Cond.code yX1_isStuffedDue prog_3_method_7_code 1 (some FieldType.boolean)), (Cond.methodLink RX2 151 yX1_stepOverStuffed), (Cond.instanceMethod yX1_stepOverStuffed), (Cond.selects RX1 yX1_stepOverStuffed yX1_stepOverStuffed), (Cond.code yX1_stepOverStuffed prog_3_method_9_code 1 none), (Cond.methodLink RX2 104 yX0_bitOf), (Cond.instanceMethod yX0_bitOf), (Cond.selects RX0 yX0_bitOf yX0_bitOf), (Cond.code yX0_bitOf prog_2_method_5_code 2 (some FieldType.int)), (Cond.methodLink RX0 29 yX0_byteOf), (Cond.methodLink RX0 33 yX0_shiftInByte), (Cond.instanceMethod yX0_shiftInByte), (Cond.code yX0_shiftInByte prog_2_method_10_code 2 (some FieldType.int)), (Cond.methodLink RX2 154 yX1_stepOver), (Cond.instanceMethod yX1_stepOver), (Cond.selects RX1 yX1_stepOver yX1_stepOver), (Cond.code yX1_stepOver prog_3_method_8_code 2 none), (Cond.methodLink RL 100 yX2_take), (Cond.instanceMethod yX2_take), (Cond.selects RX2 yX2_take yX2_take), (Cond.code yX2_take prog_1_method_11_code 2 (some FieldType.int)), (Cond.methodLink RX2 157 yX1_isAtByte), (Cond.methodLink RX2 160 yX0_isMarkAt), (Cond.instanceMethod yX0_isMarkAt), (Cond.selects RX0 yX0_isMarkAt yX0_isMarkAt), (Cond.code yX0_isMarkAt prog_2_method_7_code 2 (some FieldType.boolean)), (Cond.methodLink RX2 94 yX1_stepOverMark), (Cond.instanceMethod yX1_stepOverMark), (Cond.selects RX1 yX1_stepOverMark yX1_stepOverMark), (Cond.code yX1_stepOverMark prog_3_method_10_code 1 none)]
def g6 : List Cond := [(Cond.methodLink RX2 117 yX0_byteOf), (Cond.methodLink RL 111 yX2_told), (Cond.instanceMethod yX2_told), (Cond.selects RX2 yX2_told yX2_told), (Cond.code yX2_told prog_1_method_14_code 2 (some FieldType.int)), (Cond.methodLink RL 115 yX2_clear), (Cond.instanceMethod yX2_clear), (Cond.selects RX2 yX2_clear yX2_clear), (Cond.code yX2_clear prog_1_method_15_code 1 none), (Cond.methodLink RX2 176 yX0_empty), (Cond.instanceMethod yX0_empty), (Cond.selects RX0 yX0_empty yX0_empty), (Cond.code yX0_empty prog_2_method_2_code 1 none), (Cond.methodLink RX0 23 yJ7_fill), (Cond.static yJ7_fill), (Cond.code yJ7_fill prog_15_method_103_code 4 none), (Cond.methodLink RX2 179 yX1_goToStart), (Cond.instanceMethod yX1_goToStart), (Cond.selects RX1 yX1_goToStart yX1_goToStart), (Cond.code yX1_goToStart prog_3_method_2_code 1 none), (Cond.methodLink RX1 34 yX1_goBack), (Cond.instanceMethod yX1_goBack), (Cond.selects RX1 yX1_goBack yX1_goBack), (Cond.code yX1_goBack prog_3_method_3_code 4 none), (Cond.methodLink RL 53 yL_cell), (Cond.static yL_cell), (Cond.code yL_cell method_2_code 2 (some FieldType.int)), (Cond.methodLink RL 65 yL_put), (Cond.static yL_put), (Cond.codeWith yL_put method_3_code 5 (some FieldType.int) [(0, 10, 13, 13), (0, 10, 17, 15)])]
def g7 : List Cond := [(Cond.classLink RL 13 "java/lang/IllegalArgumentException"), (Cond.classLink RL 15 "java/lang/UnsupportedOperationException"), (Cond.methodLink RL 7 yX2_put), (Cond.instanceMethod yX2_put), (Cond.selects RX2 yX2_put yX2_put), (Cond.code yX2_put prog_1_method_2_code 5 (some FieldType.int)), (Cond.methodLink RX2 56 yX2_refuseOtherWidths), (Cond.static yX2_refuseOtherWidths), (Cond.code yX2_refuseOtherWidths prog_1_method_16_code 1 none), (Cond.classLink RX2 86 "java/lang/IllegalArgumentException"), (Cond.instantiable "java/lang/IllegalArgumentException" 6), (Cond.selects "java/lang/IllegalArgumentException" ⟨"java/lang/Throwable", "fillInStackTrace", "(I)Ljava/lang/Throwable;"⟩ ⟨"java/lang/Throwable", "fillInStackTrace", "(I)Ljava/lang/Throwable;"⟩), (Cond.selects "java/lang/IllegalArgumentException" ⟨"java/lang/Throwable", "fillInStackTrace", "()Ljava/lang/Throwable;"⟩ ⟨"java/lang/Throwable", "fillInStackTrace", "()Ljava/lang/Throwable;"⟩), (Cond.lays "java/lang/IllegalArgumentException" "java/lang/Throwable" "cause" "Ljava/lang/Throwable;"), (Cond.lays "java/lang/Throwable" "java/lang/Throwable" "cause" "Ljava/lang/Throwable;"), (Cond.lays "java/lang/IllegalArgumentException" "java/lang/Throwable" "stackTrace" "[Ljava/lang/StackTraceElement;"), (Cond.lays "java/lang/Throwable" "java/lang/Throwable" "stackTrace" "[Ljava/lang/StackTraceElement;"), (Cond.lays "java/lang/IllegalArgumentException" "java/lang/Throwable" "suppressedExceptions" "Ljava/util/List;"), (Cond.lays "java/lang/Throwable" "java/lang/Throwable" "suppressedExceptions" "Ljava/util/List;"), (Cond.lays "java/lang/IllegalArgumentException" "java/lang/Throwable" "detailMessage" "Ljava/lang/String;"), (Cond.lays "java/lang/Throwable" "java/lang/Throwable" "detailMessage" "Ljava/lang/String;"), (Cond.lays "java/lang/IllegalArgumentException" "java/lang/Throwable" "backtrace" "Ljava/lang/Object;"), (Cond.lays "java/lang/Throwable" "java/lang/Throwable" "backtrace" "Ljava/lang/Object;"), (Cond.fieldLink "java/lang/Throwable" 198 "java/lang/Throwable" "backtrace" "Ljava/lang/Object;"), (Cond.superclass "java/lang/Throwable" "java/lang/Object"), (Cond.instanceMethod ⟨"java/lang/Throwable", "<init>", "()V"⟩), (Cond.code ⟨"java/lang/Throwable", "<init>", "()V"⟩ prog_13_method_1_code 1 none), (Cond.methodLink "java/lang/Throwable" 1 objectInit), (Cond.fieldLink "java/lang/Throwable" 13 "java/lang/Throwable" "UNASSIGNED_STACK" "[Ljava/lang/StackTraceElement;"), (Cond.fieldLink "java/lang/Throwable" 20 "java/lang/Throwable" "SUPPRESSED_SENTINEL" "Ljava/util/List;")]
def g8 : List Cond := [(Cond.methodLink "java/lang/Throwable" 27 ⟨"java/lang/Throwable", "fillInStackTrace", "()Ljava/lang/Throwable;"⟩), (Cond.instanceMethod ⟨"java/lang/Throwable", "fillInStackTrace", "()Ljava/lang/Throwable;"⟩), (Cond.sameMethod "java/lang/Throwable" "java/lang/Throwable" "fillInStackTrace" "()Ljava/lang/Throwable;"), (Cond.selects "java/lang/IllegalStateException" ⟨"java/lang/Throwable", "fillInStackTrace", "()Ljava/lang/Throwable;"⟩ ⟨"java/lang/Throwable", "fillInStackTrace", "()Ljava/lang/Throwable;"⟩), (Cond.selects "java/lang/IndexOutOfBoundsException" ⟨"java/lang/Throwable", "fillInStackTrace", "()Ljava/lang/Throwable;"⟩ ⟨"java/lang/Throwable", "fillInStackTrace", "()Ljava/lang/Throwable;"⟩), (Cond.selects "java/lang/UnsupportedOperationException" ⟨"java/lang/Throwable", "fillInStackTrace", "()Ljava/lang/Throwable;"⟩ ⟨"java/lang/Throwable", "fillInStackTrace", "()Ljava/lang/Throwable;"⟩), (Cond.codeSync ⟨"java/lang/Throwable", "fillInStackTrace", "()Ljava/lang/Throwable;"⟩ prog_13_method_18_code 1 (some (FieldType.object "java/lang/Throwable"))), (Cond.methodLink "java/lang/Throwable" 202 ⟨"java/lang/Throwable", "fillInStackTrace", "(I)Ljava/lang/Throwable;"⟩), (Cond.instanceMethod ⟨"java/lang/Throwable", "fillInStackTrace", "(I)Ljava/lang/Throwable;"⟩), (Cond.instantiable "java/lang/Throwable" 6), (Cond.native ⟨"java/lang/Throwable", "fillInStackTrace", "(I)Ljava/lang/Throwable;"⟩), (Cond.methodLink RX2 90 ⟨"java/lang/IllegalArgumentException", "<init>", "(Ljava/lang/String;)V"⟩)]
def g9 : List Cond := [(Cond.instanceMethod ⟨"java/lang/IllegalArgumentException", "<init>", "(Ljava/lang/String;)V"⟩), (Cond.code ⟨"java/lang/IllegalArgumentException", "<init>", "(Ljava/lang/String;)V"⟩ prog_7_method_2_code 2 none), (Cond.methodLink "java/lang/IllegalArgumentException" 7 ⟨"java/lang/RuntimeException", "<init>", "(Ljava/lang/String;)V"⟩), (Cond.instanceMethod ⟨"java/lang/RuntimeException", "<init>", "(Ljava/lang/String;)V"⟩), (Cond.code ⟨"java/lang/RuntimeException", "<init>", "(Ljava/lang/String;)V"⟩ prog_11_method_2_code 2 none), (Cond.methodLink "java/lang/RuntimeException" 7 ⟨"java/lang/Exception", "<init>", "(Ljava/lang/String;)V"⟩), (Cond.instanceMethod ⟨"java/lang/Exception", "<init>", "(Ljava/lang/String;)V"⟩), (Cond.code ⟨"java/lang/Exception", "<init>", "(Ljava/lang/String;)V"⟩ prog_6_method_2_code 2 none), (Cond.methodLink "java/lang/Exception" 7 ⟨"java/lang/Throwable", "<init>", "(Ljava/lang/String;)V"⟩), (Cond.instanceMethod ⟨"java/lang/Throwable", "<init>", "(Ljava/lang/String;)V"⟩), (Cond.code ⟨"java/lang/Throwable", "<init>", "(Ljava/lang/String;)V"⟩ prog_13_method_2_code 2 none), (Cond.fieldLink "java/lang/Throwable" 31 "java/lang/Throwable" "detailMessage" "Ljava/lang/String;"), (Cond.fieldLink "java/lang/Throwable" 7 "java/lang/Throwable" "cause" "Ljava/lang/Throwable;"), (Cond.fieldLink "java/lang/Throwable" 17 "java/lang/Throwable" "stackTrace" "[Ljava/lang/StackTraceElement;"), (Cond.fieldLink "java/lang/Throwable" 24 "java/lang/Throwable" "suppressedExceptions" "Ljava/util/List;"), (Cond.soleField "java/lang/Throwable" "backtrace"), (Cond.soleField "java/lang/Throwable" "detailMessage"), (Cond.soleField "java/lang/Throwable" "cause"), (Cond.soleField "java/lang/Throwable" "stackTrace"), (Cond.lays "java/lang/IllegalArgumentException" "java/lang/Throwable" "depth" "I"), (Cond.soleField "java/lang/Throwable" "depth"), (Cond.soleField "java/lang/Throwable" "suppressedExceptions"), (Cond.superclass "java/lang/IllegalArgumentException" "java/lang/RuntimeException"), (Cond.arrayClass FieldType.byte), (Cond.methodLink RX2 60 yX2_refuseToOverfill), (Cond.instanceMethod yX2_refuseToOverfill), (Cond.code yX2_refuseToOverfill prog_1_method_17_code 2 none), (Cond.classLink RX2 184 "java/lang/UnsupportedOperationException"), (Cond.instantiable "java/lang/UnsupportedOperationException" 6), (Cond.selects "java/lang/UnsupportedOperationException" ⟨"java/lang/Throwable", "fillInStackTrace", "(I)Ljava/lang/Throwable;"⟩ ⟨"java/lang/Throwable", "fillInStackTrace", "(I)Ljava/lang/Throwable;"⟩)]
def g10 : List Cond := [(Cond.lays "java/lang/UnsupportedOperationException" "java/lang/Throwable" "cause" "Ljava/lang/Throwable;"), (Cond.lays "java/lang/UnsupportedOperationException" "java/lang/Throwable" "stackTrace" "[Ljava/lang/StackTraceElement;"), (Cond.lays "java/lang/UnsupportedOperationException" "java/lang/Throwable" "suppressedExceptions" "Ljava/util/List;"), (Cond.lays "java/lang/UnsupportedOperationException" "java/lang/Throwable" "detailMessage" "Ljava/lang/String;"), (Cond.lays "java/lang/UnsupportedOperationException" "java/lang/Throwable" "backtrace" "Ljava/lang/Object;"), (Cond.methodLink RX2 188 ⟨"java/lang/UnsupportedOperationException", "<init>", "(Ljava/lang/String;)V"⟩), (Cond.instanceMethod ⟨"java/lang/UnsupportedOperationException", "<init>", "(Ljava/lang/String;)V"⟩), (Cond.code ⟨"java/lang/UnsupportedOperationException", "<init>", "(Ljava/lang/String;)V"⟩ prog_14_method_2_code 2 none), (Cond.methodLink "java/lang/UnsupportedOperationException" 7 ⟨"java/lang/RuntimeException", "<init>", "(Ljava/lang/String;)V"⟩), (Cond.lays "java/lang/UnsupportedOperationException" "java/lang/Throwable" "depth" "I"), (Cond.superclass "java/lang/UnsupportedOperationException" "java/lang/RuntimeException"), (Cond.methodLink RX2 63 yX2_writeStuffedIfDue), (Cond.instanceMethod yX2_writeStuffedIfDue), (Cond.code yX2_writeStuffedIfDue prog_1_method_21_code 1 none), (Cond.methodLink RX2 108 yX0_setBit), (Cond.instanceMethod yX0_setBit), (Cond.selects RX0 yX0_setBit yX0_setBit), (Cond.code yX0_setBit prog_2_method_6_code 5 none), (Cond.methodLink RX0 36 ⟨"java/lang/Math", "max", "(II)I"⟩), (Cond.methodLink RX2 69 yX2_shiftOf), (Cond.instanceMethod yX2_shiftOf), (Cond.code yX2_shiftOf prog_1_method_19_code 3 (some FieldType.int)), (Cond.methodLink RX2 72 yX2_writeBit), (Cond.instanceMethod yX2_writeBit), (Cond.code yX2_writeBit prog_1_method_20_code 2 none), (Cond.methodLink RL 72 yL_align), (Cond.static yL_align), (Cond.codeWith yL_align method_4_code 3 (some FieldType.int) [(0, 8, 11, 15)]), (Cond.methodLink RL 17 yX2_align), (Cond.instanceMethod yX2_align)]
def g11 : List Cond := [(Cond.selects RX2 yX2_align yX2_align), (Cond.code yX2_align prog_1_method_3_code 1 (some FieldType.int)), (Cond.methodLink RX2 75 yX2_writeTillAligned), (Cond.instanceMethod yX2_writeTillAligned), (Cond.code yX2_writeTillAligned prog_1_method_22_code 3 (some FieldType.int)), (Cond.methodLink RL 76 yL_mark), (Cond.static yL_mark), (Cond.codeWith yL_mark method_5_code 4 (some FieldType.int) [(0, 9, 12, 25), (0, 9, 15, 13), (0, 9, 18, 15)]), (Cond.classLink RL 25 "java/lang/IllegalStateException"), (Cond.methodLink RL 21 yX2_mark), (Cond.instanceMethod yX2_mark), (Cond.selects RX2 yX2_mark yX2_mark), (Cond.code yX2_mark prog_1_method_4_code 3 (some FieldType.int)), (Cond.classLink RX2 79 "java/lang/IllegalStateException"), (Cond.instantiable "java/lang/IllegalStateException" 6), (Cond.selects "java/lang/IllegalStateException" ⟨"java/lang/Throwable", "fillInStackTrace", "(I)Ljava/lang/Throwable;"⟩ ⟨"java/lang/Throwable", "fillInStackTrace", "(I)Ljava/lang/Throwable;"⟩), (Cond.lays "java/lang/IllegalStateException" "java/lang/Throwable" "cause" "Ljava/lang/Throwable;"), (Cond.lays "java/lang/IllegalStateException" "java/lang/Throwable" "stackTrace" "[Ljava/lang/StackTraceElement;"), (Cond.lays "java/lang/IllegalStateException" "java/lang/Throwable" "suppressedExceptions" "Ljava/util/List;"), (Cond.lays "java/lang/IllegalStateException" "java/lang/Throwable" "detailMessage" "Ljava/lang/String;"), (Cond.lays "java/lang/IllegalStateException" "java/lang/Throwable" "backtrace" "Ljava/lang/Object;"), (Cond.methodLink RX2 83 ⟨"java/lang/IllegalStateException", "<init>", "(Ljava/lang/String;)V"⟩), (Cond.instanceMethod ⟨"java/lang/IllegalStateException", "<init>", "(Ljava/lang/String;)V"⟩), (Cond.code ⟨"java/lang/IllegalStateException", "<init>", "(Ljava/lang/String;)V"⟩ prog_8_method_2_code 2 none), (Cond.methodLink "java/lang/IllegalStateException" 7 ⟨"java/lang/RuntimeException", "<init>", "(Ljava/lang/String;)V"⟩), (Cond.lays "java/lang/IllegalStateException" "java/lang/Throwable" "depth" "I"), (Cond.superclass "java/lang/IllegalStateException" "java/lang/RuntimeException"), (Cond.methodLink RX2 91 yX0_addByte), (Cond.instanceMethod yX0_addByte), (Cond.selects RX0 yX0_addByte yX0_addByte)]
def g12 : List Cond := [(Cond.code yX0_addByte prog_2_method_4_code 2 none), (Cond.methodLink RL 80 yL_patch), (Cond.static yL_patch), (Cond.codeWith yL_patch method_6_code 6 (some FieldType.int) [(0, 12, 15, 25), (0, 12, 19, 13), (0, 12, 23, 31)]), (Cond.classLink RL 31 "java/lang/IndexOutOfBoundsException"), (Cond.methodLink RL 27 yX2_patch), (Cond.instanceMethod yX2_patch), (Cond.selects RX2 yX2_patch yX2_patch), (Cond.code yX2_patch prog_1_method_5_code 7 (some FieldType.int)), (Cond.classLink RX2 99 "java/lang/IndexOutOfBoundsException"), (Cond.instantiable "java/lang/IndexOutOfBoundsException" 6), (Cond.selects "java/lang/IndexOutOfBoundsException" ⟨"java/lang/Throwable", "fillInStackTrace", "(I)Ljava/lang/Throwable;"⟩ ⟨"java/lang/Throwable", "fillInStackTrace", "(I)Ljava/lang/Throwable;"⟩), (Cond.lays "java/lang/IndexOutOfBoundsException" "java/lang/Throwable" "cause" "Ljava/lang/Throwable;"), (Cond.lays "java/lang/IndexOutOfBoundsException" "java/lang/Throwable" "stackTrace" "[Ljava/lang/StackTraceElement;"), (Cond.lays "java/lang/IndexOutOfBoundsException" "java/lang/Throwable" "suppressedExceptions" "Ljava/util/List;"), (Cond.lays "java/lang/IndexOutOfBoundsException" "java/lang/Throwable" "detailMessage" "Ljava/lang/String;"), (Cond.lays "java/lang/IndexOutOfBoundsException" "java/lang/Throwable" "backtrace" "Ljava/lang/Object;"), (Cond.methodLink RX2 103 ⟨"java/lang/IndexOutOfBoundsException", "<init>", "(Ljava/lang/String;)V"⟩), (Cond.instanceMethod ⟨"java/lang/IndexOutOfBoundsException", "<init>", "(Ljava/lang/String;)V"⟩), (Cond.code ⟨"java/lang/IndexOutOfBoundsException", "<init>", "(Ljava/lang/String;)V"⟩ prog_9_method_2_code 2 none), (Cond.methodLink "java/lang/IndexOutOfBoundsException" 7 ⟨"java/lang/RuntimeException", "<init>", "(Ljava/lang/String;)V"⟩), (Cond.lays "java/lang/IndexOutOfBoundsException" "java/lang/Throwable" "depth" "I"), (Cond.superclass "java/lang/IndexOutOfBoundsException" "java/lang/RuntimeException"), (Cond.methodLink RL 84 yL_byteAt), (Cond.static yL_byteAt), (Cond.codeWith yL_byteAt method_7_code 4 (some FieldType.int) [(0, 9, 12, 31)]), (Cond.methodLink RL 33 yX2_byteAt), (Cond.instanceMethod yX2_byteAt), (Cond.selects RX2 yX2_byteAt yX2_byteAt), (Cond.code yX2_byteAt prog_1_method_6_code 2 (some FieldType.int))]
def g13 : List Cond := [(Cond.methodLink RL 87 yL_feed), (Cond.static yL_feed), (Cond.codeWith yL_feed method_8_code 4 (some FieldType.int) [(0, 9, 12, 13), (0, 9, 15, 15)]), (Cond.methodLink RL 36 yX2_feed), (Cond.instanceMethod yX2_feed), (Cond.selects RX2 yX2_feed yX2_feed), (Cond.code yX2_feed prog_1_method_7_code 2 (some FieldType.int)), (Cond.methodLink RX2 122 yX2_refuseMoreBytes), (Cond.instanceMethod yX2_refuseMoreBytes), (Cond.code yX2_refuseMoreBytes prog_1_method_18_code 2 none), (Cond.methodLink RL 90 yL_pass), (Cond.static yL_pass), (Cond.codeWith yL_pass method_9_code 5 (some FieldType.int) [(0, 10, 13, 31), (0, 10, 17, 13), (0, 10, 21, 15)]), (Cond.methodLink RL 39 yX2_pass), (Cond.instanceMethod yX2_pass), (Cond.selects RX2 yX2_pass yX2_pass), (Cond.code yX2_pass prog_1_method_8_code 6 (some FieldType.int)), (Cond.methodLink RL 93 yL_get), (Cond.static yL_get), (Cond.codeWith yL_get method_10_code 4 (some FieldType.int) [(0, 8, 11, 13)]), (Cond.methodLink RL 42 yX2_get), (Cond.instanceMethod yX2_get), (Cond.selects RX2 yX2_get yX2_get), (Cond.code yX2_get prog_1_method_9_code 9 (some FieldType.long)), (Cond.constantLong RX2 129 (-3)), (Cond.methodLink RX2 137 yX2_readBit), (Cond.instanceMethod yX2_readBit), (Cond.code yX2_readBit prog_1_method_23_code 3 (some FieldType.int)), (Cond.methodLink RX2 191 yX2_meetHere), (Cond.instanceMethod yX2_meetHere)]
def g14 : List Cond := [(Cond.code yX2_meetHere prog_1_method_24_code 2 (some FieldType.int)), (Cond.methodLink RX2 197 yX1_isWithin), (Cond.instanceMethod yX1_isWithin), (Cond.selects RX1 yX1_isWithin yX1_isWithin), (Cond.code yX1_isWithin prog_3_method_4_code 1 (some FieldType.boolean)), (Cond.methodLink RX2 194 yX2_readStuffedIfDue), (Cond.instanceMethod yX2_readStuffedIfDue), (Cond.code yX2_readStuffedIfDue prog_1_method_25_code 1 (some FieldType.int)), (Cond.methodLink RX2 140 yX1_goBack), (Cond.methodLink RL 104 yL_find), (Cond.static yL_find), (Cond.codeWith yL_find method_11_code 4 (some FieldType.int) [(0, 9, 12, 31)]), (Cond.methodLink RL 46 yX2_find), (Cond.instanceMethod yX2_find), (Cond.selects RX2 yX2_find yX2_find), (Cond.code yX2_find prog_1_method_12_code 3 (some FieldType.int)), (Cond.methodLink RL 107 yL_sum), (Cond.static yL_sum), (Cond.codeWith yL_sum method_12_code 7 (some FieldType.int) [(0, 14, 17, 13), (0, 14, 21, 31)]), (Cond.methodLink RL 49 yX2_sum), (Cond.instanceMethod yX2_sum), (Cond.selects RX2 yX2_sum yX2_sum), (Cond.code yX2_sum prog_1_method_13_code 6 (some FieldType.int)), (Cond.methodLink RX2 170 yX0_sumOf16), (Cond.instanceMethod yX0_sumOf16), (Cond.selects RX0 yX0_sumOf16 yX0_sumOf16), (Cond.code yX0_sumOf16 prog_2_method_8_code 6 (some FieldType.int)), (Cond.constant RX0 42 65535), (Cond.constant RX0 43 32768), (Cond.methodLink RX2 173 yX0_sumOf32)]
def g15 : List Cond := [(Cond.instanceMethod yX0_sumOf32), (Cond.selects RX0 yX0_sumOf32 yX0_sumOf32), (Cond.code yX0_sumOf32 prog_2_method_9_code 6 (some FieldType.int)), (Cond.constant RX0 44 (-306674912)), (Cond.classLink RL 62 RX3), (Cond.instantiable RX3 19), (Cond.methodLink RL 64 yX3_init), (Cond.instanceMethod yX3_init), (Cond.code yX3_init prog_5_method_1_code 3 none), (Cond.methodLink RX3 1 objectInit), (Cond.fieldLink RX3 25 RX3 "thrown" "I"), (Cond.fieldLink RX3 17 RX3 "stuffing" "I"), (Cond.fieldLink RX3 21 RX3 "low" "Z"), (Cond.fieldLink RX3 7 RX3 "bits" "[Z"), (Cond.fieldLink RX3 28 RX3 "written" "I"), (Cond.fieldLink RX3 38 RX3 "stuffed" "I"), (Cond.fieldLink RX3 48 RX3 "ones" "I"), (Cond.fieldLink RX3 35 RX3 "after" "Z"), (Cond.fieldLink RX3 13 RX3 "came" "[I"), (Cond.fieldLink RX3 76 RX3 "cameCount" "I"), (Cond.fieldLink RX3 100 RX3 "read" "I"), (Cond.fieldLink RX3 103 RX3 "readStuffed" "I"), (Cond.fieldLink RX3 106 RX3 "readOnes" "I"), (Cond.fieldLink RX3 109 RX3 "readAfter" "Z"), (Cond.fieldLink RX3 112 RX3 "bad" "Z"), (Cond.fieldLink RX3 79 RX3 "tried" "I"), (Cond.fieldLink RX3 91 RX3 "triedStuffed" "I"), (Cond.fieldLink RX3 97 RX3 "triedOnes" "I"), (Cond.fieldLink RX3 82 RX3 "triedAfter" "Z"), (Cond.lays RX3 RX3 "thrown" "I")]
def g16 : List Cond := [(Cond.soleField RX3 "thrown"), (Cond.laysFinal RX3 RX3 "stuffing" "I"), (Cond.soleField RX3 "stuffing"), (Cond.laysFinal RX3 RX3 "low" "Z")]
def g17 : List Cond := [(Cond.soleField RX3 "low"), (Cond.laysFinal RX3 RX3 "bits" "[Z"), (Cond.soleField RX3 "bits"), (Cond.lays RX3 RX3 "written" "I"), (Cond.soleField RX3 "written"), (Cond.lays RX3 RX3 "stuffed" "I"), (Cond.soleField RX3 "stuffed"), (Cond.lays RX3 RX3 "ones" "I"), (Cond.soleField RX3 "ones"), (Cond.lays RX3 RX3 "after" "Z"), (Cond.soleField RX3 "after"), (Cond.laysFinal RX3 RX3 "came" "[I"), (Cond.soleField RX3 "came"), (Cond.lays RX3 RX3 "cameCount" "I"), (Cond.soleField RX3 "cameCount"), (Cond.lays RX3 RX3 "read" "I"), (Cond.soleField RX3 "read"), (Cond.lays RX3 RX3 "readStuffed" "I"), (Cond.soleField RX3 "readStuffed"), (Cond.lays RX3 RX3 "readOnes" "I"), (Cond.soleField RX3 "readOnes"), (Cond.lays RX3 RX3 "readAfter" "Z"), (Cond.soleField RX3 "readAfter"), (Cond.lays RX3 RX3 "bad" "Z"), (Cond.soleField RX3 "bad"), (Cond.lays RX3 RX3 "tried" "I"), (Cond.soleField RX3 "tried"), (Cond.lays RX3 RX3 "triedStuffed" "I"), (Cond.soleField RX3 "triedStuffed"), (Cond.lays RX3 RX3 "triedOnes" "I")]
def g18 : List Cond := [(Cond.soleField RX3 "triedOnes"), (Cond.lays RX3 RX3 "triedAfter" "Z"), (Cond.soleField RX3 "triedAfter"), (Cond.superclass RX3 "java/lang/Object"), (Cond.arrayClass FieldType.boolean), (Cond.methodLink RL 69 yX3_thrown), (Cond.instanceMethod yX3_thrown), (Cond.selects RX3 yX3_thrown yX3_thrown), (Cond.code yX3_thrown prog_5_method_2_code 1 (some FieldType.int)), (Cond.methodLink RL 68 yX3_put), (Cond.instanceMethod yX3_put), (Cond.selects RX3 yX3_put yX3_put), (Cond.code yX3_put prog_5_method_9_code 6 (some FieldType.int)), (Cond.constantLong RX3 51 32), (Cond.methodLink RX3 53 yX3_isIn), (Cond.static yX3_isIn), (Cond.code yX3_isIn prog_5_method_3_code 6 (some FieldType.boolean)), (Cond.methodLink RX3 57 yX3_isFull), (Cond.instanceMethod yX3_isFull), (Cond.code yX3_isFull prog_5_method_4_code 2 (some FieldType.boolean)), (Cond.methodLink RX3 61 yX3_putBit), (Cond.instanceMethod yX3_putBit), (Cond.code yX3_putBit prog_5_method_8_code 3 (some FieldType.int)), (Cond.methodLink RX3 45 yX3_stuff), (Cond.instanceMethod yX3_stuff), (Cond.code yX3_stuff prog_5_method_7_code 1 none), (Cond.methodLink RX3 41 yX3_add), (Cond.instanceMethod yX3_add), (Cond.code yX3_add prog_5_method_6_code 2 none), (Cond.methodLink RX3 31 yX3_byteOf)]
def g19 : List Cond := [(Cond.instanceMethod yX3_byteOf), (Cond.code yX3_byteOf prog_5_method_5_code 6 (some FieldType.int)), (Cond.methodLink RL 75 yX3_align), (Cond.instanceMethod yX3_align), (Cond.selects RX3 yX3_align yX3_align), (Cond.code yX3_align prog_5_method_11_code 1 (some FieldType.int)), (Cond.methodLink RX3 65 yX3_alignAll), (Cond.instanceMethod yX3_alignAll), (Cond.code yX3_alignAll prog_5_method_10_code 3 (some FieldType.int)), (Cond.methodLink RL 79 yX3_mark), (Cond.instanceMethod yX3_mark), (Cond.selects RX3 yX3_mark yX3_mark), (Cond.code yX3_mark prog_5_method_12_code 5 (some FieldType.int)), (Cond.constantLong RX3 69 128), (Cond.constantLong RX3 71 255), (Cond.methodLink RL 83 yX3_patch), (Cond.instanceMethod yX3_patch), (Cond.selects RX3 yX3_patch yX3_patch), (Cond.code yX3_patch prog_5_method_13_code 7 (some FieldType.int)), (Cond.methodLink RL 86 yX3_byteAt), (Cond.instanceMethod yX3_byteAt), (Cond.selects RX3 yX3_byteAt yX3_byteAt), (Cond.code yX3_byteAt prog_5_method_15_code 2 (some FieldType.int)), (Cond.methodLink RX3 73 yX3_bytesWritten), (Cond.instanceMethod yX3_bytesWritten), (Cond.code yX3_bytesWritten prog_5_method_14_code 1 (some FieldType.int)), (Cond.methodLink RL 89 yX3_feed), (Cond.instanceMethod yX3_feed), (Cond.selects RX3 yX3_feed yX3_feed), (Cond.code yX3_feed prog_5_method_16_code 2 (some FieldType.int))]
def g20 : List Cond := [(Cond.methodLink RL 92 yX3_pass), (Cond.instanceMethod yX3_pass), (Cond.selects RX3 yX3_pass yX3_pass), (Cond.code yX3_pass prog_5_method_17_code 6 (some FieldType.int)), (Cond.methodLink RL 95 yX3_get), (Cond.instanceMethod yX3_get), (Cond.selects RX3 yX3_get yX3_get), (Cond.code yX3_get prog_5_method_25_code 6 (some FieldType.long)), (Cond.constantLong RX3 115 (-3)), (Cond.methodLink RX3 117 yX3_beginTry), (Cond.instanceMethod yX3_beginTry), (Cond.code yX3_beginTry prog_5_method_23_code 1 none), (Cond.methodLink RX3 120 yX3_tryBit), (Cond.instanceMethod yX3_tryBit), (Cond.code yX3_tryBit prog_5_method_22_code 6 (some FieldType.int)), (Cond.methodLink RX3 85 yX3_obstacle), (Cond.instanceMethod yX3_obstacle), (Cond.code yX3_obstacle prog_5_method_21_code 2 (some FieldType.int)), (Cond.methodLink RX3 88 yX3_bitAt), (Cond.instanceMethod yX3_bitAt), (Cond.code yX3_bitAt prog_5_method_19_code 3 (some FieldType.int)), (Cond.methodLink RX3 94 yX3_goOn), (Cond.instanceMethod yX3_goOn), (Cond.code yX3_goOn prog_5_method_20_code 1 none), (Cond.constantLong RX3 123 2), (Cond.methodLink RX3 125 yX3_keepTry), (Cond.instanceMethod yX3_keepTry), (Cond.code yX3_keepTry prog_5_method_24_code 1 none), (Cond.methodLink RL 99 yX3_skip), (Cond.instanceMethod yX3_skip)]
def g21 : List Cond := [(Cond.selects RX3 yX3_skip yX3_skip), (Cond.code yX3_skip prog_5_method_26_code 4 (some FieldType.int)), (Cond.methodLink RL 103 yX3_take), (Cond.instanceMethod yX3_take), (Cond.selects RX3 yX3_take yX3_take), (Cond.code yX3_take prog_5_method_27_code 2 (some FieldType.int)), (Cond.methodLink RX3 128 yX3_isMark), (Cond.instanceMethod yX3_isMark), (Cond.code yX3_isMark prog_5_method_18_code 2 (some FieldType.boolean)), (Cond.methodLink RL 106 yX3_find), (Cond.instanceMethod yX3_find), (Cond.selects RX3 yX3_find yX3_find), (Cond.code yX3_find prog_5_method_28_code 3 (some FieldType.int)), (Cond.methodLink RL 110 yX3_sum), (Cond.instanceMethod yX3_sum), (Cond.selects RX3 yX3_sum yX3_sum), (Cond.code yX3_sum prog_5_method_31_code 9 (some FieldType.int)), (Cond.constant RX3 131 65535), (Cond.methodLink RX3 133 yX3_sum16), (Cond.static yX3_sum16), (Cond.code yX3_sum16 prog_5_method_29_code 5 (some FieldType.int)), (Cond.methodLink RX3 137 yX3_sum32), (Cond.static yX3_sum32), (Cond.code yX3_sum32 prog_5_method_30_code 5 (some FieldType.int)), (Cond.constant RX3 132 (-306674912)), (Cond.methodLink RL 114 yX3_told), (Cond.instanceMethod yX3_told), (Cond.selects RX3 yX3_told yX3_told), (Cond.code yX3_told prog_5_method_32_code 2 (some FieldType.int)), (Cond.methodLink RL 118 yX3_clear)]
def g22 : List Cond := [(Cond.instanceMethod yX3_clear), (Cond.selects RX3 yX3_clear yX3_clear), (Cond.code yX3_clear prog_5_method_33_code 1 none), (Cond.arrayClass FieldType.long), (Cond.sameMethod "java/lang/Throwable" "java/lang/Throwable" "fillInStackTrace" "(I)Ljava/lang/Throwable;")]
def G : List Cond := g0 ++ (g1 ++ (g2 ++ (g3 ++ (g4 ++ (g5 ++ (g6 ++ (g7 ++ (g8 ++ (g9 ++ (g10 ++ (g11 ++ (g12 ++ (g13 ++ (g14 ++ (g15 ++ (g16 ++ (g17 ++ (g18 ++ (g19 ++ (g20 ++ (g21 ++ (g22))))))))))))))))))))))
theorem g_in (j : Nat) (l : List Cond) (h : ∀ w ∈ l, w ∈ G) {w : Cond} {i : Nat} (e : l[i]? = some w) : w ∈ G := h w (List.mem_of_getElem? e)
theorem g0_in : ∀ w ∈ g0, w ∈ G := fun w h => List.mem_append_left _ h
theorem g1_in : ∀ w ∈ g1, w ∈ G := fun w h => List.mem_append_right _ (List.mem_append_left _ h)
theorem g2_in : ∀ w ∈ g2, w ∈ G := fun w h => List.mem_append_right _ (List.mem_append_right _ (List.mem_append_left _ h))
theorem g3_in : ∀ w ∈ g3, w ∈ G := fun w h => List.mem_append_right _ (List.mem_append_right _ (List.mem_append_right _ (List.mem_append_left _ h)))
theorem g4_in : ∀ w ∈ g4, w ∈ G := fun w h => List.mem_append_right _ (List.mem_append_right _ (List.mem_append_right _ (List.mem_append_right _ (List.mem_append_left _ h))))
theorem g5_in : ∀ w ∈ g5, w ∈ G := fun w h => List.mem_append_right _ (List.mem_append_right _ (List.mem_append_right _ (List.mem_append_right _ (List.mem_append_right _ (List.mem_append_left _ h)))))
theorem g6_in : ∀ w ∈ g6, w ∈ G := fun w h => List.mem_append_right _ (List.mem_append_right _ (List.mem_append_right _ (List.mem_append_right _ (List.mem_append_right _ (List.mem_append_right _ (List.mem_append_left _ h))))))
theorem g7_in : ∀ w ∈ g7, w ∈ G := fun w h => List.mem_append_right _ (List.mem_append_right _ (List.mem_append_right _ (List.mem_append_right _ (List.mem_append_right _ (List.mem_append_right _ (List.mem_append_right _ (List.mem_append_left _ h)))))))
theorem g8_in : ∀ w ∈ g8, w ∈ G := fun w h => List.mem_append_right _ (List.mem_append_right _ (List.mem_append_right _ (List.mem_append_right _ (List.mem_append_right _ (List.mem_append_right _ (List.mem_append_right _ (List.mem_append_right _ (List.mem_append_left _ h))))))))
theorem g9_in : ∀ w ∈ g9, w ∈ G := fun w h => List.mem_append_right _ (List.mem_append_right _ (List.mem_append_right _ (List.mem_append_right _ (List.mem_append_right _ (List.mem_append_right _ (List.mem_append_right _ (List.mem_append_right _ (List.mem_append_right _ (List.mem_append_left _ h)))))))))
theorem g10_in : ∀ w ∈ g10, w ∈ G := fun w h => List.mem_append_right _ (List.mem_append_right _ (List.mem_append_right _ (List.mem_append_right _ (List.mem_append_right _ (List.mem_append_right _ (List.mem_append_right _ (List.mem_append_right _ (List.mem_append_right _ (List.mem_append_right _ (List.mem_append_left _ h))))))))))
theorem g11_in : ∀ w ∈ g11, w ∈ G := fun w h => List.mem_append_right _ (List.mem_append_right _ (List.mem_append_right _ (List.mem_append_right _ (List.mem_append_right _ (List.mem_append_right _ (List.mem_append_right _ (List.mem_append_right _ (List.mem_append_right _ (List.mem_append_right _ (List.mem_append_right _ (List.mem_append_left _ h)))))))))))
theorem g12_in : ∀ w ∈ g12, w ∈ G := fun w h => List.mem_append_right _ (List.mem_append_right _ (List.mem_append_right _ (List.mem_append_right _ (List.mem_append_right _ (List.mem_append_right _ (List.mem_append_right _ (List.mem_append_right _ (List.mem_append_right _ (List.mem_append_right _ (List.mem_append_right _ (List.mem_append_right _ (List.mem_append_left _ h))))))))))))
theorem g13_in : ∀ w ∈ g13, w ∈ G := fun w h => List.mem_append_right _ (List.mem_append_right _ (List.mem_append_right _ (List.mem_append_right _ (List.mem_append_right _ (List.mem_append_right _ (List.mem_append_right _ (List.mem_append_right _ (List.mem_append_right _ (List.mem_append_right _ (List.mem_append_right _ (List.mem_append_right _ (List.mem_append_right _ (List.mem_append_left _ h)))))))))))))
theorem g14_in : ∀ w ∈ g14, w ∈ G := fun w h => List.mem_append_right _ (List.mem_append_right _ (List.mem_append_right _ (List.mem_append_right _ (List.mem_append_right _ (List.mem_append_right _ (List.mem_append_right _ (List.mem_append_right _ (List.mem_append_right _ (List.mem_append_right _ (List.mem_append_right _ (List.mem_append_right _ (List.mem_append_right _ (List.mem_append_right _ (List.mem_append_left _ h))))))))))))))
theorem g15_in : ∀ w ∈ g15, w ∈ G := fun w h => List.mem_append_right _ (List.mem_append_right _ (List.mem_append_right _ (List.mem_append_right _ (List.mem_append_right _ (List.mem_append_right _ (List.mem_append_right _ (List.mem_append_right _ (List.mem_append_right _ (List.mem_append_right _ (List.mem_append_right _ (List.mem_append_right _ (List.mem_append_right _ (List.mem_append_right _ (List.mem_append_right _ (List.mem_append_left _ h)))))))))))))))
theorem g16_in : ∀ w ∈ g16, w ∈ G := fun w h => List.mem_append_right _ (List.mem_append_right _ (List.mem_append_right _ (List.mem_append_right _ (List.mem_append_right _ (List.mem_append_right _ (List.mem_append_right _ (List.mem_append_right _ (List.mem_append_right _ (List.mem_append_right _ (List.mem_append_right _ (List.mem_append_right _ (List.mem_append_right _ (List.mem_append_right _ (List.mem_append_right _ (List.mem_append_right _ (List.mem_append_left _ h))))))))))))))))
theorem g17_in : ∀ w ∈ g17, w ∈ G := fun w h => List.mem_append_right _ (List.mem_append_right _ (List.mem_append_right _ (List.mem_append_right _ (List.mem_append_right _ (List.mem_append_right _ (List.mem_append_right _ (List.mem_append_right _ (List.mem_append_right _ (List.mem_append_right _ (List.mem_append_right _ (List.mem_append_right _ (List.mem_append_right _ (List.mem_append_right _ (List.mem_append_right _ (List.mem_append_right _ (List.mem_append_right _ (List.mem_append_left _ h)))))))))))))))))
theorem g18_in : ∀ w ∈ g18, w ∈ G := fun w h => List.mem_append_right _ (List.mem_append_right _ (List.mem_append_right _ (List.mem_append_right _ (List.mem_append_right _ (List.mem_append_right _ (List.mem_append_right _ (List.mem_append_right _ (List.mem_append_right _ (List.mem_append_right _ (List.mem_append_right _ (List.mem_append_right _ (List.mem_append_right _ (List.mem_append_right _ (List.mem_append_right _ (List.mem_append_right _ (List.mem_append_right _ (List.mem_append_right _ (List.mem_append_left _ h))))))))))))))))))
theorem g19_in : ∀ w ∈ g19, w ∈ G := fun w h => List.mem_append_right _ (List.mem_append_right _ (List.mem_append_right _ (List.mem_append_right _ (List.mem_append_right _ (List.mem_append_right _ (List.mem_append_right _ (List.mem_append_right _ (List.mem_append_right _ (List.mem_append_right _ (List.mem_append_right _ (List.mem_append_right _ (List.mem_append_right _ (List.mem_append_right _ (List.mem_append_right _ (List.mem_append_right _ (List.mem_append_right _ (List.mem_append_right _ (List.mem_append_right _ (List.mem_append_left _ h)))))))))))))))))))
theorem g20_in : ∀ w ∈ g20, w ∈ G := fun w h => List.mem_append_right _ (List.mem_append_right _ (List.mem_append_right _ (List.mem_append_right _ (List.mem_append_right _ (List.mem_append_right _ (List.mem_append_right _ (List.mem_append_right _ (List.mem_append_right _ (List.mem_append_right _ (List.mem_append_right _ (List.mem_append_right _ (List.mem_append_right _ (List.mem_append_right _ (List.mem_append_right _ (List.mem_append_right _ (List.mem_append_right _ (List.mem_append_right _ (List.mem_append_right _ (List.mem_append_right _ (List.mem_append_left _ h))))))))))))))))))))
theorem g21_in : ∀ w ∈ g21, w ∈ G := fun w h => List.mem_append_right _ (List.mem_append_right _ (List.mem_append_right _ (List.mem_append_right _ (List.mem_append_right _ (List.mem_append_right _ (List.mem_append_right _ (List.mem_append_right _ (List.mem_append_right _ (List.mem_append_right _ (List.mem_append_right _ (List.mem_append_right _ (List.mem_append_right _ (List.mem_append_right _ (List.mem_append_right _ (List.mem_append_right _ (List.mem_append_right _ (List.mem_append_right _ (List.mem_append_right _ (List.mem_append_right _ (List.mem_append_right _ (List.mem_append_left _ h)))))))))))))))))))))
theorem g22_in : ∀ w ∈ g22, w ∈ G := fun w h => List.mem_append_right _ (List.mem_append_right _ (List.mem_append_right _ (List.mem_append_right _ (List.mem_append_right _ (List.mem_append_right _ (List.mem_append_right _ (List.mem_append_right _ (List.mem_append_right _ (List.mem_append_right _ (List.mem_append_right _ (List.mem_append_right _ (List.mem_append_right _ (List.mem_append_right _ (List.mem_append_right _ (List.mem_append_right _ (List.mem_append_right _ (List.mem_append_right _ (List.mem_append_right _ (List.mem_append_right _ (List.mem_append_right _ (List.mem_append_right _ (h))))))))))))))))))))))
theorem wd0 : (Cond.selects RX1 yX1_isBehindFullByte yX1_isBehindFullByte) ∈ G := g0_in _ (List.mem_of_getElem? (i := 0) rfl)
theorem wd1 : (Cond.selects RX0 yX0_shiftInByte yX0_shiftInByte) ∈ G := g0_in _ (List.mem_of_getElem? (i := 1) rfl)
theorem wd2 : (Cond.selects RX2 yX2_refuseToOverfill yX2_refuseToOverfill) ∈ G := g0_in _ (List.mem_of_getElem? (i := 2) rfl)
theorem wd3 : (Cond.selects RX2 yX2_writeStuffedIfDue yX2_writeStuffedIfDue) ∈ G := g0_in _ (List.mem_of_getElem? (i := 3) rfl)
theorem wd4 : (Cond.selects RX2 yX2_shiftOf yX2_shiftOf) ∈ G := g0_in _ (List.mem_of_getElem? (i := 4) rfl)
theorem wd5 : (Cond.selects RX2 yX2_writeBit yX2_writeBit) ∈ G := g0_in _ (List.mem_of_getElem? (i := 5) rfl)
theorem wd6 : (Cond.selects RX2 yX2_writeTillAligned yX2_writeTillAligned) ∈ G := g0_in _ (List.mem_of_getElem? (i := 6) rfl)
theorem wd7 : (Cond.selects RX2 yX2_refuseMoreBytes yX2_refuseMoreBytes) ∈ G := g0_in _ (List.mem_of_getElem? (i := 7) rfl)
theorem wd8 : (Cond.selects RX2 yX2_readBit yX2_readBit) ∈ G := g0_in _ (List.mem_of_getElem? (i := 8) rfl)
theorem wd9 : (Cond.selects RX2 yX2_meetHere yX2_meetHere) ∈ G := g0_in _ (List.mem_of_getElem? (i := 9) rfl)
theorem wd10 : (Cond.selects RX2 yX2_readStuffedIfDue yX2_readStuffedIfDue) ∈ G := g0_in _ (List.mem_of_getElem? (i := 10) rfl)
theorem wd11 : (Cond.selects RX3 yX3_isFull yX3_isFull) ∈ G := g0_in _ (List.mem_of_getElem? (i := 11) rfl)
theorem wd12 : (Cond.selects RX3 yX3_putBit yX3_putBit) ∈ G := g0_in _ (List.mem_of_getElem? (i := 12) rfl)
theorem wd13 : (Cond.selects RX3 yX3_stuff yX3_stuff) ∈ G := g0_in _ (List.mem_of_getElem? (i := 13) rfl)
theorem wd14 : (Cond.selects RX3 yX3_add yX3_add) ∈ G := g0_in _ (List.mem_of_getElem? (i := 14) rfl)
theorem wd15 : (Cond.selects RX3 yX3_byteOf yX3_byteOf) ∈ G := g0_in _ (List.mem_of_getElem? (i := 15) rfl)
theorem wd16 : (Cond.selects RX3 yX3_alignAll yX3_alignAll) ∈ G := g0_in _ (List.mem_of_getElem? (i := 16) rfl)
theorem wd17 : (Cond.selects RX3 yX3_bytesWritten yX3_bytesWritten) ∈ G := g0_in _ (List.mem_of_getElem? (i := 17) rfl)
theorem wd18 : (Cond.selects RX3 yX3_beginTry yX3_beginTry) ∈ G := g0_in _ (List.mem_of_getElem? (i := 18) rfl)
theorem wd19 : (Cond.selects RX3 yX3_tryBit yX3_tryBit) ∈ G := g0_in _ (List.mem_of_getElem? (i := 19) rfl)
theorem wd20 : (Cond.selects RX3 yX3_obstacle yX3_obstacle) ∈ G := g0_in _ (List.mem_of_getElem? (i := 20) rfl)
theorem wd21 : (Cond.selects RX3 yX3_bitAt yX3_bitAt) ∈ G := g0_in _ (List.mem_of_getElem? (i := 21) rfl)
theorem wd22 : (Cond.selects RX3 yX3_goOn yX3_goOn) ∈ G := g0_in _ (List.mem_of_getElem? (i := 22) rfl)
theorem wd23 : (Cond.selects RX3 yX3_keepTry yX3_keepTry) ∈ G := g0_in _ (List.mem_of_getElem? (i := 23) rfl)
theorem wd24 : (Cond.selects RX3 yX3_isMark yX3_isMark) ∈ G := g0_in _ (List.mem_of_getElem? (i := 24) rfl)
theorem wd25 : (Cond.initialized RL) ∈ G := g1_in _ (List.mem_of_getElem? (i := 0) rfl)
theorem wd26 : (Cond.initialized RX2) ∈ G := g1_in _ (List.mem_of_getElem? (i := 1) rfl)
theorem wd27 : (Cond.initialized "java/lang/Math") ∈ G := g1_in _ (List.mem_of_getElem? (i := 2) rfl)
theorem wd28 : (Cond.initialized RX0) ∈ G := g1_in _ (List.mem_of_getElem? (i := 3) rfl)
theorem wd29 : (Cond.initialized RX1) ∈ G := g1_in _ (List.mem_of_getElem? (i := 4) rfl)
theorem wd30 : (Cond.initialized RX3) ∈ G := g1_in _ (List.mem_of_getElem? (i := 5) rfl)
theorem wd31 : (Cond.initialized "java/lang/Throwable") ∈ G := g1_in _ (List.mem_of_getElem? (i := 6) rfl)
theorem wd32 : (Cond.initialized "java/lang/Exception") ∈ G := g1_in _ (List.mem_of_getElem? (i := 7) rfl)
theorem wd33 : (Cond.initialized "java/lang/RuntimeException") ∈ G := g1_in _ (List.mem_of_getElem? (i := 8) rfl)
theorem wd34 : (Cond.initialized "java/lang/IllegalArgumentException") ∈ G := g1_in _ (List.mem_of_getElem? (i := 9) rfl)
theorem wd35 : (Cond.initialized "java/lang/UnsupportedOperationException") ∈ G := g1_in _ (List.mem_of_getElem? (i := 10) rfl)
theorem wd36 : (Cond.initialized "java/lang/IllegalStateException") ∈ G := g1_in _ (List.mem_of_getElem? (i := 11) rfl)
theorem wd37 : (Cond.initialized "java/lang/IndexOutOfBoundsException") ∈ G := g1_in _ (List.mem_of_getElem? (i := 12) rfl)
theorem wd38 : (Cond.initialized RJ7) ∈ G := g1_in _ (List.mem_of_getElem? (i := 13) rfl)
theorem wd39 : (Cond.classLink RL 8 RX2) ∈ G := g1_in _ (List.mem_of_getElem? (i := 14) rfl)
theorem wd40 : (Cond.instantiable RX2 8) ∈ G := g1_in _ (List.mem_of_getElem? (i := 15) rfl)
theorem wd41 : (Cond.methodLink RL 59 yX2_init) ∈ G := g1_in _ (List.mem_of_getElem? (i := 16) rfl)
theorem wd42 : (Cond.instanceMethod yX2_init) ∈ G := g1_in _ (List.mem_of_getElem? (i := 17) rfl)
theorem wd43 : (Cond.code yX2_init prog_1_method_1_code 3 none) ∈ G := g1_in _ (List.mem_of_getElem? (i := 18) rfl)
theorem wd44 : (Cond.methodLink RX2 1 objectInit) ∈ G := g1_in _ (List.mem_of_getElem? (i := 19) rfl)
theorem wd45 : (Cond.instanceMethod objectInit) ∈ G := g1_in _ (List.mem_of_getElem? (i := 20) rfl)
theorem wd46 : (Cond.code objectInit object_method_1_code 1 none) ∈ G := g1_in _ (List.mem_of_getElem? (i := 21) rfl)
theorem wd47 : (Cond.methodLink RX2 9 ⟨"java/lang/Math", "min", "(II)I"⟩) ∈ G := g1_in _ (List.mem_of_getElem? (i := 22) rfl)
theorem wd48 : (Cond.static ⟨"java/lang/Math", "min", "(II)I"⟩) ∈ G := g1_in _ (List.mem_of_getElem? (i := 23) rfl)
theorem wd49 : (Cond.code ⟨"java/lang/Math", "min", "(II)I"⟩ prog_10_method_69_code 2 (some FieldType.int)) ∈ G := g1_in _ (List.mem_of_getElem? (i := 24) rfl)
theorem wd50 : (Cond.methodLink RX2 15 ⟨"java/lang/Math", "max", "(II)I"⟩) ∈ G := g1_in _ (List.mem_of_getElem? (i := 25) rfl)
theorem wd51 : (Cond.static ⟨"java/lang/Math", "max", "(II)I"⟩) ∈ G := g1_in _ (List.mem_of_getElem? (i := 26) rfl)
theorem wd52 : (Cond.code ⟨"java/lang/Math", "max", "(II)I"⟩ prog_10_method_65_code 2 (some FieldType.int)) ∈ G := g1_in _ (List.mem_of_getElem? (i := 27) rfl)
theorem wd53 : (Cond.classLink RX2 29 RX0) ∈ G := g1_in _ (List.mem_of_getElem? (i := 28) rfl)
theorem wd54 : (Cond.instantiable RX0 3) ∈ G := g1_in _ (List.mem_of_getElem? (i := 29) rfl)
theorem wd55 : (Cond.methodLink RX2 31 yX0_init) ∈ G := g2_in _ (List.mem_of_getElem? (i := 0) rfl)
theorem wd56 : (Cond.instanceMethod yX0_init) ∈ G := g2_in _ (List.mem_of_getElem? (i := 1) rfl)
theorem wd57 : (Cond.code yX0_init prog_2_method_1_code 2 none) ∈ G := g2_in _ (List.mem_of_getElem? (i := 2) rfl)
theorem wd58 : (Cond.methodLink RX0 3 objectInit) ∈ G := g2_in _ (List.mem_of_getElem? (i := 3) rfl)
theorem wd59 : (Cond.fieldLink RX0 9 RX0 "lowFirst" "Z") ∈ G := g2_in _ (List.mem_of_getElem? (i := 4) rfl)
theorem wd60 : (Cond.fieldLink RX0 15 RX0 "bytes" "[I") ∈ G := g2_in _ (List.mem_of_getElem? (i := 5) rfl)
theorem wd61 : (Cond.fieldLink RX0 19 RX0 "count" "I") ∈ G := g2_in _ (List.mem_of_getElem? (i := 6) rfl)
theorem wd62 : (Cond.laysFinal RX0 RX0 "lowFirst" "Z") ∈ G := g2_in _ (List.mem_of_getElem? (i := 7) rfl)
theorem wd63 : (Cond.soleField RX0 "lowFirst") ∈ G := g2_in _ (List.mem_of_getElem? (i := 8) rfl)
theorem wd64 : (Cond.laysFinal RX0 RX0 "bytes" "[I") ∈ G := g2_in _ (List.mem_of_getElem? (i := 9) rfl)
theorem wd65 : (Cond.soleField RX0 "bytes") ∈ G := g2_in _ (List.mem_of_getElem? (i := 10) rfl)
theorem wd66 : (Cond.lays RX0 RX0 "count" "I") ∈ G := g2_in _ (List.mem_of_getElem? (i := 11) rfl)
theorem wd67 : (Cond.soleField RX0 "count") ∈ G := g2_in _ (List.mem_of_getElem? (i := 12) rfl)
theorem wd68 : (Cond.superclass RX0 "java/lang/Object") ∈ G := g2_in _ (List.mem_of_getElem? (i := 13) rfl)
theorem wd69 : (Cond.arrayClass FieldType.int) ∈ G := g2_in _ (List.mem_of_getElem? (i := 14) rfl)
theorem wd70 : (Cond.classLink RX2 38 RX1) ∈ G := g2_in _ (List.mem_of_getElem? (i := 15) rfl)
theorem wd71 : (Cond.instantiable RX1 7) ∈ G := g2_in _ (List.mem_of_getElem? (i := 16) rfl)
theorem wd72 : (Cond.methodLink RX2 40 yX1_init) ∈ G := g2_in _ (List.mem_of_getElem? (i := 17) rfl)
theorem wd73 : (Cond.instanceMethod yX1_init) ∈ G := g2_in _ (List.mem_of_getElem? (i := 18) rfl)
theorem wd74 : (Cond.code yX1_init prog_3_method_1_code 4 none) ∈ G := g2_in _ (List.mem_of_getElem? (i := 19) rfl)
theorem wd75 : (Cond.methodLink RX1 3 objectInit) ∈ G := g2_in _ (List.mem_of_getElem? (i := 20) rfl)
theorem wd76 : (Cond.fieldLink RX1 9 RX1 "row" "LBitRows$Row;") ∈ G := g2_in _ (List.mem_of_getElem? (i := 21) rfl)
theorem wd77 : (Cond.fieldLink RX1 15 RX1 "stuffing" "I") ∈ G := g2_in _ (List.mem_of_getElem? (i := 22) rfl)
theorem wd78 : (Cond.fieldLink RX1 19 RX1 "stuffedInByte" "I") ∈ G := g2_in _ (List.mem_of_getElem? (i := 23) rfl)
theorem wd79 : (Cond.fieldLink RX1 22 RX1 "place" "I") ∈ G := g2_in _ (List.mem_of_getElem? (i := 24) rfl)
theorem wd80 : (Cond.fieldLink RX1 25 RX1 "stuffed" "I") ∈ G := g2_in _ (List.mem_of_getElem? (i := 25) rfl)
theorem wd81 : (Cond.fieldLink RX1 28 RX1 "ones" "I") ∈ G := g2_in _ (List.mem_of_getElem? (i := 26) rfl)
theorem wd82 : (Cond.fieldLink RX1 31 RX1 "markEnd" "I") ∈ G := g2_in _ (List.mem_of_getElem? (i := 27) rfl)
theorem wd83 : (Cond.laysFinal RX1 RX1 "row" "LBitRows$Row;") ∈ G := g2_in _ (List.mem_of_getElem? (i := 28) rfl)
theorem wd84 : (Cond.soleField RX1 "row") ∈ G := g2_in _ (List.mem_of_getElem? (i := 29) rfl)
theorem wd85 : (Cond.laysFinal RX1 RX1 "stuffing" "I") ∈ G := g3_in _ (List.mem_of_getElem? (i := 0) rfl)
theorem wd86 : (Cond.soleField RX1 "stuffing") ∈ G := g3_in _ (List.mem_of_getElem? (i := 1) rfl)
theorem wd87 : (Cond.laysFinal RX1 RX1 "stuffedInByte" "I") ∈ G := g3_in _ (List.mem_of_getElem? (i := 2) rfl)
theorem wd88 : (Cond.soleField RX1 "stuffedInByte") ∈ G := g3_in _ (List.mem_of_getElem? (i := 3) rfl)
theorem wd89 : (Cond.lays RX1 RX1 "place" "I") ∈ G := g3_in _ (List.mem_of_getElem? (i := 4) rfl)
theorem wd90 : (Cond.soleField RX1 "place") ∈ G := g3_in _ (List.mem_of_getElem? (i := 5) rfl)
theorem wd91 : (Cond.lays RX1 RX1 "stuffed" "I") ∈ G := g3_in _ (List.mem_of_getElem? (i := 6) rfl)
theorem wd92 : (Cond.soleField RX1 "stuffed") ∈ G := g3_in _ (List.mem_of_getElem? (i := 7) rfl)
theorem wd93 : (Cond.lays RX1 RX1 "ones" "I") ∈ G := g3_in _ (List.mem_of_getElem? (i := 8) rfl)
theorem wd94 : (Cond.soleField RX1 "ones") ∈ G := g3_in _ (List.mem_of_getElem? (i := 9) rfl)
theorem wd95 : (Cond.lays RX1 RX1 "markEnd" "I") ∈ G := g3_in _ (List.mem_of_getElem? (i := 10) rfl)
theorem wd96 : (Cond.soleField RX1 "markEnd") ∈ G := g3_in _ (List.mem_of_getElem? (i := 11) rfl)
theorem wd97 : (Cond.superclass RX1 "java/lang/Object") ∈ G := g3_in _ (List.mem_of_getElem? (i := 12) rfl)
theorem wd98 : (Cond.fieldLink RX2 18 RX2 "stuffing" "I") ∈ G := g3_in _ (List.mem_of_getElem? (i := 13) rfl)
theorem wd99 : (Cond.fieldLink RX2 22 RX2 "lowFirst" "Z") ∈ G := g3_in _ (List.mem_of_getElem? (i := 14) rfl)
theorem wd100 : (Cond.fieldLink RX2 26 RX2 "stuffsAtOnce" "Z") ∈ G := g3_in _ (List.mem_of_getElem? (i := 15) rfl)
theorem wd101 : (Cond.fieldLink RX2 34 RX2 "written" "LBitRows$Row;") ∈ G := g3_in _ (List.mem_of_getElem? (i := 16) rfl)
theorem wd102 : (Cond.fieldLink RX2 43 RX2 "writing" "LBitRows$Track;") ∈ G := g3_in _ (List.mem_of_getElem? (i := 17) rfl)
theorem wd103 : (Cond.fieldLink RX2 47 RX2 "came" "LBitRows$Row;") ∈ G := g3_in _ (List.mem_of_getElem? (i := 18) rfl)
theorem wd104 : (Cond.fieldLink RX2 50 RX2 "reading" "LBitRows$Track;") ∈ G := g3_in _ (List.mem_of_getElem? (i := 19) rfl)
theorem wd105 : (Cond.fieldLink RX2 53 RX2 "bad" "Z") ∈ G := g3_in _ (List.mem_of_getElem? (i := 20) rfl)
theorem wd106 : (Cond.laysFinal RX2 RX2 "stuffing" "I") ∈ G := g3_in _ (List.mem_of_getElem? (i := 21) rfl)
theorem wd107 : (Cond.soleField RX2 "stuffing") ∈ G := g3_in _ (List.mem_of_getElem? (i := 22) rfl)
theorem wd108 : (Cond.laysFinal RX2 RX2 "lowFirst" "Z") ∈ G := g3_in _ (List.mem_of_getElem? (i := 23) rfl)
theorem wd109 : (Cond.soleField RX2 "lowFirst") ∈ G := g3_in _ (List.mem_of_getElem? (i := 24) rfl)
theorem wd110 : (Cond.laysFinal RX2 RX2 "stuffsAtOnce" "Z") ∈ G := g3_in _ (List.mem_of_getElem? (i := 25) rfl)
theorem wd111 : (Cond.soleField RX2 "stuffsAtOnce") ∈ G := g3_in _ (List.mem_of_getElem? (i := 26) rfl)
theorem wd112 : (Cond.laysFinal RX2 RX2 "written" "LBitRows$Row;") ∈ G := g3_in _ (List.mem_of_getElem? (i := 27) rfl)
theorem wd113 : (Cond.soleField RX2 "written") ∈ G := g3_in _ (List.mem_of_getElem? (i := 28) rfl)
theorem wd114 : (Cond.laysFinal RX2 RX2 "writing" "LBitRows$Track;") ∈ G := g3_in _ (List.mem_of_getElem? (i := 29) rfl)
theorem wd115 : (Cond.soleField RX2 "writing") ∈ G := g4_in _ (List.mem_of_getElem? (i := 0) rfl)
theorem wd116 : (Cond.laysFinal RX2 RX2 "came" "LBitRows$Row;") ∈ G := g4_in _ (List.mem_of_getElem? (i := 1) rfl)
theorem wd117 : (Cond.soleField RX2 "came") ∈ G := g4_in _ (List.mem_of_getElem? (i := 2) rfl)
theorem wd118 : (Cond.laysFinal RX2 RX2 "reading" "LBitRows$Track;") ∈ G := g4_in _ (List.mem_of_getElem? (i := 3) rfl)
theorem wd119 : (Cond.soleField RX2 "reading") ∈ G := g4_in _ (List.mem_of_getElem? (i := 4) rfl)
theorem wd120 : (Cond.lays RX2 RX2 "bad" "Z") ∈ G := g4_in _ (List.mem_of_getElem? (i := 5) rfl)
theorem wd121 : (Cond.soleField RX2 "bad") ∈ G := g4_in _ (List.mem_of_getElem? (i := 6) rfl)
theorem wd122 : (Cond.superclass RX2 "java/lang/Object") ∈ G := g4_in _ (List.mem_of_getElem? (i := 7) rfl)
theorem wd123 : (Cond.methodLink RL 96 yX2_skip) ∈ G := g4_in _ (List.mem_of_getElem? (i := 8) rfl)
theorem wd124 : (Cond.instanceMethod yX2_skip) ∈ G := g4_in _ (List.mem_of_getElem? (i := 9) rfl)
theorem wd125 : (Cond.selects RX2 yX2_skip yX2_skip) ∈ G := g4_in _ (List.mem_of_getElem? (i := 10) rfl)
theorem wd126 : (Cond.code yX2_skip prog_1_method_10_code 3 (some FieldType.int)) ∈ G := g4_in _ (List.mem_of_getElem? (i := 11) rfl)
theorem wd127 : (Cond.methodLink RX2 144 yX1_isAligned) ∈ G := g4_in _ (List.mem_of_getElem? (i := 12) rfl)
theorem wd128 : (Cond.instanceMethod yX1_isAligned) ∈ G := g4_in _ (List.mem_of_getElem? (i := 13) rfl)
theorem wd129 : (Cond.selects RX1 yX1_isAligned yX1_isAligned) ∈ G := g4_in _ (List.mem_of_getElem? (i := 14) rfl)
theorem wd130 : (Cond.code yX1_isAligned prog_3_method_6_code 1 (some FieldType.boolean)) ∈ G := g4_in _ (List.mem_of_getElem? (i := 15) rfl)
theorem wd131 : (Cond.methodLink RX1 43 yX1_isAtByte) ∈ G := g4_in _ (List.mem_of_getElem? (i := 16) rfl)
theorem wd132 : (Cond.instanceMethod yX1_isAtByte) ∈ G := g4_in _ (List.mem_of_getElem? (i := 17) rfl)
theorem wd133 : (Cond.selects RX1 yX1_isAtByte yX1_isAtByte) ∈ G := g4_in _ (List.mem_of_getElem? (i := 18) rfl)
theorem wd134 : (Cond.code yX1_isAtByte prog_3_method_5_code 1 (some FieldType.boolean)) ∈ G := g4_in _ (List.mem_of_getElem? (i := 19) rfl)
theorem wd135 : (Cond.methodLink RX1 47 yX1_isBehindFullByte) ∈ G := g4_in _ (List.mem_of_getElem? (i := 20) rfl)
theorem wd136 : (Cond.instanceMethod yX1_isBehindFullByte) ∈ G := g4_in _ (List.mem_of_getElem? (i := 21) rfl)
theorem wd137 : (Cond.code yX1_isBehindFullByte prog_3_method_11_code 2 (some FieldType.boolean)) ∈ G := g4_in _ (List.mem_of_getElem? (i := 22) rfl)
theorem wd138 : (Cond.methodLink RX1 50 yX0_byteOf) ∈ G := g4_in _ (List.mem_of_getElem? (i := 23) rfl)
theorem wd139 : (Cond.instanceMethod yX0_byteOf) ∈ G := g4_in _ (List.mem_of_getElem? (i := 24) rfl)
theorem wd140 : (Cond.selects RX0 yX0_byteOf yX0_byteOf) ∈ G := g4_in _ (List.mem_of_getElem? (i := 25) rfl)
theorem wd141 : (Cond.code yX0_byteOf prog_2_method_3_code 2 (some FieldType.int)) ∈ G := g4_in _ (List.mem_of_getElem? (i := 26) rfl)
theorem wd142 : (Cond.methodLink RX2 148 yX1_isStuffedDue) ∈ G := g4_in _ (List.mem_of_getElem? (i := 27) rfl)
theorem wd143 : (Cond.instanceMethod yX1_isStuffedDue) ∈ G := g4_in _ (List.mem_of_getElem? (i := 28) rfl)
theorem wd144 : (Cond.selects RX1 yX1_isStuffedDue yX1_isStuffedDue) ∈ G := g4_in _ (List.mem_of_getElem? (i := 29) rfl)
theorem wd145 : (Cond.code yX1_isStuffedDue prog_3_method_7_code 1 (some FieldType.boolean)) ∈ G := g5_in _ (List.mem_of_getElem? (i := 0) rfl)
theorem wd146 : (Cond.methodLink RX2 151 yX1_stepOverStuffed) ∈ G := g5_in _ (List.mem_of_getElem? (i := 1) rfl)
theorem wd147 : (Cond.instanceMethod yX1_stepOverStuffed) ∈ G := g5_in _ (List.mem_of_getElem? (i := 2) rfl)
theorem wd148 : (Cond.selects RX1 yX1_stepOverStuffed yX1_stepOverStuffed) ∈ G := g5_in _ (List.mem_of_getElem? (i := 3) rfl)
theorem wd149 : (Cond.code yX1_stepOverStuffed prog_3_method_9_code 1 none) ∈ G := g5_in _ (List.mem_of_getElem? (i := 4) rfl)
theorem wd150 : (Cond.methodLink RX2 104 yX0_bitOf) ∈ G := g5_in _ (List.mem_of_getElem? (i := 5) rfl)
theorem wd151 : (Cond.instanceMethod yX0_bitOf) ∈ G := g5_in _ (List.mem_of_getElem? (i := 6) rfl)
theorem wd152 : (Cond.selects RX0 yX0_bitOf yX0_bitOf) ∈ G := g5_in _ (List.mem_of_getElem? (i := 7) rfl)
theorem wd153 : (Cond.code yX0_bitOf prog_2_method_5_code 2 (some FieldType.int)) ∈ G := g5_in _ (List.mem_of_getElem? (i := 8) rfl)
theorem wd154 : (Cond.methodLink RX0 29 yX0_byteOf) ∈ G := g5_in _ (List.mem_of_getElem? (i := 9) rfl)
theorem wd155 : (Cond.methodLink RX0 33 yX0_shiftInByte) ∈ G := g5_in _ (List.mem_of_getElem? (i := 10) rfl)
theorem wd156 : (Cond.instanceMethod yX0_shiftInByte) ∈ G := g5_in _ (List.mem_of_getElem? (i := 11) rfl)
theorem wd157 : (Cond.code yX0_shiftInByte prog_2_method_10_code 2 (some FieldType.int)) ∈ G := g5_in _ (List.mem_of_getElem? (i := 12) rfl)
theorem wd158 : (Cond.methodLink RX2 154 yX1_stepOver) ∈ G := g5_in _ (List.mem_of_getElem? (i := 13) rfl)
theorem wd159 : (Cond.instanceMethod yX1_stepOver) ∈ G := g5_in _ (List.mem_of_getElem? (i := 14) rfl)
theorem wd160 : (Cond.selects RX1 yX1_stepOver yX1_stepOver) ∈ G := g5_in _ (List.mem_of_getElem? (i := 15) rfl)
theorem wd161 : (Cond.code yX1_stepOver prog_3_method_8_code 2 none) ∈ G := g5_in _ (List.mem_of_getElem? (i := 16) rfl)
theorem wd162 : (Cond.methodLink RL 100 yX2_take) ∈ G := g5_in _ (List.mem_of_getElem? (i := 17) rfl)
theorem wd163 : (Cond.instanceMethod yX2_take) ∈ G := g5_in _ (List.mem_of_getElem? (i := 18) rfl)
theorem wd164 : (Cond.selects RX2 yX2_take yX2_take) ∈ G := g5_in _ (List.mem_of_getElem? (i := 19) rfl)
theorem wd165 : (Cond.code yX2_take prog_1_method_11_code 2 (some FieldType.int)) ∈ G := g5_in _ (List.mem_of_getElem? (i := 20) rfl)
theorem wd166 : (Cond.methodLink RX2 157 yX1_isAtByte) ∈ G := g5_in _ (List.mem_of_getElem? (i := 21) rfl)
theorem wd167 : (Cond.methodLink RX2 160 yX0_isMarkAt) ∈ G := g5_in _ (List.mem_of_getElem? (i := 22) rfl)
theorem wd168 : (Cond.instanceMethod yX0_isMarkAt) ∈ G := g5_in _ (List.mem_of_getElem? (i := 23) rfl)
theorem wd169 : (Cond.selects RX0 yX0_isMarkAt yX0_isMarkAt) ∈ G := g5_in _ (List.mem_of_getElem? (i := 24) rfl)
theorem wd170 : (Cond.code yX0_isMarkAt prog_2_method_7_code 2 (some FieldType.boolean)) ∈ G := g5_in _ (List.mem_of_getElem? (i := 25) rfl)
theorem wd171 : (Cond.methodLink RX2 94 yX1_stepOverMark) ∈ G := g5_in _ (List.mem_of_getElem? (i := 26) rfl)
theorem wd172 : (Cond.instanceMethod yX1_stepOverMark) ∈ G := g5_in _ (List.mem_of_getElem? (i := 27) rfl)
theorem wd173 : (Cond.selects RX1 yX1_stepOverMark yX1_stepOverMark) ∈ G := g5_in _ (List.mem_of_getElem? (i := 28) rfl)
theorem wd174 : (Cond.code yX1_stepOverMark prog_3_method_10_code 1 none) ∈ G := g5_in _ (List.mem_of_getElem? (i := 29) rfl)
theorem wd175 : (Cond.methodLink RX2 117 yX0_byteOf) ∈ G := g6_in _ (List.mem_of_getElem? (i := 0) rfl)
theorem wd176 : (Cond.methodLink RL 111 yX2_told) ∈ G := g6_in _ (List.mem_of_getElem? (i := 1) rfl)
theorem wd177 : (Cond.instanceMethod yX2_told) ∈ G := g6_in _ (List.mem_of_getElem? (i := 2) rfl)
theorem wd178 : (Cond.selects RX2 yX2_told yX2_told) ∈ G := g6_in _ (List.mem_of_getElem? (i := 3) rfl)
theorem wd179 : (Cond.code yX2_told prog_1_method_14_code 2 (some FieldType.int)) ∈ G := g6_in _ (List.mem_of_getElem? (i := 4) rfl)
theorem wd180 : (Cond.methodLink RL 115 yX2_clear) ∈ G := g6_in _ (List.mem_of_getElem? (i := 5) rfl)
theorem wd181 : (Cond.instanceMethod yX2_clear) ∈ G := g6_in _ (List.mem_of_getElem? (i := 6) rfl)
theorem wd182 : (Cond.selects RX2 yX2_clear yX2_clear) ∈ G := g6_in _ (List.mem_of_getElem? (i := 7) rfl)
theorem wd183 : (Cond.code yX2_clear prog_1_method_15_code 1 none) ∈ G := g6_in _ (List.mem_of_getElem? (i := 8) rfl)
theorem wd184 : (Cond.methodLink RX2 176 yX0_empty) ∈ G := g6_in _ (List.mem_of_getElem? (i := 9) rfl)
theorem wd185 : (Cond.instanceMethod yX0_empty) ∈ G := g6_in _ (List.mem_of_getElem? (i := 10) rfl)
theorem wd186 : (Cond.selects RX0 yX0_empty yX0_empty) ∈ G := g6_in _ (List.mem_of_getElem? (i := 11) rfl)
theorem wd187 : (Cond.code yX0_empty prog_2_method_2_code 1 none) ∈ G := g6_in _ (List.mem_of_getElem? (i := 12) rfl)
theorem wd188 : (Cond.methodLink RX0 23 yJ7_fill) ∈ G := g6_in _ (List.mem_of_getElem? (i := 13) rfl)
theorem wd189 : (Cond.static yJ7_fill) ∈ G := g6_in _ (List.mem_of_getElem? (i := 14) rfl)
theorem wd190 : (Cond.code yJ7_fill prog_15_method_103_code 4 none) ∈ G := g6_in _ (List.mem_of_getElem? (i := 15) rfl)
theorem wd191 : (Cond.methodLink RX2 179 yX1_goToStart) ∈ G := g6_in _ (List.mem_of_getElem? (i := 16) rfl)
theorem wd192 : (Cond.instanceMethod yX1_goToStart) ∈ G := g6_in _ (List.mem_of_getElem? (i := 17) rfl)
theorem wd193 : (Cond.selects RX1 yX1_goToStart yX1_goToStart) ∈ G := g6_in _ (List.mem_of_getElem? (i := 18) rfl)
theorem wd194 : (Cond.code yX1_goToStart prog_3_method_2_code 1 none) ∈ G := g6_in _ (List.mem_of_getElem? (i := 19) rfl)
theorem wd195 : (Cond.methodLink RX1 34 yX1_goBack) ∈ G := g6_in _ (List.mem_of_getElem? (i := 20) rfl)
theorem wd196 : (Cond.instanceMethod yX1_goBack) ∈ G := g6_in _ (List.mem_of_getElem? (i := 21) rfl)
theorem wd197 : (Cond.selects RX1 yX1_goBack yX1_goBack) ∈ G := g6_in _ (List.mem_of_getElem? (i := 22) rfl)
theorem wd198 : (Cond.code yX1_goBack prog_3_method_3_code 4 none) ∈ G := g6_in _ (List.mem_of_getElem? (i := 23) rfl)
theorem wd199 : (Cond.methodLink RL 53 yL_cell) ∈ G := g6_in _ (List.mem_of_getElem? (i := 24) rfl)
theorem wd200 : (Cond.static yL_cell) ∈ G := g6_in _ (List.mem_of_getElem? (i := 25) rfl)
theorem wd201 : (Cond.code yL_cell method_2_code 2 (some FieldType.int)) ∈ G := g6_in _ (List.mem_of_getElem? (i := 26) rfl)
theorem wd202 : (Cond.methodLink RL 65 yL_put) ∈ G := g6_in _ (List.mem_of_getElem? (i := 27) rfl)
theorem wd203 : (Cond.static yL_put) ∈ G := g6_in _ (List.mem_of_getElem? (i := 28) rfl)
theorem wd204 : (Cond.codeWith yL_put method_3_code 5 (some FieldType.int) [(0, 10, 13, 13), (0, 10, 17, 15)]) ∈ G := g6_in _ (List.mem_of_getElem? (i := 29) rfl)
theorem wd205 : (Cond.classLink RL 13 "java/lang/IllegalArgumentException") ∈ G := g7_in _ (List.mem_of_getElem? (i := 0) rfl)
theorem wd206 : (Cond.classLink RL 15 "java/lang/UnsupportedOperationException") ∈ G := g7_in _ (List.mem_of_getElem? (i := 1) rfl)
theorem wd207 : (Cond.methodLink RL 7 yX2_put) ∈ G := g7_in _ (List.mem_of_getElem? (i := 2) rfl)
theorem wd208 : (Cond.instanceMethod yX2_put) ∈ G := g7_in _ (List.mem_of_getElem? (i := 3) rfl)
theorem wd209 : (Cond.selects RX2 yX2_put yX2_put) ∈ G := g7_in _ (List.mem_of_getElem? (i := 4) rfl)
theorem wd210 : (Cond.code yX2_put prog_1_method_2_code 5 (some FieldType.int)) ∈ G := g7_in _ (List.mem_of_getElem? (i := 5) rfl)
theorem wd211 : (Cond.methodLink RX2 56 yX2_refuseOtherWidths) ∈ G := g7_in _ (List.mem_of_getElem? (i := 6) rfl)
theorem wd212 : (Cond.static yX2_refuseOtherWidths) ∈ G := g7_in _ (List.mem_of_getElem? (i := 7) rfl)
theorem wd213 : (Cond.code yX2_refuseOtherWidths prog_1_method_16_code 1 none) ∈ G := g7_in _ (List.mem_of_getElem? (i := 8) rfl)
theorem wd214 : (Cond.classLink RX2 86 "java/lang/IllegalArgumentException") ∈ G := g7_in _ (List.mem_of_getElem? (i := 9) rfl)
theorem wd215 : (Cond.instantiable "java/lang/IllegalArgumentException" 6) ∈ G := g7_in _ (List.mem_of_getElem? (i := 10) rfl)
theorem wd216 : (Cond.selects "java/lang/IllegalArgumentException" ⟨"java/lang/Throwable", "fillInStackTrace", "(I)Ljava/lang/Throwable;"⟩ ⟨"java/lang/Throwable", "fillInStackTrace", "(I)Ljava/lang/Throwable;"⟩) ∈ G := g7_in _ (List.mem_of_getElem? (i := 11) rfl)
theorem wd217 : (Cond.selects "java/lang/IllegalArgumentException" ⟨"java/lang/Throwable", "fillInStackTrace", "()Ljava/lang/Throwable;"⟩ ⟨"java/lang/Throwable", "fillInStackTrace", "()Ljava/lang/Throwable;"⟩) ∈ G := g7_in _ (List.mem_of_getElem? (i := 12) rfl)
theorem wd218 : (Cond.lays "java/lang/IllegalArgumentException" "java/lang/Throwable" "cause" "Ljava/lang/Throwable;") ∈ G := g7_in _ (List.mem_of_getElem? (i := 13) rfl)
theorem wd219 : (Cond.lays "java/lang/Throwable" "java/lang/Throwable" "cause" "Ljava/lang/Throwable;") ∈ G := g7_in _ (List.mem_of_getElem? (i := 14) rfl)
theorem wd220 : (Cond.lays "java/lang/IllegalArgumentException" "java/lang/Throwable" "stackTrace" "[Ljava/lang/StackTraceElement;") ∈ G := g7_in _ (List.mem_of_getElem? (i := 15) rfl)
theorem wd221 : (Cond.lays "java/lang/Throwable" "java/lang/Throwable" "stackTrace" "[Ljava/lang/StackTraceElement;") ∈ G := g7_in _ (List.mem_of_getElem? (i := 16) rfl)
theorem wd222 : (Cond.lays "java/lang/IllegalArgumentException" "java/lang/Throwable" "suppressedExceptions" "Ljava/util/List;") ∈ G := g7_in _ (List.mem_of_getElem? (i := 17) rfl)
theorem wd223 : (Cond.lays "java/lang/Throwable" "java/lang/Throwable" "suppressedExceptions" "Ljava/util/List;") ∈ G := g7_in _ (List.mem_of_getElem? (i := 18) rfl)
theorem wd224 : (Cond.lays "java/lang/IllegalArgumentException" "java/lang/Throwable" "detailMessage" "Ljava/lang/String;") ∈ G := g7_in _ (List.mem_of_getElem? (i := 19) rfl)
theorem wd225 : (Cond.lays "java/lang/Throwable" "java/lang/Throwable" "detailMessage" "Ljava/lang/String;") ∈ G := g7_in _ (List.mem_of_getElem? (i := 20) rfl)
theorem wd226 : (Cond.lays "java/lang/IllegalArgumentException" "java/lang/Throwable" "backtrace" "Ljava/lang/Object;") ∈ G := g7_in _ (List.mem_of_getElem? (i := 21) rfl)
theorem wd227 : (Cond.lays "java/lang/Throwable" "java/lang/Throwable" "backtrace" "Ljava/lang/Object;") ∈ G := g7_in _ (List.mem_of_getElem? (i := 22) rfl)
theorem wd228 : (Cond.fieldLink "java/lang/Throwable" 198 "java/lang/Throwable" "backtrace" "Ljava/lang/Object;") ∈ G := g7_in _ (List.mem_of_getElem? (i := 23) rfl)
theorem wd229 : (Cond.superclass "java/lang/Throwable" "java/lang/Object") ∈ G := g7_in _ (List.mem_of_getElem? (i := 24) rfl)
theorem wd230 : (Cond.instanceMethod ⟨"java/lang/Throwable", "<init>", "()V"⟩) ∈ G := g7_in _ (List.mem_of_getElem? (i := 25) rfl)
theorem wd231 : (Cond.code ⟨"java/lang/Throwable", "<init>", "()V"⟩ prog_13_method_1_code 1 none) ∈ G := g7_in _ (List.mem_of_getElem? (i := 26) rfl)
theorem wd232 : (Cond.methodLink "java/lang/Throwable" 1 objectInit) ∈ G := g7_in _ (List.mem_of_getElem? (i := 27) rfl)
theorem wd233 : (Cond.fieldLink "java/lang/Throwable" 13 "java/lang/Throwable" "UNASSIGNED_STACK" "[Ljava/lang/StackTraceElement;") ∈ G := g7_in _ (List.mem_of_getElem? (i := 28) rfl)
theorem wd234 : (Cond.fieldLink "java/lang/Throwable" 20 "java/lang/Throwable" "SUPPRESSED_SENTINEL" "Ljava/util/List;") ∈ G := g7_in _ (List.mem_of_getElem? (i := 29) rfl)
theorem wd235 : (Cond.methodLink "java/lang/Throwable" 27 ⟨"java/lang/Throwable", "fillInStackTrace", "()Ljava/lang/Throwable;"⟩) ∈ G := g8_in _ (List.mem_of_getElem? (i := 0) rfl)
theorem wd236 : (Cond.instanceMethod ⟨"java/lang/Throwable", "fillInStackTrace", "()Ljava/lang/Throwable;"⟩) ∈ G := g8_in _ (List.mem_of_getElem? (i := 1) rfl)
theorem wd237 : (Cond.sameMethod "java/lang/Throwable" "java/lang/Throwable" "fillInStackTrace" "()Ljava/lang/Throwable;") ∈ G := g8_in _ (List.mem_of_getElem? (i := 2) rfl)
theorem wd238 : (Cond.selects "java/lang/IllegalStateException" ⟨"java/lang/Throwable", "fillInStackTrace", "()Ljava/lang/Throwable;"⟩ ⟨"java/lang/Throwable", "fillInStackTrace", "()Ljava/lang/Throwable;"⟩) ∈ G := g8_in _ (List.mem_of_getElem? (i := 3) rfl)
theorem wd239 : (Cond.selects "java/lang/IndexOutOfBoundsException" ⟨"java/lang/Throwable", "fillInStackTrace", "()Ljava/lang/Throwable;"⟩ ⟨"java/lang/Throwable", "fillInStackTrace", "()Ljava/lang/Throwable;"⟩) ∈ G := g8_in _ (List.mem_of_getElem? (i := 4) rfl)
theorem wd240 : (Cond.selects "java/lang/UnsupportedOperationException" ⟨"java/lang/Throwable", "fillInStackTrace", "()Ljava/lang/Throwable;"⟩ ⟨"java/lang/Throwable", "fillInStackTrace", "()Ljava/lang/Throwable;"⟩) ∈ G := g8_in _ (List.mem_of_getElem? (i := 5) rfl)
theorem wd241 : (Cond.codeSync ⟨"java/lang/Throwable", "fillInStackTrace", "()Ljava/lang/Throwable;"⟩ prog_13_method_18_code 1 (some (FieldType.object "java/lang/Throwable"))) ∈ G := g8_in _ (List.mem_of_getElem? (i := 6) rfl)
theorem wd242 : (Cond.methodLink "java/lang/Throwable" 202 ⟨"java/lang/Throwable", "fillInStackTrace", "(I)Ljava/lang/Throwable;"⟩) ∈ G := g8_in _ (List.mem_of_getElem? (i := 7) rfl)
theorem wd243 : (Cond.instanceMethod ⟨"java/lang/Throwable", "fillInStackTrace", "(I)Ljava/lang/Throwable;"⟩) ∈ G := g8_in _ (List.mem_of_getElem? (i := 8) rfl)
theorem wd244 : (Cond.instantiable "java/lang/Throwable" 6) ∈ G := g8_in _ (List.mem_of_getElem? (i := 9) rfl)
theorem wd245 : (Cond.native ⟨"java/lang/Throwable", "fillInStackTrace", "(I)Ljava/lang/Throwable;"⟩) ∈ G := g8_in _ (List.mem_of_getElem? (i := 10) rfl)
theorem wd246 : (Cond.methodLink RX2 90 ⟨"java/lang/IllegalArgumentException", "<init>", "(Ljava/lang/String;)V"⟩) ∈ G := g8_in _ (List.mem_of_getElem? (i := 11) rfl)
theorem wd247 : (Cond.instanceMethod ⟨"java/lang/IllegalArgumentException", "<init>", "(Ljava/lang/String;)V"⟩) ∈ G := g9_in _ (List.mem_of_getElem? (i := 0) rfl)
theorem wd248 : (Cond.code ⟨"java/lang/IllegalArgumentException", "<init>", "(Ljava/lang/String;)V"⟩ prog_7_method_2_code 2 none) ∈ G := g9_in _ (List.mem_of_getElem? (i := 1) rfl)
theorem wd249 : (Cond.methodLink "java/lang/IllegalArgumentException" 7 ⟨"java/lang/RuntimeException", "<init>", "(Ljava/lang/String;)V"⟩) ∈ G := g9_in _ (List.mem_of_getElem? (i := 2) rfl)
theorem wd250 : (Cond.instanceMethod ⟨"java/lang/RuntimeException", "<init>", "(Ljava/lang/String;)V"⟩) ∈ G := g9_in _ (List.mem_of_getElem? (i := 3) rfl)
theorem wd251 : (Cond.code ⟨"java/lang/RuntimeException", "<init>", "(Ljava/lang/String;)V"⟩ prog_11_method_2_code 2 none) ∈ G := g9_in _ (List.mem_of_getElem? (i := 4) rfl)
theorem wd252 : (Cond.methodLink "java/lang/RuntimeException" 7 ⟨"java/lang/Exception", "<init>", "(Ljava/lang/String;)V"⟩) ∈ G := g9_in _ (List.mem_of_getElem? (i := 5) rfl)
theorem wd253 : (Cond.instanceMethod ⟨"java/lang/Exception", "<init>", "(Ljava/lang/String;)V"⟩) ∈ G := g9_in _ (List.mem_of_getElem? (i := 6) rfl)
theorem wd254 : (Cond.code ⟨"java/lang/Exception", "<init>", "(Ljava/lang/String;)V"⟩ prog_6_method_2_code 2 none) ∈ G := g9_in _ (List.mem_of_getElem? (i := 7) rfl)
theorem wd255 : (Cond.methodLink "java/lang/Exception" 7 ⟨"java/lang/Throwable", "<init>", "(Ljava/lang/String;)V"⟩) ∈ G := g9_in _ (List.mem_of_getElem? (i := 8) rfl)
theorem wd256 : (Cond.instanceMethod ⟨"java/lang/Throwable", "<init>", "(Ljava/lang/String;)V"⟩) ∈ G := g9_in _ (List.mem_of_getElem? (i := 9) rfl)
theorem wd257 : (Cond.code ⟨"java/lang/Throwable", "<init>", "(Ljava/lang/String;)V"⟩ prog_13_method_2_code 2 none) ∈ G := g9_in _ (List.mem_of_getElem? (i := 10) rfl)
theorem wd258 : (Cond.fieldLink "java/lang/Throwable" 31 "java/lang/Throwable" "detailMessage" "Ljava/lang/String;") ∈ G := g9_in _ (List.mem_of_getElem? (i := 11) rfl)
theorem wd259 : (Cond.fieldLink "java/lang/Throwable" 7 "java/lang/Throwable" "cause" "Ljava/lang/Throwable;") ∈ G := g9_in _ (List.mem_of_getElem? (i := 12) rfl)
theorem wd260 : (Cond.fieldLink "java/lang/Throwable" 17 "java/lang/Throwable" "stackTrace" "[Ljava/lang/StackTraceElement;") ∈ G := g9_in _ (List.mem_of_getElem? (i := 13) rfl)
theorem wd261 : (Cond.fieldLink "java/lang/Throwable" 24 "java/lang/Throwable" "suppressedExceptions" "Ljava/util/List;") ∈ G := g9_in _ (List.mem_of_getElem? (i := 14) rfl)
theorem wd262 : (Cond.soleField "java/lang/Throwable" "backtrace") ∈ G := g9_in _ (List.mem_of_getElem? (i := 15) rfl)
theorem wd263 : (Cond.soleField "java/lang/Throwable" "detailMessage") ∈ G := g9_in _ (List.mem_of_getElem? (i := 16) rfl)
theorem wd264 : (Cond.soleField "java/lang/Throwable" "cause") ∈ G := g9_in _ (List.mem_of_getElem? (i := 17) rfl)
theorem wd265 : (Cond.soleField "java/lang/Throwable" "stackTrace") ∈ G := g9_in _ (List.mem_of_getElem? (i := 18) rfl)
theorem wd266 : (Cond.lays "java/lang/IllegalArgumentException" "java/lang/Throwable" "depth" "I") ∈ G := g9_in _ (List.mem_of_getElem? (i := 19) rfl)
theorem wd267 : (Cond.soleField "java/lang/Throwable" "depth") ∈ G := g9_in _ (List.mem_of_getElem? (i := 20) rfl)
theorem wd268 : (Cond.soleField "java/lang/Throwable" "suppressedExceptions") ∈ G := g9_in _ (List.mem_of_getElem? (i := 21) rfl)
theorem wd269 : (Cond.superclass "java/lang/IllegalArgumentException" "java/lang/RuntimeException") ∈ G := g9_in _ (List.mem_of_getElem? (i := 22) rfl)
theorem wd270 : (Cond.arrayClass FieldType.byte) ∈ G := g9_in _ (List.mem_of_getElem? (i := 23) rfl)
theorem wd271 : (Cond.methodLink RX2 60 yX2_refuseToOverfill) ∈ G := g9_in _ (List.mem_of_getElem? (i := 24) rfl)
theorem wd272 : (Cond.instanceMethod yX2_refuseToOverfill) ∈ G := g9_in _ (List.mem_of_getElem? (i := 25) rfl)
theorem wd273 : (Cond.code yX2_refuseToOverfill prog_1_method_17_code 2 none) ∈ G := g9_in _ (List.mem_of_getElem? (i := 26) rfl)
theorem wd274 : (Cond.classLink RX2 184 "java/lang/UnsupportedOperationException") ∈ G := g9_in _ (List.mem_of_getElem? (i := 27) rfl)
theorem wd275 : (Cond.instantiable "java/lang/UnsupportedOperationException" 6) ∈ G := g9_in _ (List.mem_of_getElem? (i := 28) rfl)
theorem wd276 : (Cond.selects "java/lang/UnsupportedOperationException" ⟨"java/lang/Throwable", "fillInStackTrace", "(I)Ljava/lang/Throwable;"⟩ ⟨"java/lang/Throwable", "fillInStackTrace", "(I)Ljava/lang/Throwable;"⟩) ∈ G := g9_in _ (List.mem_of_getElem? (i := 29) rfl)
theorem wd277 : (Cond.lays "java/lang/UnsupportedOperationException" "java/lang/Throwable" "cause" "Ljava/lang/Throwable;") ∈ G := g10_in _ (List.mem_of_getElem? (i := 0) rfl)
theorem wd278 : (Cond.lays "java/lang/UnsupportedOperationException" "java/lang/Throwable" "stackTrace" "[Ljava/lang/StackTraceElement;") ∈ G := g10_in _ (List.mem_of_getElem? (i := 1) rfl)
theorem wd279 : (Cond.lays "java/lang/UnsupportedOperationException" "java/lang/Throwable" "suppressedExceptions" "Ljava/util/List;") ∈ G := g10_in _ (List.mem_of_getElem? (i := 2) rfl)
theorem wd280 : (Cond.lays "java/lang/UnsupportedOperationException" "java/lang/Throwable" "detailMessage" "Ljava/lang/String;") ∈ G := g10_in _ (List.mem_of_getElem? (i := 3) rfl)
theorem wd281 : (Cond.lays "java/lang/UnsupportedOperationException" "java/lang/Throwable" "backtrace" "Ljava/lang/Object;") ∈ G := g10_in _ (List.mem_of_getElem? (i := 4) rfl)
theorem wd282 : (Cond.methodLink RX2 188 ⟨"java/lang/UnsupportedOperationException", "<init>", "(Ljava/lang/String;)V"⟩) ∈ G := g10_in _ (List.mem_of_getElem? (i := 5) rfl)
theorem wd283 : (Cond.instanceMethod ⟨"java/lang/UnsupportedOperationException", "<init>", "(Ljava/lang/String;)V"⟩) ∈ G := g10_in _ (List.mem_of_getElem? (i := 6) rfl)
theorem wd284 : (Cond.code ⟨"java/lang/UnsupportedOperationException", "<init>", "(Ljava/lang/String;)V"⟩ prog_14_method_2_code 2 none) ∈ G := g10_in _ (List.mem_of_getElem? (i := 7) rfl)
theorem wd285 : (Cond.methodLink "java/lang/UnsupportedOperationException" 7 ⟨"java/lang/RuntimeException", "<init>", "(Ljava/lang/String;)V"⟩) ∈ G := g10_in _ (List.mem_of_getElem? (i := 8) rfl)
theorem wd286 : (Cond.lays "java/lang/UnsupportedOperationException" "java/lang/Throwable" "depth" "I") ∈ G := g10_in _ (List.mem_of_getElem? (i := 9) rfl)
theorem wd287 : (Cond.superclass "java/lang/UnsupportedOperationException" "java/lang/RuntimeException") ∈ G := g10_in _ (List.mem_of_getElem? (i := 10) rfl)
theorem wd288 : (Cond.methodLink RX2 63 yX2_writeStuffedIfDue) ∈ G := g10_in _ (List.mem_of_getElem? (i := 11) rfl)
theorem wd289 : (Cond.instanceMethod yX2_writeStuffedIfDue) ∈ G := g10_in _ (List.mem_of_getElem? (i := 12) rfl)
theorem wd290 : (Cond.code yX2_writeStuffedIfDue prog_1_method_21_code 1 none) ∈ G := g10_in _ (List.mem_of_getElem? (i := 13) rfl)
theorem wd291 : (Cond.methodLink RX2 108 yX0_setBit) ∈ G := g10_in _ (List.mem_of_getElem? (i := 14) rfl)
theorem wd292 : (Cond.instanceMethod yX0_setBit) ∈ G := g10_in _ (List.mem_of_getElem? (i := 15) rfl)
theorem wd293 : (Cond.selects RX0 yX0_setBit yX0_setBit) ∈ G := g10_in _ (List.mem_of_getElem? (i := 16) rfl)
theorem wd294 : (Cond.code yX0_setBit prog_2_method_6_code 5 none) ∈ G := g10_in _ (List.mem_of_getElem? (i := 17) rfl)
theorem wd295 : (Cond.methodLink RX0 36 ⟨"java/lang/Math", "max", "(II)I"⟩) ∈ G := g10_in _ (List.mem_of_getElem? (i := 18) rfl)
theorem wd296 : (Cond.methodLink RX2 69 yX2_shiftOf) ∈ G := g10_in _ (List.mem_of_getElem? (i := 19) rfl)
theorem wd297 : (Cond.instanceMethod yX2_shiftOf) ∈ G := g10_in _ (List.mem_of_getElem? (i := 20) rfl)
theorem wd298 : (Cond.code yX2_shiftOf prog_1_method_19_code 3 (some FieldType.int)) ∈ G := g10_in _ (List.mem_of_getElem? (i := 21) rfl)
theorem wd299 : (Cond.methodLink RX2 72 yX2_writeBit) ∈ G := g10_in _ (List.mem_of_getElem? (i := 22) rfl)
theorem wd300 : (Cond.instanceMethod yX2_writeBit) ∈ G := g10_in _ (List.mem_of_getElem? (i := 23) rfl)
theorem wd301 : (Cond.code yX2_writeBit prog_1_method_20_code 2 none) ∈ G := g10_in _ (List.mem_of_getElem? (i := 24) rfl)
theorem wd302 : (Cond.methodLink RL 72 yL_align) ∈ G := g10_in _ (List.mem_of_getElem? (i := 25) rfl)
theorem wd303 : (Cond.static yL_align) ∈ G := g10_in _ (List.mem_of_getElem? (i := 26) rfl)
theorem wd304 : (Cond.codeWith yL_align method_4_code 3 (some FieldType.int) [(0, 8, 11, 15)]) ∈ G := g10_in _ (List.mem_of_getElem? (i := 27) rfl)
theorem wd305 : (Cond.methodLink RL 17 yX2_align) ∈ G := g10_in _ (List.mem_of_getElem? (i := 28) rfl)
theorem wd306 : (Cond.instanceMethod yX2_align) ∈ G := g10_in _ (List.mem_of_getElem? (i := 29) rfl)
theorem wd307 : (Cond.selects RX2 yX2_align yX2_align) ∈ G := g11_in _ (List.mem_of_getElem? (i := 0) rfl)
theorem wd308 : (Cond.code yX2_align prog_1_method_3_code 1 (some FieldType.int)) ∈ G := g11_in _ (List.mem_of_getElem? (i := 1) rfl)
theorem wd309 : (Cond.methodLink RX2 75 yX2_writeTillAligned) ∈ G := g11_in _ (List.mem_of_getElem? (i := 2) rfl)
theorem wd310 : (Cond.instanceMethod yX2_writeTillAligned) ∈ G := g11_in _ (List.mem_of_getElem? (i := 3) rfl)
theorem wd311 : (Cond.code yX2_writeTillAligned prog_1_method_22_code 3 (some FieldType.int)) ∈ G := g11_in _ (List.mem_of_getElem? (i := 4) rfl)
theorem wd312 : (Cond.methodLink RL 76 yL_mark) ∈ G := g11_in _ (List.mem_of_getElem? (i := 5) rfl)
theorem wd313 : (Cond.static yL_mark) ∈ G := g11_in _ (List.mem_of_getElem? (i := 6) rfl)
theorem wd314 : (Cond.codeWith yL_mark method_5_code 4 (some FieldType.int) [(0, 9, 12, 25), (0, 9, 15, 13), (0, 9, 18, 15)]) ∈ G := g11_in _ (List.mem_of_getElem? (i := 7) rfl)
theorem wd315 : (Cond.classLink RL 25 "java/lang/IllegalStateException") ∈ G := g11_in _ (List.mem_of_getElem? (i := 8) rfl)
theorem wd316 : (Cond.methodLink RL 21 yX2_mark) ∈ G := g11_in _ (List.mem_of_getElem? (i := 9) rfl)
theorem wd317 : (Cond.instanceMethod yX2_mark) ∈ G := g11_in _ (List.mem_of_getElem? (i := 10) rfl)
theorem wd318 : (Cond.selects RX2 yX2_mark yX2_mark) ∈ G := g11_in _ (List.mem_of_getElem? (i := 11) rfl)
theorem wd319 : (Cond.code yX2_mark prog_1_method_4_code 3 (some FieldType.int)) ∈ G := g11_in _ (List.mem_of_getElem? (i := 12) rfl)
theorem wd320 : (Cond.classLink RX2 79 "java/lang/IllegalStateException") ∈ G := g11_in _ (List.mem_of_getElem? (i := 13) rfl)
theorem wd321 : (Cond.instantiable "java/lang/IllegalStateException" 6) ∈ G := g11_in _ (List.mem_of_getElem? (i := 14) rfl)
theorem wd322 : (Cond.selects "java/lang/IllegalStateException" ⟨"java/lang/Throwable", "fillInStackTrace", "(I)Ljava/lang/Throwable;"⟩ ⟨"java/lang/Throwable", "fillInStackTrace", "(I)Ljava/lang/Throwable;"⟩) ∈ G := g11_in _ (List.mem_of_getElem? (i := 15) rfl)
theorem wd323 : (Cond.lays "java/lang/IllegalStateException" "java/lang/Throwable" "cause" "Ljava/lang/Throwable;") ∈ G := g11_in _ (List.mem_of_getElem? (i := 16) rfl)
theorem wd324 : (Cond.lays "java/lang/IllegalStateException" "java/lang/Throwable" "stackTrace" "[Ljava/lang/StackTraceElement;") ∈ G := g11_in _ (List.mem_of_getElem? (i := 17) rfl)
theorem wd325 : (Cond.lays "java/lang/IllegalStateException" "java/lang/Throwable" "suppressedExceptions" "Ljava/util/List;") ∈ G := g11_in _ (List.mem_of_getElem? (i := 18) rfl)
theorem wd326 : (Cond.lays "java/lang/IllegalStateException" "java/lang/Throwable" "detailMessage" "Ljava/lang/String;") ∈ G := g11_in _ (List.mem_of_getElem? (i := 19) rfl)
theorem wd327 : (Cond.lays "java/lang/IllegalStateException" "java/lang/Throwable" "backtrace" "Ljava/lang/Object;") ∈ G := g11_in _ (List.mem_of_getElem? (i := 20) rfl)
theorem wd328 : (Cond.methodLink RX2 83 ⟨"java/lang/IllegalStateException", "<init>", "(Ljava/lang/String;)V"⟩) ∈ G := g11_in _ (List.mem_of_getElem? (i := 21) rfl)
theorem wd329 : (Cond.instanceMethod ⟨"java/lang/IllegalStateException", "<init>", "(Ljava/lang/String;)V"⟩) ∈ G := g11_in _ (List.mem_of_getElem? (i := 22) rfl)
theorem wd330 : (Cond.code ⟨"java/lang/IllegalStateException", "<init>", "(Ljava/lang/String;)V"⟩ prog_8_method_2_code 2 none) ∈ G := g11_in _ (List.mem_of_getElem? (i := 23) rfl)
theorem wd331 : (Cond.methodLink "java/lang/IllegalStateException" 7 ⟨"java/lang/RuntimeException", "<init>", "(Ljava/lang/String;)V"⟩) ∈ G := g11_in _ (List.mem_of_getElem? (i := 24) rfl)
theorem wd332 : (Cond.lays "java/lang/IllegalStateException" "java/lang/Throwable" "depth" "I") ∈ G := g11_in _ (List.mem_of_getElem? (i := 25) rfl)
theorem wd333 : (Cond.superclass "java/lang/IllegalStateException" "java/lang/RuntimeException") ∈ G := g11_in _ (List.mem_of_getElem? (i := 26) rfl)
theorem wd334 : (Cond.methodLink RX2 91 yX0_addByte) ∈ G := g11_in _ (List.mem_of_getElem? (i := 27) rfl)
theorem wd335 : (Cond.instanceMethod yX0_addByte) ∈ G := g11_in _ (List.mem_of_getElem? (i := 28) rfl)
theorem wd336 : (Cond.selects RX0 yX0_addByte yX0_addByte) ∈ G := g11_in _ (List.mem_of_getElem? (i := 29) rfl)
theorem wd337 : (Cond.code yX0_addByte prog_2_method_4_code 2 none) ∈ G := g12_in _ (List.mem_of_getElem? (i := 0) rfl)
theorem wd338 : (Cond.methodLink RL 80 yL_patch) ∈ G := g12_in _ (List.mem_of_getElem? (i := 1) rfl)
theorem wd339 : (Cond.static yL_patch) ∈ G := g12_in _ (List.mem_of_getElem? (i := 2) rfl)
theorem wd340 : (Cond.codeWith yL_patch method_6_code 6 (some FieldType.int) [(0, 12, 15, 25), (0, 12, 19, 13), (0, 12, 23, 31)]) ∈ G := g12_in _ (List.mem_of_getElem? (i := 3) rfl)
theorem wd341 : (Cond.classLink RL 31 "java/lang/IndexOutOfBoundsException") ∈ G := g12_in _ (List.mem_of_getElem? (i := 4) rfl)
theorem wd342 : (Cond.methodLink RL 27 yX2_patch) ∈ G := g12_in _ (List.mem_of_getElem? (i := 5) rfl)
theorem wd343 : (Cond.instanceMethod yX2_patch) ∈ G := g12_in _ (List.mem_of_getElem? (i := 6) rfl)
theorem wd344 : (Cond.selects RX2 yX2_patch yX2_patch) ∈ G := g12_in _ (List.mem_of_getElem? (i := 7) rfl)
theorem wd345 : (Cond.code yX2_patch prog_1_method_5_code 7 (some FieldType.int)) ∈ G := g12_in _ (List.mem_of_getElem? (i := 8) rfl)
theorem wd346 : (Cond.classLink RX2 99 "java/lang/IndexOutOfBoundsException") ∈ G := g12_in _ (List.mem_of_getElem? (i := 9) rfl)
theorem wd347 : (Cond.instantiable "java/lang/IndexOutOfBoundsException" 6) ∈ G := g12_in _ (List.mem_of_getElem? (i := 10) rfl)
theorem wd348 : (Cond.selects "java/lang/IndexOutOfBoundsException" ⟨"java/lang/Throwable", "fillInStackTrace", "(I)Ljava/lang/Throwable;"⟩ ⟨"java/lang/Throwable", "fillInStackTrace", "(I)Ljava/lang/Throwable;"⟩) ∈ G := g12_in _ (List.mem_of_getElem? (i := 11) rfl)
theorem wd349 : (Cond.lays "java/lang/IndexOutOfBoundsException" "java/lang/Throwable" "cause" "Ljava/lang/Throwable;") ∈ G := g12_in _ (List.mem_of_getElem? (i := 12) rfl)
theorem wd350 : (Cond.lays "java/lang/IndexOutOfBoundsException" "java/lang/Throwable" "stackTrace" "[Ljava/lang/StackTraceElement;") ∈ G := g12_in _ (List.mem_of_getElem? (i := 13) rfl)
theorem wd351 : (Cond.lays "java/lang/IndexOutOfBoundsException" "java/lang/Throwable" "suppressedExceptions" "Ljava/util/List;") ∈ G := g12_in _ (List.mem_of_getElem? (i := 14) rfl)
theorem wd352 : (Cond.lays "java/lang/IndexOutOfBoundsException" "java/lang/Throwable" "detailMessage" "Ljava/lang/String;") ∈ G := g12_in _ (List.mem_of_getElem? (i := 15) rfl)
theorem wd353 : (Cond.lays "java/lang/IndexOutOfBoundsException" "java/lang/Throwable" "backtrace" "Ljava/lang/Object;") ∈ G := g12_in _ (List.mem_of_getElem? (i := 16) rfl)
theorem wd354 : (Cond.methodLink RX2 103 ⟨"java/lang/IndexOutOfBoundsException", "<init>", "(Ljava/lang/String;)V"⟩) ∈ G := g12_in _ (List.mem_of_getElem? (i := 17) rfl)
theorem wd355 : (Cond.instanceMethod ⟨"java/lang/IndexOutOfBoundsException", "<init>", "(Ljava/lang/String;)V"⟩) ∈ G := g12_in _ (List.mem_of_getElem? (i := 18) rfl)
theorem wd356 : (Cond.code ⟨"java/lang/IndexOutOfBoundsException", "<init>", "(Ljava/lang/String;)V"⟩ prog_9_method_2_code 2 none) ∈ G := g12_in _ (List.mem_of_getElem? (i := 19) rfl)
theorem wd357 : (Cond.methodLink "java/lang/IndexOutOfBoundsException" 7 ⟨"java/lang/RuntimeException", "<init>", "(Ljava/lang/String;)V"⟩) ∈ G := g12_in _ (List.mem_of_getElem? (i := 20) rfl)
theorem wd358 : (Cond.lays "java/lang/IndexOutOfBoundsException" "java/lang/Throwable" "depth" "I") ∈ G := g12_in _ (List.mem_of_getElem? (i := 21) rfl)
theorem wd359 : (Cond.superclass "java/lang/IndexOutOfBoundsException" "java/lang/RuntimeException") ∈ G := g12_in _ (List.mem_of_getElem? (i := 22) rfl)
theorem wd360 : (Cond.methodLink RL 84 yL_byteAt) ∈ G := g12_in _ (List.mem_of_getElem? (i := 23) rfl)
theorem wd361 : (Cond.static yL_byteAt) ∈ G := g12_in _ (List.mem_of_getElem? (i := 24) rfl)
theorem wd362 : (Cond.codeWith yL_byteAt method_7_code 4 (some FieldType.int) [(0, 9, 12, 31)]) ∈ G := g12_in _ (List.mem_of_getElem? (i := 25) rfl)
theorem wd363 : (Cond.methodLink RL 33 yX2_byteAt) ∈ G := g12_in _ (List.mem_of_getElem? (i := 26) rfl)
theorem wd364 : (Cond.instanceMethod yX2_byteAt) ∈ G := g12_in _ (List.mem_of_getElem? (i := 27) rfl)
theorem wd365 : (Cond.selects RX2 yX2_byteAt yX2_byteAt) ∈ G := g12_in _ (List.mem_of_getElem? (i := 28) rfl)
theorem wd366 : (Cond.code yX2_byteAt prog_1_method_6_code 2 (some FieldType.int)) ∈ G := g12_in _ (List.mem_of_getElem? (i := 29) rfl)
theorem wd367 : (Cond.methodLink RL 87 yL_feed) ∈ G := g13_in _ (List.mem_of_getElem? (i := 0) rfl)
theorem wd368 : (Cond.static yL_feed) ∈ G := g13_in _ (List.mem_of_getElem? (i := 1) rfl)
theorem wd369 : (Cond.codeWith yL_feed method_8_code 4 (some FieldType.int) [(0, 9, 12, 13), (0, 9, 15, 15)]) ∈ G := g13_in _ (List.mem_of_getElem? (i := 2) rfl)
theorem wd370 : (Cond.methodLink RL 36 yX2_feed) ∈ G := g13_in _ (List.mem_of_getElem? (i := 3) rfl)
theorem wd371 : (Cond.instanceMethod yX2_feed) ∈ G := g13_in _ (List.mem_of_getElem? (i := 4) rfl)
theorem wd372 : (Cond.selects RX2 yX2_feed yX2_feed) ∈ G := g13_in _ (List.mem_of_getElem? (i := 5) rfl)
theorem wd373 : (Cond.code yX2_feed prog_1_method_7_code 2 (some FieldType.int)) ∈ G := g13_in _ (List.mem_of_getElem? (i := 6) rfl)
theorem wd374 : (Cond.methodLink RX2 122 yX2_refuseMoreBytes) ∈ G := g13_in _ (List.mem_of_getElem? (i := 7) rfl)
theorem wd375 : (Cond.instanceMethod yX2_refuseMoreBytes) ∈ G := g13_in _ (List.mem_of_getElem? (i := 8) rfl)
theorem wd376 : (Cond.code yX2_refuseMoreBytes prog_1_method_18_code 2 none) ∈ G := g13_in _ (List.mem_of_getElem? (i := 9) rfl)
theorem wd377 : (Cond.methodLink RL 90 yL_pass) ∈ G := g13_in _ (List.mem_of_getElem? (i := 10) rfl)
theorem wd378 : (Cond.static yL_pass) ∈ G := g13_in _ (List.mem_of_getElem? (i := 11) rfl)
theorem wd379 : (Cond.codeWith yL_pass method_9_code 5 (some FieldType.int) [(0, 10, 13, 31), (0, 10, 17, 13), (0, 10, 21, 15)]) ∈ G := g13_in _ (List.mem_of_getElem? (i := 12) rfl)
theorem wd380 : (Cond.methodLink RL 39 yX2_pass) ∈ G := g13_in _ (List.mem_of_getElem? (i := 13) rfl)
theorem wd381 : (Cond.instanceMethod yX2_pass) ∈ G := g13_in _ (List.mem_of_getElem? (i := 14) rfl)
theorem wd382 : (Cond.selects RX2 yX2_pass yX2_pass) ∈ G := g13_in _ (List.mem_of_getElem? (i := 15) rfl)
theorem wd383 : (Cond.code yX2_pass prog_1_method_8_code 6 (some FieldType.int)) ∈ G := g13_in _ (List.mem_of_getElem? (i := 16) rfl)
theorem wd384 : (Cond.methodLink RL 93 yL_get) ∈ G := g13_in _ (List.mem_of_getElem? (i := 17) rfl)
theorem wd385 : (Cond.static yL_get) ∈ G := g13_in _ (List.mem_of_getElem? (i := 18) rfl)
theorem wd386 : (Cond.codeWith yL_get method_10_code 4 (some FieldType.int) [(0, 8, 11, 13)]) ∈ G := g13_in _ (List.mem_of_getElem? (i := 19) rfl)
theorem wd387 : (Cond.methodLink RL 42 yX2_get) ∈ G := g13_in _ (List.mem_of_getElem? (i := 20) rfl)
theorem wd388 : (Cond.instanceMethod yX2_get) ∈ G := g13_in _ (List.mem_of_getElem? (i := 21) rfl)
theorem wd389 : (Cond.selects RX2 yX2_get yX2_get) ∈ G := g13_in _ (List.mem_of_getElem? (i := 22) rfl)
theorem wd390 : (Cond.code yX2_get prog_1_method_9_code 9 (some FieldType.long)) ∈ G := g13_in _ (List.mem_of_getElem? (i := 23) rfl)
theorem wd391 : (Cond.constantLong RX2 129 (-3)) ∈ G := g13_in _ (List.mem_of_getElem? (i := 24) rfl)
theorem wd392 : (Cond.methodLink RX2 137 yX2_readBit) ∈ G := g13_in _ (List.mem_of_getElem? (i := 25) rfl)
theorem wd393 : (Cond.instanceMethod yX2_readBit) ∈ G := g13_in _ (List.mem_of_getElem? (i := 26) rfl)
theorem wd394 : (Cond.code yX2_readBit prog_1_method_23_code 3 (some FieldType.int)) ∈ G := g13_in _ (List.mem_of_getElem? (i := 27) rfl)
theorem wd395 : (Cond.methodLink RX2 191 yX2_meetHere) ∈ G := g13_in _ (List.mem_of_getElem? (i := 28) rfl)
theorem wd396 : (Cond.instanceMethod yX2_meetHere) ∈ G := g13_in _ (List.mem_of_getElem? (i := 29) rfl)
theorem wd397 : (Cond.code yX2_meetHere prog_1_method_24_code 2 (some FieldType.int)) ∈ G := g14_in _ (List.mem_of_getElem? (i := 0) rfl)
theorem wd398 : (Cond.methodLink RX2 197 yX1_isWithin) ∈ G := g14_in _ (List.mem_of_getElem? (i := 1) rfl)
theorem wd399 : (Cond.instanceMethod yX1_isWithin) ∈ G := g14_in _ (List.mem_of_getElem? (i := 2) rfl)
theorem wd400 : (Cond.selects RX1 yX1_isWithin yX1_isWithin) ∈ G := g14_in _ (List.mem_of_getElem? (i := 3) rfl)
theorem wd401 : (Cond.code yX1_isWithin prog_3_method_4_code 1 (some FieldType.boolean)) ∈ G := g14_in _ (List.mem_of_getElem? (i := 4) rfl)
theorem wd402 : (Cond.methodLink RX2 194 yX2_readStuffedIfDue) ∈ G := g14_in _ (List.mem_of_getElem? (i := 5) rfl)
theorem wd403 : (Cond.instanceMethod yX2_readStuffedIfDue) ∈ G := g14_in _ (List.mem_of_getElem? (i := 6) rfl)
theorem wd404 : (Cond.code yX2_readStuffedIfDue prog_1_method_25_code 1 (some FieldType.int)) ∈ G := g14_in _ (List.mem_of_getElem? (i := 7) rfl)
theorem wd405 : (Cond.methodLink RX2 140 yX1_goBack) ∈ G := g14_in _ (List.mem_of_getElem? (i := 8) rfl)
theorem wd406 : (Cond.methodLink RL 104 yL_find) ∈ G := g14_in _ (List.mem_of_getElem? (i := 9) rfl)
theorem wd407 : (Cond.static yL_find) ∈ G := g14_in _ (List.mem_of_getElem? (i := 10) rfl)
theorem wd408 : (Cond.codeWith yL_find method_11_code 4 (some FieldType.int) [(0, 9, 12, 31)]) ∈ G := g14_in _ (List.mem_of_getElem? (i := 11) rfl)
theorem wd409 : (Cond.methodLink RL 46 yX2_find) ∈ G := g14_in _ (List.mem_of_getElem? (i := 12) rfl)
theorem wd410 : (Cond.instanceMethod yX2_find) ∈ G := g14_in _ (List.mem_of_getElem? (i := 13) rfl)
theorem wd411 : (Cond.selects RX2 yX2_find yX2_find) ∈ G := g14_in _ (List.mem_of_getElem? (i := 14) rfl)
theorem wd412 : (Cond.code yX2_find prog_1_method_12_code 3 (some FieldType.int)) ∈ G := g14_in _ (List.mem_of_getElem? (i := 15) rfl)
theorem wd413 : (Cond.methodLink RL 107 yL_sum) ∈ G := g14_in _ (List.mem_of_getElem? (i := 16) rfl)
theorem wd414 : (Cond.static yL_sum) ∈ G := g14_in _ (List.mem_of_getElem? (i := 17) rfl)
theorem wd415 : (Cond.codeWith yL_sum method_12_code 7 (some FieldType.int) [(0, 14, 17, 13), (0, 14, 21, 31)]) ∈ G := g14_in _ (List.mem_of_getElem? (i := 18) rfl)
theorem wd416 : (Cond.methodLink RL 49 yX2_sum) ∈ G := g14_in _ (List.mem_of_getElem? (i := 19) rfl)
theorem wd417 : (Cond.instanceMethod yX2_sum) ∈ G := g14_in _ (List.mem_of_getElem? (i := 20) rfl)
theorem wd418 : (Cond.selects RX2 yX2_sum yX2_sum) ∈ G := g14_in _ (List.mem_of_getElem? (i := 21) rfl)
theorem wd419 : (Cond.code yX2_sum prog_1_method_13_code 6 (some FieldType.int)) ∈ G := g14_in _ (List.mem_of_getElem? (i := 22) rfl)
theorem wd420 : (Cond.methodLink RX2 170 yX0_sumOf16) ∈ G := g14_in _ (List.mem_of_getElem? (i := 23) rfl)
theorem wd421 : (Cond.instanceMethod yX0_sumOf16) ∈ G := g14_in _ (List.mem_of_getElem? (i := 24) rfl)
theorem wd422 : (Cond.selects RX0 yX0_sumOf16 yX0_sumOf16) ∈ G := g14_in _ (List.mem_of_getElem? (i := 25) rfl)
theorem wd423 : (Cond.code yX0_sumOf16 prog_2_method_8_code 6 (some FieldType.int)) ∈ G := g14_in _ (List.mem_of_getElem? (i := 26) rfl)
theorem wd424 : (Cond.constant RX0 42 65535) ∈ G := g14_in _ (List.mem_of_getElem? (i := 27) rfl)
theorem wd425 : (Cond.constant RX0 43 32768) ∈ G := g14_in _ (List.mem_of_getElem? (i := 28) rfl)
theorem wd426 : (Cond.methodLink RX2 173 yX0_sumOf32) ∈ G := g14_in _ (List.mem_of_getElem? (i := 29) rfl)
theorem wd427 : (Cond.instanceMethod yX0_sumOf32) ∈ G := g15_in _ (List.mem_of_getElem? (i := 0) rfl)
theorem wd428 : (Cond.selects RX0 yX0_sumOf32 yX0_sumOf32) ∈ G := g15_in _ (List.mem_of_getElem? (i := 1) rfl)
theorem wd429 : (Cond.code yX0_sumOf32 prog_2_method_9_code 6 (some FieldType.int)) ∈ G := g15_in _ (List.mem_of_getElem? (i := 2) rfl)
theorem wd430 : (Cond.constant RX0 44 (-306674912)) ∈ G := g15_in _ (List.mem_of_getElem? (i := 3) rfl)
theorem wd431 : (Cond.classLink RL 62 RX3) ∈ G := g15_in _ (List.mem_of_getElem? (i := 4) rfl)
theorem wd432 : (Cond.instantiable RX3 19) ∈ G := g15_in _ (List.mem_of_getElem? (i := 5) rfl)
theorem wd433 : (Cond.methodLink RL 64 yX3_init) ∈ G := g15_in _ (List.mem_of_getElem? (i := 6) rfl)
theorem wd434 : (Cond.instanceMethod yX3_init) ∈ G := g15_in _ (List.mem_of_getElem? (i := 7) rfl)
theorem wd435 : (Cond.code yX3_init prog_5_method_1_code 3 none) ∈ G := g15_in _ (List.mem_of_getElem? (i := 8) rfl)
theorem wd436 : (Cond.methodLink RX3 1 objectInit) ∈ G := g15_in _ (List.mem_of_getElem? (i := 9) rfl)
theorem wd437 : (Cond.fieldLink RX3 25 RX3 "thrown" "I") ∈ G := g15_in _ (List.mem_of_getElem? (i := 10) rfl)
theorem wd438 : (Cond.fieldLink RX3 17 RX3 "stuffing" "I") ∈ G := g15_in _ (List.mem_of_getElem? (i := 11) rfl)
theorem wd439 : (Cond.fieldLink RX3 21 RX3 "low" "Z") ∈ G := g15_in _ (List.mem_of_getElem? (i := 12) rfl)
theorem wd440 : (Cond.fieldLink RX3 7 RX3 "bits" "[Z") ∈ G := g15_in _ (List.mem_of_getElem? (i := 13) rfl)
theorem wd441 : (Cond.fieldLink RX3 28 RX3 "written" "I") ∈ G := g15_in _ (List.mem_of_getElem? (i := 14) rfl)
theorem wd442 : (Cond.fieldLink RX3 38 RX3 "stuffed" "I") ∈ G := g15_in _ (List.mem_of_getElem? (i := 15) rfl)
theorem wd443 : (Cond.fieldLink RX3 48 RX3 "ones" "I") ∈ G := g15_in _ (List.mem_of_getElem? (i := 16) rfl)
theorem wd444 : (Cond.fieldLink RX3 35 RX3 "after" "Z") ∈ G := g15_in _ (List.mem_of_getElem? (i := 17) rfl)
theorem wd445 : (Cond.fieldLink RX3 13 RX3 "came" "[I") ∈ G := g15_in _ (List.mem_of_getElem? (i := 18) rfl)
theorem wd446 : (Cond.fieldLink RX3 76 RX3 "cameCount" "I") ∈ G := g15_in _ (List.mem_of_getElem? (i := 19) rfl)
theorem wd447 : (Cond.fieldLink RX3 100 RX3 "read" "I") ∈ G := g15_in _ (List.mem_of_getElem? (i := 20) rfl)
theorem wd448 : (Cond.fieldLink RX3 103 RX3 "readStuffed" "I") ∈ G := g15_in _ (List.mem_of_getElem? (i := 21) rfl)
theorem wd449 : (Cond.fieldLink RX3 106 RX3 "readOnes" "I") ∈ G := g15_in _ (List.mem_of_getElem? (i := 22) rfl)
theorem wd450 : (Cond.fieldLink RX3 109 RX3 "readAfter" "Z") ∈ G := g15_in _ (List.mem_of_getElem? (i := 23) rfl)
theorem wd451 : (Cond.fieldLink RX3 112 RX3 "bad" "Z") ∈ G := g15_in _ (List.mem_of_getElem? (i := 24) rfl)
theorem wd452 : (Cond.fieldLink RX3 79 RX3 "tried" "I") ∈ G := g15_in _ (List.mem_of_getElem? (i := 25) rfl)
theorem wd453 : (Cond.fieldLink RX3 91 RX3 "triedStuffed" "I") ∈ G := g15_in _ (List.mem_of_getElem? (i := 26) rfl)
theorem wd454 : (Cond.fieldLink RX3 97 RX3 "triedOnes" "I") ∈ G := g15_in _ (List.mem_of_getElem? (i := 27) rfl)
theorem wd455 : (Cond.fieldLink RX3 82 RX3 "triedAfter" "Z") ∈ G := g15_in _ (List.mem_of_getElem? (i := 28) rfl)
theorem wd456 : (Cond.lays RX3 RX3 "thrown" "I") ∈ G := g15_in _ (List.mem_of_getElem? (i := 29) rfl)
theorem wd457 : (Cond.soleField RX3 "thrown") ∈ G := g16_in _ (List.mem_of_getElem? (i := 0) rfl)
theorem wd458 : (Cond.laysFinal RX3 RX3 "stuffing" "I") ∈ G := g16_in _ (List.mem_of_getElem? (i := 1) rfl)
theorem wd459 : (Cond.soleField RX3 "stuffing") ∈ G := g16_in _ (List.mem_of_getElem? (i := 2) rfl)
theorem wd460 : (Cond.laysFinal RX3 RX3 "low" "Z") ∈ G := g16_in _ (List.mem_of_getElem? (i := 3) rfl)
theorem wd461 : (Cond.soleField RX3 "low") ∈ G := g17_in _ (List.mem_of_getElem? (i := 0) rfl)
theorem wd462 : (Cond.laysFinal RX3 RX3 "bits" "[Z") ∈ G := g17_in _ (List.mem_of_getElem? (i := 1) rfl)
theorem wd463 : (Cond.soleField RX3 "bits") ∈ G := g17_in _ (List.mem_of_getElem? (i := 2) rfl)
theorem wd464 : (Cond.lays RX3 RX3 "written" "I") ∈ G := g17_in _ (List.mem_of_getElem? (i := 3) rfl)
theorem wd465 : (Cond.soleField RX3 "written") ∈ G := g17_in _ (List.mem_of_getElem? (i := 4) rfl)
theorem wd466 : (Cond.lays RX3 RX3 "stuffed" "I") ∈ G := g17_in _ (List.mem_of_getElem? (i := 5) rfl)
theorem wd467 : (Cond.soleField RX3 "stuffed") ∈ G := g17_in _ (List.mem_of_getElem? (i := 6) rfl)
theorem wd468 : (Cond.lays RX3 RX3 "ones" "I") ∈ G := g17_in _ (List.mem_of_getElem? (i := 7) rfl)
theorem wd469 : (Cond.soleField RX3 "ones") ∈ G := g17_in _ (List.mem_of_getElem? (i := 8) rfl)
theorem wd470 : (Cond.lays RX3 RX3 "after" "Z") ∈ G := g17_in _ (List.mem_of_getElem? (i := 9) rfl)
theorem wd471 : (Cond.soleField RX3 "after") ∈ G := g17_in _ (List.mem_of_getElem? (i := 10) rfl)
theorem wd472 : (Cond.laysFinal RX3 RX3 "came" "[I") ∈ G := g17_in _ (List.mem_of_getElem? (i := 11) rfl)
theorem wd473 : (Cond.soleField RX3 "came") ∈ G := g17_in _ (List.mem_of_getElem? (i := 12) rfl)
theorem wd474 : (Cond.lays RX3 RX3 "cameCount" "I") ∈ G := g17_in _ (List.mem_of_getElem? (i := 13) rfl)
theorem wd475 : (Cond.soleField RX3 "cameCount") ∈ G := g17_in _ (List.mem_of_getElem? (i := 14) rfl)
theorem wd476 : (Cond.lays RX3 RX3 "read" "I") ∈ G := g17_in _ (List.mem_of_getElem? (i := 15) rfl)
theorem wd477 : (Cond.soleField RX3 "read") ∈ G := g17_in _ (List.mem_of_getElem? (i := 16) rfl)
theorem wd478 : (Cond.lays RX3 RX3 "readStuffed" "I") ∈ G := g17_in _ (List.mem_of_getElem? (i := 17) rfl)
theorem wd479 : (Cond.soleField RX3 "readStuffed") ∈ G := g17_in _ (List.mem_of_getElem? (i := 18) rfl)
theorem wd480 : (Cond.lays RX3 RX3 "readOnes" "I") ∈ G := g17_in _ (List.mem_of_getElem? (i := 19) rfl)
theorem wd481 : (Cond.soleField RX3 "readOnes") ∈ G := g17_in _ (List.mem_of_getElem? (i := 20) rfl)
theorem wd482 : (Cond.lays RX3 RX3 "readAfter" "Z") ∈ G := g17_in _ (List.mem_of_getElem? (i := 21) rfl)
theorem wd483 : (Cond.soleField RX3 "readAfter") ∈ G := g17_in _ (List.mem_of_getElem? (i := 22) rfl)
theorem wd484 : (Cond.lays RX3 RX3 "bad" "Z") ∈ G := g17_in _ (List.mem_of_getElem? (i := 23) rfl)
theorem wd485 : (Cond.soleField RX3 "bad") ∈ G := g17_in _ (List.mem_of_getElem? (i := 24) rfl)
theorem wd486 : (Cond.lays RX3 RX3 "tried" "I") ∈ G := g17_in _ (List.mem_of_getElem? (i := 25) rfl)
theorem wd487 : (Cond.soleField RX3 "tried") ∈ G := g17_in _ (List.mem_of_getElem? (i := 26) rfl)
theorem wd488 : (Cond.lays RX3 RX3 "triedStuffed" "I") ∈ G := g17_in _ (List.mem_of_getElem? (i := 27) rfl)
theorem wd489 : (Cond.soleField RX3 "triedStuffed") ∈ G := g17_in _ (List.mem_of_getElem? (i := 28) rfl)
theorem wd490 : (Cond.lays RX3 RX3 "triedOnes" "I") ∈ G := g17_in _ (List.mem_of_getElem? (i := 29) rfl)
theorem wd491 : (Cond.soleField RX3 "triedOnes") ∈ G := g18_in _ (List.mem_of_getElem? (i := 0) rfl)
theorem wd492 : (Cond.lays RX3 RX3 "triedAfter" "Z") ∈ G := g18_in _ (List.mem_of_getElem? (i := 1) rfl)
theorem wd493 : (Cond.soleField RX3 "triedAfter") ∈ G := g18_in _ (List.mem_of_getElem? (i := 2) rfl)
theorem wd494 : (Cond.superclass RX3 "java/lang/Object") ∈ G := g18_in _ (List.mem_of_getElem? (i := 3) rfl)
theorem wd495 : (Cond.arrayClass FieldType.boolean) ∈ G := g18_in _ (List.mem_of_getElem? (i := 4) rfl)
theorem wd496 : (Cond.methodLink RL 69 yX3_thrown) ∈ G := g18_in _ (List.mem_of_getElem? (i := 5) rfl)
theorem wd497 : (Cond.instanceMethod yX3_thrown) ∈ G := g18_in _ (List.mem_of_getElem? (i := 6) rfl)
theorem wd498 : (Cond.selects RX3 yX3_thrown yX3_thrown) ∈ G := g18_in _ (List.mem_of_getElem? (i := 7) rfl)
theorem wd499 : (Cond.code yX3_thrown prog_5_method_2_code 1 (some FieldType.int)) ∈ G := g18_in _ (List.mem_of_getElem? (i := 8) rfl)
theorem wd500 : (Cond.methodLink RL 68 yX3_put) ∈ G := g18_in _ (List.mem_of_getElem? (i := 9) rfl)
theorem wd501 : (Cond.instanceMethod yX3_put) ∈ G := g18_in _ (List.mem_of_getElem? (i := 10) rfl)
theorem wd502 : (Cond.selects RX3 yX3_put yX3_put) ∈ G := g18_in _ (List.mem_of_getElem? (i := 11) rfl)
theorem wd503 : (Cond.code yX3_put prog_5_method_9_code 6 (some FieldType.int)) ∈ G := g18_in _ (List.mem_of_getElem? (i := 12) rfl)
theorem wd504 : (Cond.constantLong RX3 51 32) ∈ G := g18_in _ (List.mem_of_getElem? (i := 13) rfl)
theorem wd505 : (Cond.methodLink RX3 53 yX3_isIn) ∈ G := g18_in _ (List.mem_of_getElem? (i := 14) rfl)
theorem wd506 : (Cond.static yX3_isIn) ∈ G := g18_in _ (List.mem_of_getElem? (i := 15) rfl)
theorem wd507 : (Cond.code yX3_isIn prog_5_method_3_code 6 (some FieldType.boolean)) ∈ G := g18_in _ (List.mem_of_getElem? (i := 16) rfl)
theorem wd508 : (Cond.methodLink RX3 57 yX3_isFull) ∈ G := g18_in _ (List.mem_of_getElem? (i := 17) rfl)
theorem wd509 : (Cond.instanceMethod yX3_isFull) ∈ G := g18_in _ (List.mem_of_getElem? (i := 18) rfl)
theorem wd510 : (Cond.code yX3_isFull prog_5_method_4_code 2 (some FieldType.boolean)) ∈ G := g18_in _ (List.mem_of_getElem? (i := 19) rfl)
theorem wd511 : (Cond.methodLink RX3 61 yX3_putBit) ∈ G := g18_in _ (List.mem_of_getElem? (i := 20) rfl)
theorem wd512 : (Cond.instanceMethod yX3_putBit) ∈ G := g18_in _ (List.mem_of_getElem? (i := 21) rfl)
theorem wd513 : (Cond.code yX3_putBit prog_5_method_8_code 3 (some FieldType.int)) ∈ G := g18_in _ (List.mem_of_getElem? (i := 22) rfl)
theorem wd514 : (Cond.methodLink RX3 45 yX3_stuff) ∈ G := g18_in _ (List.mem_of_getElem? (i := 23) rfl)
theorem wd515 : (Cond.instanceMethod yX3_stuff) ∈ G := g18_in _ (List.mem_of_getElem? (i := 24) rfl)
theorem wd516 : (Cond.code yX3_stuff prog_5_method_7_code 1 none) ∈ G := g18_in _ (List.mem_of_getElem? (i := 25) rfl)
theorem wd517 : (Cond.methodLink RX3 41 yX3_add) ∈ G := g18_in _ (List.mem_of_getElem? (i := 26) rfl)
theorem wd518 : (Cond.instanceMethod yX3_add) ∈ G := g18_in _ (List.mem_of_getElem? (i := 27) rfl)
theorem wd519 : (Cond.code yX3_add prog_5_method_6_code 2 none) ∈ G := g18_in _ (List.mem_of_getElem? (i := 28) rfl)
theorem wd520 : (Cond.methodLink RX3 31 yX3_byteOf) ∈ G := g18_in _ (List.mem_of_getElem? (i := 29) rfl)
theorem wd521 : (Cond.instanceMethod yX3_byteOf) ∈ G := g19_in _ (List.mem_of_getElem? (i := 0) rfl)
theorem wd522 : (Cond.code yX3_byteOf prog_5_method_5_code 6 (some FieldType.int)) ∈ G := g19_in _ (List.mem_of_getElem? (i := 1) rfl)
theorem wd523 : (Cond.methodLink RL 75 yX3_align) ∈ G := g19_in _ (List.mem_of_getElem? (i := 2) rfl)
theorem wd524 : (Cond.instanceMethod yX3_align) ∈ G := g19_in _ (List.mem_of_getElem? (i := 3) rfl)
theorem wd525 : (Cond.selects RX3 yX3_align yX3_align) ∈ G := g19_in _ (List.mem_of_getElem? (i := 4) rfl)
theorem wd526 : (Cond.code yX3_align prog_5_method_11_code 1 (some FieldType.int)) ∈ G := g19_in _ (List.mem_of_getElem? (i := 5) rfl)
theorem wd527 : (Cond.methodLink RX3 65 yX3_alignAll) ∈ G := g19_in _ (List.mem_of_getElem? (i := 6) rfl)
theorem wd528 : (Cond.instanceMethod yX3_alignAll) ∈ G := g19_in _ (List.mem_of_getElem? (i := 7) rfl)
theorem wd529 : (Cond.code yX3_alignAll prog_5_method_10_code 3 (some FieldType.int)) ∈ G := g19_in _ (List.mem_of_getElem? (i := 8) rfl)
theorem wd530 : (Cond.methodLink RL 79 yX3_mark) ∈ G := g19_in _ (List.mem_of_getElem? (i := 9) rfl)
theorem wd531 : (Cond.instanceMethod yX3_mark) ∈ G := g19_in _ (List.mem_of_getElem? (i := 10) rfl)
theorem wd532 : (Cond.selects RX3 yX3_mark yX3_mark) ∈ G := g19_in _ (List.mem_of_getElem? (i := 11) rfl)
theorem wd533 : (Cond.code yX3_mark prog_5_method_12_code 5 (some FieldType.int)) ∈ G := g19_in _ (List.mem_of_getElem? (i := 12) rfl)
theorem wd534 : (Cond.constantLong RX3 69 128) ∈ G := g19_in _ (List.mem_of_getElem? (i := 13) rfl)
theorem wd535 : (Cond.constantLong RX3 71 255) ∈ G := g19_in _ (List.mem_of_getElem? (i := 14) rfl)
theorem wd536 : (Cond.methodLink RL 83 yX3_patch) ∈ G := g19_in _ (List.mem_of_getElem? (i := 15) rfl)
theorem wd537 : (Cond.instanceMethod yX3_patch) ∈ G := g19_in _ (List.mem_of_getElem? (i := 16) rfl)
theorem wd538 : (Cond.selects RX3 yX3_patch yX3_patch) ∈ G := g19_in _ (List.mem_of_getElem? (i := 17) rfl)
theorem wd539 : (Cond.code yX3_patch prog_5_method_13_code 7 (some FieldType.int)) ∈ G := g19_in _ (List.mem_of_getElem? (i := 18) rfl)
theorem wd540 : (Cond.methodLink RL 86 yX3_byteAt) ∈ G := g19_in _ (List.mem_of_getElem? (i := 19) rfl)
theorem wd541 : (Cond.instanceMethod yX3_byteAt) ∈ G := g19_in _ (List.mem_of_getElem? (i := 20) rfl)
theorem wd542 : (Cond.selects RX3 yX3_byteAt yX3_byteAt) ∈ G := g19_in _ (List.mem_of_getElem? (i := 21) rfl)
theorem wd543 : (Cond.code yX3_byteAt prog_5_method_15_code 2 (some FieldType.int)) ∈ G := g19_in _ (List.mem_of_getElem? (i := 22) rfl)
theorem wd544 : (Cond.methodLink RX3 73 yX3_bytesWritten) ∈ G := g19_in _ (List.mem_of_getElem? (i := 23) rfl)
theorem wd545 : (Cond.instanceMethod yX3_bytesWritten) ∈ G := g19_in _ (List.mem_of_getElem? (i := 24) rfl)
theorem wd546 : (Cond.code yX3_bytesWritten prog_5_method_14_code 1 (some FieldType.int)) ∈ G := g19_in _ (List.mem_of_getElem? (i := 25) rfl)
theorem wd547 : (Cond.methodLink RL 89 yX3_feed) ∈ G := g19_in _ (List.mem_of_getElem? (i := 26) rfl)
theorem wd548 : (Cond.instanceMethod yX3_feed) ∈ G := g19_in _ (List.mem_of_getElem? (i := 27) rfl)
theorem wd549 : (Cond.selects RX3 yX3_feed yX3_feed) ∈ G := g19_in _ (List.mem_of_getElem? (i := 28) rfl)
theorem wd550 : (Cond.code yX3_feed prog_5_method_16_code 2 (some FieldType.int)) ∈ G := g19_in _ (List.mem_of_getElem? (i := 29) rfl)
theorem wd551 : (Cond.methodLink RL 92 yX3_pass) ∈ G := g20_in _ (List.mem_of_getElem? (i := 0) rfl)
theorem wd552 : (Cond.instanceMethod yX3_pass) ∈ G := g20_in _ (List.mem_of_getElem? (i := 1) rfl)
theorem wd553 : (Cond.selects RX3 yX3_pass yX3_pass) ∈ G := g20_in _ (List.mem_of_getElem? (i := 2) rfl)
theorem wd554 : (Cond.code yX3_pass prog_5_method_17_code 6 (some FieldType.int)) ∈ G := g20_in _ (List.mem_of_getElem? (i := 3) rfl)
theorem wd555 : (Cond.methodLink RL 95 yX3_get) ∈ G := g20_in _ (List.mem_of_getElem? (i := 4) rfl)
theorem wd556 : (Cond.instanceMethod yX3_get) ∈ G := g20_in _ (List.mem_of_getElem? (i := 5) rfl)
theorem wd557 : (Cond.selects RX3 yX3_get yX3_get) ∈ G := g20_in _ (List.mem_of_getElem? (i := 6) rfl)
theorem wd558 : (Cond.code yX3_get prog_5_method_25_code 6 (some FieldType.long)) ∈ G := g20_in _ (List.mem_of_getElem? (i := 7) rfl)
theorem wd559 : (Cond.constantLong RX3 115 (-3)) ∈ G := g20_in _ (List.mem_of_getElem? (i := 8) rfl)
theorem wd560 : (Cond.methodLink RX3 117 yX3_beginTry) ∈ G := g20_in _ (List.mem_of_getElem? (i := 9) rfl)
theorem wd561 : (Cond.instanceMethod yX3_beginTry) ∈ G := g20_in _ (List.mem_of_getElem? (i := 10) rfl)
theorem wd562 : (Cond.code yX3_beginTry prog_5_method_23_code 1 none) ∈ G := g20_in _ (List.mem_of_getElem? (i := 11) rfl)
theorem wd563 : (Cond.methodLink RX3 120 yX3_tryBit) ∈ G := g20_in _ (List.mem_of_getElem? (i := 12) rfl)
theorem wd564 : (Cond.instanceMethod yX3_tryBit) ∈ G := g20_in _ (List.mem_of_getElem? (i := 13) rfl)
theorem wd565 : (Cond.code yX3_tryBit prog_5_method_22_code 6 (some FieldType.int)) ∈ G := g20_in _ (List.mem_of_getElem? (i := 14) rfl)
theorem wd566 : (Cond.methodLink RX3 85 yX3_obstacle) ∈ G := g20_in _ (List.mem_of_getElem? (i := 15) rfl)
theorem wd567 : (Cond.instanceMethod yX3_obstacle) ∈ G := g20_in _ (List.mem_of_getElem? (i := 16) rfl)
theorem wd568 : (Cond.code yX3_obstacle prog_5_method_21_code 2 (some FieldType.int)) ∈ G := g20_in _ (List.mem_of_getElem? (i := 17) rfl)
theorem wd569 : (Cond.methodLink RX3 88 yX3_bitAt) ∈ G := g20_in _ (List.mem_of_getElem? (i := 18) rfl)
theorem wd570 : (Cond.instanceMethod yX3_bitAt) ∈ G := g20_in _ (List.mem_of_getElem? (i := 19) rfl)
theorem wd571 : (Cond.code yX3_bitAt prog_5_method_19_code 3 (some FieldType.int)) ∈ G := g20_in _ (List.mem_of_getElem? (i := 20) rfl)
theorem wd572 : (Cond.methodLink RX3 94 yX3_goOn) ∈ G := g20_in _ (List.mem_of_getElem? (i := 21) rfl)
theorem wd573 : (Cond.instanceMethod yX3_goOn) ∈ G := g20_in _ (List.mem_of_getElem? (i := 22) rfl)
theorem wd574 : (Cond.code yX3_goOn prog_5_method_20_code 1 none) ∈ G := g20_in _ (List.mem_of_getElem? (i := 23) rfl)
theorem wd575 : (Cond.constantLong RX3 123 2) ∈ G := g20_in _ (List.mem_of_getElem? (i := 24) rfl)
theorem wd576 : (Cond.methodLink RX3 125 yX3_keepTry) ∈ G := g20_in _ (List.mem_of_getElem? (i := 25) rfl)
theorem wd577 : (Cond.instanceMethod yX3_keepTry) ∈ G := g20_in _ (List.mem_of_getElem? (i := 26) rfl)
theorem wd578 : (Cond.code yX3_keepTry prog_5_method_24_code 1 none) ∈ G := g20_in _ (List.mem_of_getElem? (i := 27) rfl)
theorem wd579 : (Cond.methodLink RL 99 yX3_skip) ∈ G := g20_in _ (List.mem_of_getElem? (i := 28) rfl)
theorem wd580 : (Cond.instanceMethod yX3_skip) ∈ G := g20_in _ (List.mem_of_getElem? (i := 29) rfl)
theorem wd581 : (Cond.selects RX3 yX3_skip yX3_skip) ∈ G := g21_in _ (List.mem_of_getElem? (i := 0) rfl)
theorem wd582 : (Cond.code yX3_skip prog_5_method_26_code 4 (some FieldType.int)) ∈ G := g21_in _ (List.mem_of_getElem? (i := 1) rfl)
theorem wd583 : (Cond.methodLink RL 103 yX3_take) ∈ G := g21_in _ (List.mem_of_getElem? (i := 2) rfl)
theorem wd584 : (Cond.instanceMethod yX3_take) ∈ G := g21_in _ (List.mem_of_getElem? (i := 3) rfl)
theorem wd585 : (Cond.selects RX3 yX3_take yX3_take) ∈ G := g21_in _ (List.mem_of_getElem? (i := 4) rfl)
theorem wd586 : (Cond.code yX3_take prog_5_method_27_code 2 (some FieldType.int)) ∈ G := g21_in _ (List.mem_of_getElem? (i := 5) rfl)
theorem wd587 : (Cond.methodLink RX3 128 yX3_isMark) ∈ G := g21_in _ (List.mem_of_getElem? (i := 6) rfl)
theorem wd588 : (Cond.instanceMethod yX3_isMark) ∈ G := g21_in _ (List.mem_of_getElem? (i := 7) rfl)
theorem wd589 : (Cond.code yX3_isMark prog_5_method_18_code 2 (some FieldType.boolean)) ∈ G := g21_in _ (List.mem_of_getElem? (i := 8) rfl)
theorem wd590 : (Cond.methodLink RL 106 yX3_find) ∈ G := g21_in _ (List.mem_of_getElem? (i := 9) rfl)
theorem wd591 : (Cond.instanceMethod yX3_find) ∈ G := g21_in _ (List.mem_of_getElem? (i := 10) rfl)
theorem wd592 : (Cond.selects RX3 yX3_find yX3_find) ∈ G := g21_in _ (List.mem_of_getElem? (i := 11) rfl)
theorem wd593 : (Cond.code yX3_find prog_5_method_28_code 3 (some FieldType.int)) ∈ G := g21_in _ (List.mem_of_getElem? (i := 12) rfl)
theorem wd594 : (Cond.methodLink RL 110 yX3_sum) ∈ G := g21_in _ (List.mem_of_getElem? (i := 13) rfl)
theorem wd595 : (Cond.instanceMethod yX3_sum) ∈ G := g21_in _ (List.mem_of_getElem? (i := 14) rfl)
theorem wd596 : (Cond.selects RX3 yX3_sum yX3_sum) ∈ G := g21_in _ (List.mem_of_getElem? (i := 15) rfl)
theorem wd597 : (Cond.code yX3_sum prog_5_method_31_code 9 (some FieldType.int)) ∈ G := g21_in _ (List.mem_of_getElem? (i := 16) rfl)
theorem wd598 : (Cond.constant RX3 131 65535) ∈ G := g21_in _ (List.mem_of_getElem? (i := 17) rfl)
theorem wd599 : (Cond.methodLink RX3 133 yX3_sum16) ∈ G := g21_in _ (List.mem_of_getElem? (i := 18) rfl)
theorem wd600 : (Cond.static yX3_sum16) ∈ G := g21_in _ (List.mem_of_getElem? (i := 19) rfl)
theorem wd601 : (Cond.code yX3_sum16 prog_5_method_29_code 5 (some FieldType.int)) ∈ G := g21_in _ (List.mem_of_getElem? (i := 20) rfl)
theorem wd602 : (Cond.methodLink RX3 137 yX3_sum32) ∈ G := g21_in _ (List.mem_of_getElem? (i := 21) rfl)
theorem wd603 : (Cond.static yX3_sum32) ∈ G := g21_in _ (List.mem_of_getElem? (i := 22) rfl)
theorem wd604 : (Cond.code yX3_sum32 prog_5_method_30_code 5 (some FieldType.int)) ∈ G := g21_in _ (List.mem_of_getElem? (i := 23) rfl)
theorem wd605 : (Cond.constant RX3 132 (-306674912)) ∈ G := g21_in _ (List.mem_of_getElem? (i := 24) rfl)
theorem wd606 : (Cond.methodLink RL 114 yX3_told) ∈ G := g21_in _ (List.mem_of_getElem? (i := 25) rfl)
theorem wd607 : (Cond.instanceMethod yX3_told) ∈ G := g21_in _ (List.mem_of_getElem? (i := 26) rfl)
theorem wd608 : (Cond.selects RX3 yX3_told yX3_told) ∈ G := g21_in _ (List.mem_of_getElem? (i := 27) rfl)
theorem wd609 : (Cond.code yX3_told prog_5_method_32_code 2 (some FieldType.int)) ∈ G := g21_in _ (List.mem_of_getElem? (i := 28) rfl)
theorem wd610 : (Cond.methodLink RL 118 yX3_clear) ∈ G := g21_in _ (List.mem_of_getElem? (i := 29) rfl)
theorem wd611 : (Cond.instanceMethod yX3_clear) ∈ G := g22_in _ (List.mem_of_getElem? (i := 0) rfl)
theorem wd612 : (Cond.selects RX3 yX3_clear yX3_clear) ∈ G := g22_in _ (List.mem_of_getElem? (i := 1) rfl)
theorem wd613 : (Cond.code yX3_clear prog_5_method_33_code 1 none) ∈ G := g22_in _ (List.mem_of_getElem? (i := 2) rfl)
theorem wd614 : (Cond.arrayClass FieldType.long) ∈ G := g22_in _ (List.mem_of_getElem? (i := 3) rfl)
theorem wd615 : (Cond.sameMethod "java/lang/Throwable" "java/lang/Throwable" "fillInStackTrace" "(I)Ljava/lang/Throwable;") ∈ G := g22_in _ (List.mem_of_getElem? (i := 4) rfl)
theorem g0_good : ∀ w ∈ g0, goodWord w = true := by decide +kernel
theorem g1_good : ∀ w ∈ g1, goodWord w = true := by decide +kernel
theorem g2_good : ∀ w ∈ g2, goodWord w = true := by decide +kernel
theorem g3_good : ∀ w ∈ g3, goodWord w = true := by decide +kernel
theorem g4_good : ∀ w ∈ g4, goodWord w = true := by decide +kernel
theorem g5_good : ∀ w ∈ g5, goodWord w = true := by decide +kernel
theorem g6_good : ∀ w ∈ g6, goodWord w = true := by decide +kernel
theorem g7_good : ∀ w ∈ g7, goodWord w = true := by decide +kernel
theorem g8_good : ∀ w ∈ g8, goodWord w = true := by decide +kernel
theorem g9_good : ∀ w ∈ g9, goodWord w = true := by decide +kernel
theorem g10_good : ∀ w ∈ g10, goodWord w = true := by decide +kernel
theorem g11_good : ∀ w ∈ g11, goodWord w = true := by decide +kernel
theorem g12_good : ∀ w ∈ g12, goodWord w = true := by decide +kernel
theorem g13_good : ∀ w ∈ g13, goodWord w = true := by decide +kernel
theorem g14_good : ∀ w ∈ g14, goodWord w = true := by decide +kernel
theorem g15_good : ∀ w ∈ g15, goodWord w = true := by decide +kernel
theorem g16_good : ∀ w ∈ g16, goodWord w = true := by decide +kernel
theorem g17_good : ∀ w ∈ g17, goodWord w = true := by decide +kernel
theorem g18_good : ∀ w ∈ g18, goodWord w = true := by decide +kernel
theorem g19_good : ∀ w ∈ g19, goodWord w = true := by decide +kernel
theorem g20_good : ∀ w ∈ g20, goodWord w = true := by decide +kernel
theorem g21_good : ∀ w ∈ g21, goodWord w = true := by decide +kernel
theorem g22_good : ∀ w ∈ g22, goodWord w = true := by decide +kernel
theorem g0_tbl : ∀ w ∈ g0, w ∈ lw_tbl := fun w h => List.mem_append_left _ ((by decide +kernel : ∀ w ∈ g0, w ∈ k2_sels lw_privs) w h)
theorem g1_tbl : ∀ w ∈ g1, w ∈ lw_tbl := fun w h => List.mem_append_right _ (List.mem_append_left _ ((by decide +kernel : ∀ w ∈ g1, w ∈ tables_1_1) w h))
theorem g2_tbl : ∀ w ∈ g2, w ∈ lw_tbl := fun w h => List.mem_append_right _ (List.mem_append_left _ ((by decide +kernel : ∀ w ∈ g2, w ∈ tables_1_1) w h))
theorem g3_tbl : ∀ w ∈ g3, w ∈ lw_tbl := fun w h => List.mem_append_right _ (List.mem_append_left _ ((by decide +kernel : ∀ w ∈ g3, w ∈ tables_1_1) w h))
theorem g4_tbl : ∀ w ∈ g4, w ∈ lw_tbl := fun w h => List.mem_append_right _ (List.mem_append_left _ ((by decide +kernel : ∀ w ∈ g4, w ∈ tables_1_1) w h))
theorem g5_tbl : ∀ w ∈ g5, w ∈ lw_tbl := fun w h => List.mem_append_right _ (List.mem_append_left _ ((by decide +kernel : ∀ w ∈ g5, w ∈ tables_1_1) w h))
theorem g6_tbl : ∀ w ∈ g6, w ∈ lw_tbl := fun w h => List.mem_append_right _ (List.mem_append_left _ ((by decide +kernel : ∀ w ∈ g6, w ∈ tables_1_1) w h))
theorem g7_tbl : ∀ w ∈ g7, w ∈ lw_tbl := fun w h => List.mem_append_right _ (List.mem_append_left _ ((by decide +kernel : ∀ w ∈ g7, w ∈ tables_1_1) w h))
theorem g8_tbl : ∀ w ∈ g8, w ∈ lw_tbl := fun w h => List.mem_append_right _ (List.mem_append_left _ ((by decide +kernel : ∀ w ∈ g8, w ∈ tables_1_1) w h))
theorem g9_tbl : ∀ w ∈ g9, w ∈ lw_tbl := fun w h => List.mem_append_right _ (List.mem_append_right _ (List.mem_append_left _ ((by decide +kernel : ∀ w ∈ g9, w ∈ tables_1_2) w h)))
theorem g10_tbl : ∀ w ∈ g10, w ∈ lw_tbl := fun w h => List.mem_append_right _ (List.mem_append_right _ (List.mem_append_left _ ((by decide +kernel : ∀ w ∈ g10, w ∈ tables_1_2) w h)))
theorem g11_tbl : ∀ w ∈ g11, w ∈ lw_tbl := fun w h => List.mem_append_right _ (List.mem_append_right _ (List.mem_append_left _ ((by decide +kernel : ∀ w ∈ g11, w ∈ tables_1_2) w h)))
theorem g12_tbl : ∀ w ∈ g12, w ∈ lw_tbl := fun w h => List.mem_append_right _ (List.mem_append_right _ (List.mem_append_left _ ((by decide +kernel : ∀ w ∈ g12, w ∈ tables_1_2) w h)))
theorem g13_tbl : ∀ w ∈ g13, w ∈ lw_tbl := fun w h => List.mem_append_right _ (List.mem_append_right _ (List.mem_append_left _ ((by decide +kernel : ∀ w ∈ g13, w ∈ tables_1_2) w h)))
theorem g14_tbl : ∀ w ∈ g14, w ∈ lw_tbl := fun w h => List.mem_append_right _ (List.mem_append_right _ (List.mem_append_left _ ((by decide +kernel : ∀ w ∈ g14, w ∈ tables_1_2) w h)))
theorem g15_tbl : ∀ w ∈ g15, w ∈ lw_tbl := fun w h => List.mem_append_right _ (List.mem_append_right _ (List.mem_append_left _ ((by decide +kernel : ∀ w ∈ g15, w ∈ tables_1_2) w h)))
theorem g16_tbl : ∀ w ∈ g16, w ∈ lw_tbl := fun w h => List.mem_append_right _ (List.mem_append_right _ (List.mem_append_left _ ((by decide +kernel : ∀ w ∈ g16, w ∈ tables_1_2) w h)))
theorem g17_tbl : ∀ w ∈ g17, w ∈ lw_tbl := fun w h => List.mem_append_right _ (List.mem_append_right _ (List.mem_append_right _ ((by decide +kernel : ∀ w ∈ g17, w ∈ tables_1_3) w h)))
theorem g18_tbl : ∀ w ∈ g18, w ∈ lw_tbl := fun w h => List.mem_append_right _ (List.mem_append_right _ (List.mem_append_right _ ((by decide +kernel : ∀ w ∈ g18, w ∈ tables_1_3) w h)))
theorem g19_tbl : ∀ w ∈ g19, w ∈ lw_tbl := fun w h => List.mem_append_right _ (List.mem_append_right _ (List.mem_append_right _ ((by decide +kernel : ∀ w ∈ g19, w ∈ tables_1_3) w h)))
theorem g20_tbl : ∀ w ∈ g20, w ∈ lw_tbl := fun w h => List.mem_append_right _ (List.mem_append_right _ (List.mem_append_right _ ((by decide +kernel : ∀ w ∈ g20, w ∈ tables_1_3) w h)))
theorem g21_tbl : ∀ w ∈ g21, w ∈ lw_tbl := fun w h => List.mem_append_right _ (List.mem_append_right _ (List.mem_append_right _ ((by decide +kernel : ∀ w ∈ g21, w ∈ tables_1_3) w h)))
theorem g22_tbl : ∀ w ∈ g22, w ∈ lw_tbl := fun w h => List.mem_append_right _ (List.mem_append_right _ (List.mem_append_right _ ((by decide +kernel : ∀ w ∈ g22, w ∈ tables_1_3) w h)))
theorem G_good : ∀ w ∈ G, goodWord w = true := fun w h => (List.mem_append.mp h).elim (g0_good w) (fun h => (List.mem_append.mp h).elim (g1_good w) (fun h => (List.mem_append.mp h).elim (g2_good w) (fun h => (List.mem_append.mp h).elim (g3_good w) (fun h => (List.mem_append.mp h).elim (g4_good w) (fun h => (List.mem_append.mp h).elim (g5_good w) (fun h => (List.mem_append.mp h).elim (g6_good w) (fun h => (List.mem_append.mp h).elim (g7_good w) (fun h => (List.mem_append.mp h).elim (g8_good w) (fun h => (List.mem_append.mp h).elim (g9_good w) (fun h => (List.mem_append.mp h).elim (g10_good w) (fun h => (List.mem_append.mp h).elim (g11_good w) (fun h => (List.mem_append.mp h).elim (g12_good w) (fun h => (List.mem_append.mp h).elim (g13_good w) (fun h => (List.mem_append.mp h).elim (g14_good w) (fun h => (List.mem_append.mp h).elim (g15_good w) (fun h => (List.mem_append.mp h).elim (g16_good w) (fun h => (List.mem_append.mp h).elim (g17_good w) (fun h => (List.mem_append.mp h).elim (g18_good w) (fun h => (List.mem_append.mp h).elim (g19_good w) (fun h => (List.mem_append.mp h).elim (g20_good w) (fun h => (List.mem_append.mp h).elim (g21_good w) (fun h => g22_good w h))))))))))))))))))))))
theorem G_tbl : ∀ w ∈ G, w ∈ lw_tbl := fun w h => (List.mem_append.mp h).elim (g0_tbl w) (fun h => (List.mem_append.mp h).elim (g1_tbl w) (fun h => (List.mem_append.mp h).elim (g2_tbl w) (fun h => (List.mem_append.mp h).elim (g3_tbl w) (fun h => (List.mem_append.mp h).elim (g4_tbl w) (fun h => (List.mem_append.mp h).elim (g5_tbl w) (fun h => (List.mem_append.mp h).elim (g6_tbl w) (fun h => (List.mem_append.mp h).elim (g7_tbl w) (fun h => (List.mem_append.mp h).elim (g8_tbl w) (fun h => (List.mem_append.mp h).elim (g9_tbl w) (fun h => (List.mem_append.mp h).elim (g10_tbl w) (fun h => (List.mem_append.mp h).elim (g11_tbl w) (fun h => (List.mem_append.mp h).elim (g12_tbl w) (fun h => (List.mem_append.mp h).elim (g13_tbl w) (fun h => (List.mem_append.mp h).elim (g14_tbl w) (fun h => (List.mem_append.mp h).elim (g15_tbl w) (fun h => (List.mem_append.mp h).elim (g16_tbl w) (fun h => (List.mem_append.mp h).elim (g17_tbl w) (fun h => (List.mem_append.mp h).elim (g18_tbl w) (fun h => (List.mem_append.mp h).elim (g19_tbl w) (fun h => (List.mem_append.mp h).elim (g20_tbl w) (fun h => (List.mem_append.mp h).elim (g21_tbl w) (fun h => g22_tbl w h))))))))))))))))))))))
def Zw : List Cond := [(Cond.fieldLinkNest RX1 38 RX0 "count" "I" RX2), (Cond.fieldLinkNest RX2 112 RX0 "count" "I" RX2), (Cond.fieldLinkNest RX2 66 RX1 "place" "I" RX2), (Cond.fieldLinkNest RX2 131 RX1 "stuffed" "I" RX2), (Cond.fieldLinkNest RX2 134 RX1 "ones" "I" RX2), (Cond.castable "java/lang/IllegalArgumentException" "java/lang/IllegalArgumentException"), (Cond.declares ⟨"java/lang/RuntimeException", "<init>", "()V"⟩), (Cond.declares ⟨"java/lang/RuntimeException", "<init>", "(Ljava/lang/String;)V"⟩), (Cond.declares ⟨"java/lang/Exception", "<init>", "()V"⟩), (Cond.declares ⟨"java/lang/Exception", "<init>", "(Ljava/lang/String;)V"⟩), (Cond.declares ⟨"java/lang/Throwable", "<init>", "()V"⟩), (Cond.declares ⟨"java/lang/Throwable", "<init>", "(Ljava/lang/String;)V"⟩), (Cond.castable "java/lang/UnsupportedOperationException" "java/lang/UnsupportedOperationException"), (Cond.castable "java/lang/IllegalStateException" "java/lang/IllegalStateException"), (Cond.castable "java/lang/IndexOutOfBoundsException" "java/lang/IndexOutOfBoundsException")]
theorem Zw_tbl : ∀ w ∈ Zw, w ∈ lw_tbl := by decide +kernel
theorem zw0 : (Cond.fieldLinkNest RX1 38 RX0 "count" "I" RX2) ∈ Zw := List.mem_of_getElem? (i := 0) rfl
theorem zw1 : (Cond.fieldLinkNest RX2 112 RX0 "count" "I" RX2) ∈ Zw := List.mem_of_getElem? (i := 1) rfl
theorem zw2 : (Cond.fieldLinkNest RX2 66 RX1 "place" "I" RX2) ∈ Zw := List.mem_of_getElem? (i := 2) rfl
theorem zw3 : (Cond.fieldLinkNest RX2 131 RX1 "stuffed" "I" RX2) ∈ Zw := List.mem_of_getElem? (i := 3) rfl
theorem zw4 : (Cond.fieldLinkNest RX2 134 RX1 "ones" "I" RX2) ∈ Zw := List.mem_of_getElem? (i := 4) rfl
theorem zw5 : (Cond.castable "java/lang/IllegalArgumentException" "java/lang/IllegalArgumentException") ∈ Zw := List.mem_of_getElem? (i := 5) rfl
theorem zw6 : (Cond.declares ⟨"java/lang/RuntimeException", "<init>", "()V"⟩) ∈ Zw := List.mem_of_getElem? (i := 6) rfl
theorem zw7 : (Cond.declares ⟨"java/lang/RuntimeException", "<init>", "(Ljava/lang/String;)V"⟩) ∈ Zw := List.mem_of_getElem? (i := 7) rfl
theorem zw8 : (Cond.declares ⟨"java/lang/Exception", "<init>", "()V"⟩) ∈ Zw := List.mem_of_getElem? (i := 8) rfl
theorem zw9 : (Cond.declares ⟨"java/lang/Exception", "<init>", "(Ljava/lang/String;)V"⟩) ∈ Zw := List.mem_of_getElem? (i := 9) rfl
theorem zw10 : (Cond.declares ⟨"java/lang/Throwable", "<init>", "()V"⟩) ∈ Zw := List.mem_of_getElem? (i := 10) rfl
theorem zw11 : (Cond.declares ⟨"java/lang/Throwable", "<init>", "(Ljava/lang/String;)V"⟩) ∈ Zw := List.mem_of_getElem? (i := 11) rfl
theorem zw12 : (Cond.castable "java/lang/UnsupportedOperationException" "java/lang/UnsupportedOperationException") ∈ Zw := List.mem_of_getElem? (i := 12) rfl
theorem zw13 : (Cond.castable "java/lang/IllegalStateException" "java/lang/IllegalStateException") ∈ Zw := List.mem_of_getElem? (i := 13) rfl
theorem zw14 : (Cond.castable "java/lang/IndexOutOfBoundsException" "java/lang/IndexOutOfBoundsException") ∈ Zw := List.mem_of_getElem? (i := 14) rfl
end
section
theorem dX2_init_0 : decode cX2_init 0 = .ok (.aload_n 0, 1) := by decide +kernel
theorem dX2_init_1 : decode cX2_init 1 = .ok (.invokespecial 1, 3) := by decide +kernel
theorem dX2_init_4 : decode cX2_init 4 = .ok (.aload_n 0, 1) := by decide +kernel
theorem dX2_init_5 : decode cX2_init 5 = .ok (.iconst 0, 1) := by decide +kernel
theorem dX2_init_6 : decode cX2_init 6 = .ok (.bipush 16, 2) := by decide +kernel
theorem dX2_init_8 : decode cX2_init 8 = .ok (.iload_n 1, 1) := by decide +kernel
theorem dX2_init_9 : decode cX2_init 9 = .ok (.invokestatic 9, 3) := by decide +kernel
theorem dX2_init_12 : decode cX2_init 12 = .ok (.invokestatic 15, 3) := by decide +kernel
theorem dX2_init_15 : decode cX2_init 15 = .ok (.putfield 18, 3) := by decide +kernel
theorem dX2_init_18 : decode cX2_init 18 = .ok (.aload_n 0, 1) := by decide +kernel
theorem dX2_init_19 : decode cX2_init 19 = .ok (.iload_n 2, 1) := by decide +kernel
theorem dX2_init_20 : decode cX2_init 20 = .ok (.ifCond .eq 7, 3) := by decide +kernel
theorem dX2_init_23 : decode cX2_init 23 = .ok (.iconst 1, 1) := by decide +kernel
theorem dX2_init_24 : decode cX2_init 24 = .ok (.goto 4, 3) := by decide +kernel
theorem dX2_init_27 : decode cX2_init 27 = .ok (.iconst 0, 1) := by decide +kernel
theorem dX2_init_28 : decode cX2_init 28 = .ok (.putfield 22, 3) := by decide +kernel
theorem dX2_init_31 : decode cX2_init 31 = .ok (.aload_n 0, 1) := by decide +kernel
theorem dX2_init_32 : decode cX2_init 32 = .ok (.aload_n 0, 1) := by decide +kernel
theorem dX2_init_33 : decode cX2_init 33 = .ok (.getfield 22, 3) := by decide +kernel
theorem dX2_init_36 : decode cX2_init 36 = .ok (.ifCond .ne 11, 3) := by decide +kernel
theorem dX2_init_39 : decode cX2_init 39 = .ok (.aload_n 0, 1) := by decide +kernel
theorem dX2_init_40 : decode cX2_init 40 = .ok (.getfield 18, 3) := by decide +kernel
theorem dX2_init_43 : decode cX2_init 43 = .ok (.iconst 1, 1) := by decide +kernel
theorem dX2_init_44 : decode cX2_init 44 = .ok (.if_icmp .eq 7, 3) := by decide +kernel
theorem dX2_init_47 : decode cX2_init 47 = .ok (.iconst 1, 1) := by decide +kernel
theorem dX2_init_48 : decode cX2_init 48 = .ok (.goto 4, 3) := by decide +kernel
theorem dX2_init_51 : decode cX2_init 51 = .ok (.iconst 0, 1) := by decide +kernel
theorem dX2_init_52 : decode cX2_init 52 = .ok (.putfield 26, 3) := by decide +kernel
theorem dX2_init_55 : decode cX2_init 55 = .ok (.aload_n 0, 1) := by decide +kernel
theorem dX2_init_56 : decode cX2_init 56 = .ok (.new 29, 3) := by decide +kernel
theorem dX2_init_59 : decode cX2_init 59 = .ok (.dup, 1) := by decide +kernel
theorem dX2_init_60 : decode cX2_init 60 = .ok (.aload_n 0, 1) := by decide +kernel
theorem dX2_init_61 : decode cX2_init 61 = .ok (.getfield 22, 3) := by decide +kernel
theorem dX2_init_64 : decode cX2_init 64 = .ok (.invokespecial 31, 3) := by decide +kernel
theorem dX2_init_67 : decode cX2_init 67 = .ok (.putfield 34, 3) := by decide +kernel
theorem dX2_init_70 : decode cX2_init 70 = .ok (.aload_n 0, 1) := by decide +kernel
theorem dX2_init_71 : decode cX2_init 71 = .ok (.new 38, 3) := by decide +kernel
theorem dX2_init_74 : decode cX2_init 74 = .ok (.dup, 1) := by decide +kernel
theorem dX2_init_75 : decode cX2_init 75 = .ok (.aload_n 0, 1) := by decide +kernel
theorem dX2_init_76 : decode cX2_init 76 = .ok (.getfield 34, 3) := by decide +kernel
theorem dX2_init_79 : decode cX2_init 79 = .ok (.aload_n 0, 1) := by decide +kernel
theorem dX2_init_80 : decode cX2_init 80 = .ok (.getfield 18, 3) := by decide +kernel
theorem dX2_init_83 : decode cX2_init 83 = .ok (.aload_n 0, 1) := by decide +kernel
theorem dX2_init_84 : decode cX2_init 84 = .ok (.getfield 22, 3) := by decide +kernel
theorem dX2_init_87 : decode cX2_init 87 = .ok (.invokespecial 40, 3) := by decide +kernel
theorem dX2_init_90 : decode cX2_init 90 = .ok (.putfield 43, 3) := by decide +kernel
theorem dX2_init_93 : decode cX2_init 93 = .ok (.aload_n 0, 1) := by decide +kernel
theorem dX2_init_94 : decode cX2_init 94 = .ok (.new 29, 3) := by decide +kernel
theorem dX2_init_97 : decode cX2_init 97 = .ok (.dup, 1) := by decide +kernel
theorem dX2_init_98 : decode cX2_init 98 = .ok (.aload_n 0, 1) := by decide +kernel
theorem dX2_init_99 : decode cX2_init 99 = .ok (.getfield 22, 3) := by decide +kernel
theorem dX2_init_102 : decode cX2_init 102 = .ok (.invokespecial 31, 3) := by decide +kernel
theorem dX2_init_105 : decode cX2_init 105 = .ok (.putfield 47, 3) := by decide +kernel
theorem dX2_init_108 : decode cX2_init 108 = .ok (.aload_n 0, 1) := by decide +kernel
theorem dX2_init_109 : decode cX2_init 109 = .ok (.new 38, 3) := by decide +kernel
theorem dX2_init_112 : decode cX2_init 112 = .ok (.dup, 1) := by decide +kernel
theorem dX2_init_113 : decode cX2_init 113 = .ok (.aload_n 0, 1) := by decide +kernel
theorem dX2_init_114 : decode cX2_init 114 = .ok (.getfield 47, 3) := by decide +kernel
theorem dX2_init_117 : decode cX2_init 117 = .ok (.aload_n 0, 1) := by decide +kernel
theorem dX2_init_118 : decode cX2_init 118 = .ok (.getfield 18, 3) := by decide +kernel
theorem dX2_init_121 : decode cX2_init 121 = .ok (.aload_n 0, 1) := by decide +kernel
theorem dX2_init_122 : decode cX2_init 122 = .ok (.getfield 22, 3) := by decide +kernel
theorem dX2_init_125 : decode cX2_init 125 = .ok (.invokespecial 40, 3) := by decide +kernel
theorem dX2_init_128 : decode cX2_init 128 = .ok (.putfield 50, 3) := by decide +kernel
theorem dX2_init_131 : decode cX2_init 131 = .ok (.aload_n 0, 1) := by decide +kernel
theorem dX2_init_132 : decode cX2_init 132 = .ok (.iconst 0, 1) := by decide +kernel
theorem dX2_init_133 : decode cX2_init 133 = .ok (.putfield 53, 3) := by decide +kernel
theorem dX2_init_136 : decode cX2_init 136 = .ok (.return_, 1) := by decide +kernel
theorem dX0_init_0 : decode cX0_init 0 = .ok (.aload_n 0, 1) := by decide +kernel
theorem dX0_init_1 : decode cX0_init 1 = .ok (.invokespecial 3, 3) := by decide +kernel
theorem dX0_init_4 : decode cX0_init 4 = .ok (.aload_n 0, 1) := by decide +kernel
theorem dX0_init_5 : decode cX0_init 5 = .ok (.iload_n 1, 1) := by decide +kernel
theorem dX0_init_6 : decode cX0_init 6 = .ok (.putfield 9, 3) := by decide +kernel
theorem dX0_init_9 : decode cX0_init 9 = .ok (.aload_n 0, 1) := by decide +kernel
theorem dX0_init_10 : decode cX0_init 10 = .ok (.sipush 600, 3) := by decide +kernel
theorem dX0_init_13 : decode cX0_init 13 = .ok (.newarray .int, 2) := by decide +kernel
theorem dX0_init_15 : decode cX0_init 15 = .ok (.putfield 15, 3) := by decide +kernel
theorem dX0_init_18 : decode cX0_init 18 = .ok (.aload_n 0, 1) := by decide +kernel
theorem dX0_init_19 : decode cX0_init 19 = .ok (.iconst 0, 1) := by decide +kernel
theorem dX0_init_20 : decode cX0_init 20 = .ok (.putfield 19, 3) := by decide +kernel
theorem dX0_init_23 : decode cX0_init 23 = .ok (.return_, 1) := by decide +kernel
theorem dX1_init_0 : decode cX1_init 0 = .ok (.aload_n 0, 1) := by decide +kernel
theorem dX1_init_1 : decode cX1_init 1 = .ok (.invokespecial 3, 3) := by decide +kernel
theorem dX1_init_4 : decode cX1_init 4 = .ok (.aload_n 0, 1) := by decide +kernel
theorem dX1_init_5 : decode cX1_init 5 = .ok (.aload_n 1, 1) := by decide +kernel
theorem dX1_init_6 : decode cX1_init 6 = .ok (.putfield 9, 3) := by decide +kernel
theorem dX1_init_9 : decode cX1_init 9 = .ok (.aload_n 0, 1) := by decide +kernel
theorem dX1_init_10 : decode cX1_init 10 = .ok (.iload_n 2, 1) := by decide +kernel
theorem dX1_init_11 : decode cX1_init 11 = .ok (.putfield 15, 3) := by decide +kernel
theorem dX1_init_14 : decode cX1_init 14 = .ok (.aload_n 0, 1) := by decide +kernel
theorem dX1_init_15 : decode cX1_init 15 = .ok (.iload_n 3, 1) := by decide +kernel
theorem dX1_init_16 : decode cX1_init 16 = .ok (.ifCond .eq 8, 3) := by decide +kernel
theorem dX1_init_19 : decode cX1_init 19 = .ok (.bipush 7, 2) := by decide +kernel
theorem dX1_init_21 : decode cX1_init 21 = .ok (.goto 4, 3) := by decide +kernel
theorem dX1_init_24 : decode cX1_init 24 = .ok (.iconst 0, 1) := by decide +kernel
theorem dX1_init_25 : decode cX1_init 25 = .ok (.putfield 19, 3) := by decide +kernel
theorem dX1_init_28 : decode cX1_init 28 = .ok (.aload_n 0, 1) := by decide +kernel
theorem dX1_init_29 : decode cX1_init 29 = .ok (.iconst 0, 1) := by decide +kernel
theorem dX1_init_30 : decode cX1_init 30 = .ok (.putfield 22, 3) := by decide +kernel
theorem dX1_init_33 : decode cX1_init 33 = .ok (.aload_n 0, 1) := by decide +kernel
theorem dX1_init_34 : decode cX1_init 34 = .ok (.iconst 0, 1) := by decide +kernel
theorem dX1_init_35 : decode cX1_init 35 = .ok (.putfield 25, 3) := by decide +kernel
theorem dX1_init_38 : decode cX1_init 38 = .ok (.aload_n 0, 1) := by decide +kernel
theorem dX1_init_39 : decode cX1_init 39 = .ok (.iconst 0, 1) := by decide +kernel
theorem dX1_init_40 : decode cX1_init 40 = .ok (.putfield 28, 3) := by decide +kernel
theorem dX1_init_43 : decode cX1_init 43 = .ok (.aload_n 0, 1) := by decide +kernel
theorem dX1_init_44 : decode cX1_init 44 = .ok (.iconst 0, 1) := by decide +kernel
theorem dX1_init_45 : decode cX1_init 45 = .ok (.putfield 31, 3) := by decide +kernel
theorem dX1_init_48 : decode cX1_init 48 = .ok (.return_, 1) := by decide +kernel
theorem dX2_skip_0 : decode cX2_skip 0 = .ok (.aload_n 0, 1) := by decide +kernel
theorem dX2_skip_1 : decode cX2_skip 1 = .ok (.getfield 53, 3) := by decide +kernel
theorem dX2_skip_4 : decode cX2_skip 4 = .ok (.ifCond .ne 13, 3) := by decide +kernel
theorem dX2_skip_7 : decode cX2_skip 7 = .ok (.aload_n 0, 1) := by decide +kernel
theorem dX2_skip_8 : decode cX2_skip 8 = .ok (.getfield 50, 3) := by decide +kernel
theorem dX2_skip_11 : decode cX2_skip 11 = .ok (.invokevirtual 144, 3) := by decide +kernel
theorem dX2_skip_14 : decode cX2_skip 14 = .ok (.ifCond .eq 5, 3) := by decide +kernel
theorem dX2_skip_17 : decode cX2_skip 17 = .ok (.iconst 0, 1) := by decide +kernel
theorem dX2_skip_18 : decode cX2_skip 18 = .ok (.ireturn, 1) := by decide +kernel
theorem dX2_skip_19 : decode cX2_skip 19 = .ok (.iconst 0, 1) := by decide +kernel
theorem dX2_skip_20 : decode cX2_skip 20 = .ok (.istore_n 1, 1) := by decide +kernel
theorem dX2_skip_21 : decode cX2_skip 21 = .ok (.iconst 0, 1) := by decide +kernel
theorem dX2_skip_22 : decode cX2_skip 22 = .ok (.istore_n 2, 1) := by decide +kernel
theorem dX2_skip_23 : decode cX2_skip 23 = .ok (.iload_n 2, 1) := by decide +kernel
theorem dX2_skip_24 : decode cX2_skip 24 = .ok (.bipush 16, 2) := by decide +kernel
theorem dX2_skip_26 : decode cX2_skip 26 = .ok (.if_icmp .ge 63, 3) := by decide +kernel
theorem dX2_skip_29 : decode cX2_skip 29 = .ok (.aload_n 0, 1) := by decide +kernel
theorem dX2_skip_30 : decode cX2_skip 30 = .ok (.getfield 50, 3) := by decide +kernel
theorem dX2_skip_33 : decode cX2_skip 33 = .ok (.invokevirtual 144, 3) := by decide +kernel
theorem dX2_skip_36 : decode cX2_skip 36 = .ok (.ifCond .ne 53, 3) := by decide +kernel
theorem dX2_skip_39 : decode cX2_skip 39 = .ok (.aload_n 0, 1) := by decide +kernel
theorem dX2_skip_40 : decode cX2_skip 40 = .ok (.getfield 50, 3) := by decide +kernel
theorem dX2_skip_43 : decode cX2_skip 43 = .ok (.invokevirtual 148, 3) := by decide +kernel
theorem dX2_skip_46 : decode cX2_skip 46 = .ok (.ifCond .eq 13, 3) := by decide +kernel
theorem dX2_skip_49 : decode cX2_skip 49 = .ok (.aload_n 0, 1) := by decide +kernel
theorem dX2_skip_50 : decode cX2_skip 50 = .ok (.getfield 50, 3) := by decide +kernel
theorem dX2_skip_53 : decode cX2_skip 53 = .ok (.invokevirtual 151, 3) := by decide +kernel
theorem dX2_skip_56 : decode cX2_skip 56 = .ok (.goto 27, 3) := by decide +kernel
theorem dX2_skip_59 : decode cX2_skip 59 = .ok (.aload_n 0, 1) := by decide +kernel
theorem dX2_skip_60 : decode cX2_skip 60 = .ok (.getfield 50, 3) := by decide +kernel
theorem dX2_skip_63 : decode cX2_skip 63 = .ok (.aload_n 0, 1) := by decide +kernel
theorem dX2_skip_64 : decode cX2_skip 64 = .ok (.getfield 47, 3) := by decide +kernel
theorem dX2_skip_67 : decode cX2_skip 67 = .ok (.aload_n 0, 1) := by decide +kernel
theorem dX2_skip_68 : decode cX2_skip 68 = .ok (.getfield 50, 3) := by decide +kernel
theorem dX2_skip_71 : decode cX2_skip 71 = .ok (.getfield 66, 3) := by decide +kernel
theorem dX2_skip_74 : decode cX2_skip 74 = .ok (.invokevirtual 104, 3) := by decide +kernel
theorem dX2_skip_77 : decode cX2_skip 77 = .ok (.invokevirtual 154, 3) := by decide +kernel
theorem dX2_skip_80 : decode cX2_skip 80 = .ok (.iinc 1 1, 3) := by decide +kernel
theorem dX2_skip_83 : decode cX2_skip 83 = .ok (.iinc 2 1, 3) := by decide +kernel
theorem dX2_skip_86 : decode cX2_skip 86 = .ok (.goto (-63), 3) := by decide +kernel
theorem dX2_skip_89 : decode cX2_skip 89 = .ok (.aload_n 0, 1) := by decide +kernel
theorem dX2_skip_90 : decode cX2_skip 90 = .ok (.getfield 50, 3) := by decide +kernel
theorem dX2_skip_93 : decode cX2_skip 93 = .ok (.iconst 0, 1) := by decide +kernel
theorem dX2_skip_94 : decode cX2_skip 94 = .ok (.putfield 134, 3) := by decide +kernel
theorem dX2_skip_97 : decode cX2_skip 97 = .ok (.iload_n 1, 1) := by decide +kernel
theorem dX2_skip_98 : decode cX2_skip 98 = .ok (.ireturn, 1) := by decide +kernel
theorem dX1_isAligned_0 : decode cX1_isAligned 0 = .ok (.aload_n 0, 1) := by decide +kernel
theorem dX1_isAligned_1 : decode cX1_isAligned 1 = .ok (.invokevirtual 43, 3) := by decide +kernel
theorem dX1_isAligned_4 : decode cX1_isAligned 4 = .ok (.ifCond .eq 22, 3) := by decide +kernel
theorem dX1_isAligned_7 : decode cX1_isAligned 7 = .ok (.aload_n 0, 1) := by decide +kernel
theorem dX1_isAligned_8 : decode cX1_isAligned 8 = .ok (.getfield 15, 3) := by decide +kernel
theorem dX1_isAligned_11 : decode cX1_isAligned 11 = .ok (.iconst 1, 1) := by decide +kernel
theorem dX1_isAligned_12 : decode cX1_isAligned 12 = .ok (.if_icmp .ne 10, 3) := by decide +kernel
theorem dX1_isAligned_15 : decode cX1_isAligned 15 = .ok (.aload_n 0, 1) := by decide +kernel
theorem dX1_isAligned_16 : decode cX1_isAligned 16 = .ok (.invokevirtual 47, 3) := by decide +kernel
theorem dX1_isAligned_19 : decode cX1_isAligned 19 = .ok (.ifCond .ne 7, 3) := by decide +kernel
theorem dX1_isAligned_22 : decode cX1_isAligned 22 = .ok (.iconst 1, 1) := by decide +kernel
theorem dX1_isAligned_23 : decode cX1_isAligned 23 = .ok (.goto 4, 3) := by decide +kernel
theorem dX1_isAligned_26 : decode cX1_isAligned 26 = .ok (.iconst 0, 1) := by decide +kernel
theorem dX1_isAligned_27 : decode cX1_isAligned 27 = .ok (.ireturn, 1) := by decide +kernel
theorem dX1_isAtByte_0 : decode cX1_isAtByte 0 = .ok (.aload_n 0, 1) := by decide +kernel
theorem dX1_isAtByte_1 : decode cX1_isAtByte 1 = .ok (.getfield 22, 3) := by decide +kernel
theorem dX1_isAtByte_4 : decode cX1_isAtByte 4 = .ok (.bipush 7, 2) := by decide +kernel
theorem dX1_isAtByte_6 : decode cX1_isAtByte 6 = .ok (.iand, 1) := by decide +kernel
theorem dX1_isAtByte_7 : decode cX1_isAtByte 7 = .ok (.ifCond .ne 7, 3) := by decide +kernel
theorem dX1_isAtByte_10 : decode cX1_isAtByte 10 = .ok (.iconst 1, 1) := by decide +kernel
theorem dX1_isAtByte_11 : decode cX1_isAtByte 11 = .ok (.goto 4, 3) := by decide +kernel
theorem dX1_isAtByte_14 : decode cX1_isAtByte 14 = .ok (.iconst 0, 1) := by decide +kernel
theorem dX1_isAtByte_15 : decode cX1_isAtByte 15 = .ok (.ireturn, 1) := by decide +kernel
theorem dX1_isBehindFullByte_0 : decode cX1_isBehindFullByte 0 = .ok (.aload_n 0, 1) := by decide +kernel
theorem dX1_isBehindFullByte_1 : decode cX1_isBehindFullByte 1 = .ok (.getfield 22, 3) := by decide +kernel
theorem dX1_isBehindFullByte_4 : decode cX1_isBehindFullByte 4 = .ok (.iconst 3, 1) := by decide +kernel
theorem dX1_isBehindFullByte_5 : decode cX1_isBehindFullByte 5 = .ok (.ishr, 1) := by decide +kernel
theorem dX1_isBehindFullByte_6 : decode cX1_isBehindFullByte 6 = .ok (.istore_n 1, 1) := by decide +kernel
theorem dX1_isBehindFullByte_7 : decode cX1_isBehindFullByte 7 = .ok (.iload_n 1, 1) := by decide +kernel
theorem dX1_isBehindFullByte_8 : decode cX1_isBehindFullByte 8 = .ok (.ifCond .le 31, 3) := by decide +kernel
theorem dX1_isBehindFullByte_11 : decode cX1_isBehindFullByte 11 = .ok (.iload_n 1, 1) := by decide +kernel
theorem dX1_isBehindFullByte_12 : decode cX1_isBehindFullByte 12 = .ok (.aload_n 0, 1) := by decide +kernel
theorem dX1_isBehindFullByte_13 : decode cX1_isBehindFullByte 13 = .ok (.getfield 31, 3) := by decide +kernel
theorem dX1_isBehindFullByte_16 : decode cX1_isBehindFullByte 16 = .ok (.if_icmp .eq 23, 3) := by decide +kernel
theorem dX1_isBehindFullByte_19 : decode cX1_isBehindFullByte 19 = .ok (.aload_n 0, 1) := by decide +kernel
theorem dX1_isBehindFullByte_20 : decode cX1_isBehindFullByte 20 = .ok (.getfield 9, 3) := by decide +kernel
theorem dX1_isBehindFullByte_23 : decode cX1_isBehindFullByte 23 = .ok (.iload_n 1, 1) := by decide +kernel
theorem dX1_isBehindFullByte_24 : decode cX1_isBehindFullByte 24 = .ok (.iconst 1, 1) := by decide +kernel
theorem dX1_isBehindFullByte_25 : decode cX1_isBehindFullByte 25 = .ok (.isub, 1) := by decide +kernel
theorem dX1_isBehindFullByte_26 : decode cX1_isBehindFullByte 26 = .ok (.invokevirtual 50, 3) := by decide +kernel
theorem dX1_isBehindFullByte_29 : decode cX1_isBehindFullByte 29 = .ok (.sipush 255, 3) := by decide +kernel
theorem dX1_isBehindFullByte_32 : decode cX1_isBehindFullByte 32 = .ok (.if_icmp .ne 7, 3) := by decide +kernel
theorem dX1_isBehindFullByte_35 : decode cX1_isBehindFullByte 35 = .ok (.iconst 1, 1) := by decide +kernel
theorem dX1_isBehindFullByte_36 : decode cX1_isBehindFullByte 36 = .ok (.goto 4, 3) := by decide +kernel
theorem dX1_isBehindFullByte_39 : decode cX1_isBehindFullByte 39 = .ok (.iconst 0, 1) := by decide +kernel
theorem dX1_isBehindFullByte_40 : decode cX1_isBehindFullByte 40 = .ok (.ireturn, 1) := by decide +kernel
theorem dX0_byteOf_0 : decode cX0_byteOf 0 = .ok (.iload_n 1, 1) := by decide +kernel
theorem dX0_byteOf_1 : decode cX0_byteOf 1 = .ok (.ifCond .lt 21, 3) := by decide +kernel
theorem dX0_byteOf_4 : decode cX0_byteOf 4 = .ok (.iload_n 1, 1) := by decide +kernel
theorem dX0_byteOf_5 : decode cX0_byteOf 5 = .ok (.aload_n 0, 1) := by decide +kernel
theorem dX0_byteOf_6 : decode cX0_byteOf 6 = .ok (.getfield 15, 3) := by decide +kernel
theorem dX0_byteOf_9 : decode cX0_byteOf 9 = .ok (.arraylength, 1) := by decide +kernel
theorem dX0_byteOf_10 : decode cX0_byteOf 10 = .ok (.if_icmp .ge 12, 3) := by decide +kernel
theorem dX0_byteOf_13 : decode cX0_byteOf 13 = .ok (.aload_n 0, 1) := by decide +kernel
theorem dX0_byteOf_14 : decode cX0_byteOf 14 = .ok (.getfield 15, 3) := by decide +kernel
theorem dX0_byteOf_17 : decode cX0_byteOf 17 = .ok (.iload_n 1, 1) := by decide +kernel
theorem dX0_byteOf_18 : decode cX0_byteOf 18 = .ok (.iaload, 1) := by decide +kernel
theorem dX0_byteOf_19 : decode cX0_byteOf 19 = .ok (.goto 4, 3) := by decide +kernel
theorem dX0_byteOf_22 : decode cX0_byteOf 22 = .ok (.iconst 0, 1) := by decide +kernel
theorem dX0_byteOf_23 : decode cX0_byteOf 23 = .ok (.ireturn, 1) := by decide +kernel
theorem dX1_isStuffedDue_0 : decode cX1_isStuffedDue 0 = .ok (.aload_n 0, 1) := by decide +kernel
theorem dX1_isStuffedDue_1 : decode cX1_isStuffedDue 1 = .ok (.getfield 15, 3) := by decide +kernel
theorem dX1_isStuffedDue_4 : decode cX1_isStuffedDue 4 = .ok (.iconst 1, 1) := by decide +kernel
theorem dX1_isStuffedDue_5 : decode cX1_isStuffedDue 5 = .ok (.if_icmp .le 20, 3) := by decide +kernel
theorem dX1_isStuffedDue_8 : decode cX1_isStuffedDue 8 = .ok (.aload_n 0, 1) := by decide +kernel
theorem dX1_isStuffedDue_9 : decode cX1_isStuffedDue 9 = .ok (.getfield 28, 3) := by decide +kernel
theorem dX1_isStuffedDue_12 : decode cX1_isStuffedDue 12 = .ok (.aload_n 0, 1) := by decide +kernel
theorem dX1_isStuffedDue_13 : decode cX1_isStuffedDue 13 = .ok (.getfield 15, 3) := by decide +kernel
theorem dX1_isStuffedDue_16 : decode cX1_isStuffedDue 16 = .ok (.if_icmp .ne 7, 3) := by decide +kernel
theorem dX1_isStuffedDue_19 : decode cX1_isStuffedDue 19 = .ok (.iconst 1, 1) := by decide +kernel
theorem dX1_isStuffedDue_20 : decode cX1_isStuffedDue 20 = .ok (.goto 4, 3) := by decide +kernel
theorem dX1_isStuffedDue_23 : decode cX1_isStuffedDue 23 = .ok (.iconst 0, 1) := by decide +kernel
theorem dX1_isStuffedDue_24 : decode cX1_isStuffedDue 24 = .ok (.ireturn, 1) := by decide +kernel
theorem dX1_isStuffedDue_25 : decode cX1_isStuffedDue 25 = .ok (.aload_n 0, 1) := by decide +kernel
theorem dX1_isStuffedDue_26 : decode cX1_isStuffedDue 26 = .ok (.getfield 15, 3) := by decide +kernel
theorem dX1_isStuffedDue_29 : decode cX1_isStuffedDue 29 = .ok (.iconst 1, 1) := by decide +kernel
theorem dX1_isStuffedDue_30 : decode cX1_isStuffedDue 30 = .ok (.if_icmp .ne 28, 3) := by decide +kernel
theorem dX1_isStuffedDue_33 : decode cX1_isStuffedDue 33 = .ok (.aload_n 0, 1) := by decide +kernel
theorem dX1_isStuffedDue_34 : decode cX1_isStuffedDue 34 = .ok (.getfield 22, 3) := by decide +kernel
theorem dX1_isStuffedDue_37 : decode cX1_isStuffedDue 37 = .ok (.bipush 7, 2) := by decide +kernel
theorem dX1_isStuffedDue_39 : decode cX1_isStuffedDue 39 = .ok (.iand, 1) := by decide +kernel
theorem dX1_isStuffedDue_40 : decode cX1_isStuffedDue 40 = .ok (.aload_n 0, 1) := by decide +kernel
theorem dX1_isStuffedDue_41 : decode cX1_isStuffedDue 41 = .ok (.getfield 19, 3) := by decide +kernel
theorem dX1_isStuffedDue_44 : decode cX1_isStuffedDue 44 = .ok (.if_icmp .ne 14, 3) := by decide +kernel
theorem dX1_isStuffedDue_47 : decode cX1_isStuffedDue 47 = .ok (.aload_n 0, 1) := by decide +kernel
theorem dX1_isStuffedDue_48 : decode cX1_isStuffedDue 48 = .ok (.invokevirtual 47, 3) := by decide +kernel
theorem dX1_isStuffedDue_51 : decode cX1_isStuffedDue 51 = .ok (.ifCond .eq 7, 3) := by decide +kernel
theorem dX1_isStuffedDue_54 : decode cX1_isStuffedDue 54 = .ok (.iconst 1, 1) := by decide +kernel
theorem dX1_isStuffedDue_55 : decode cX1_isStuffedDue 55 = .ok (.goto 4, 3) := by decide +kernel
theorem dX1_isStuffedDue_58 : decode cX1_isStuffedDue 58 = .ok (.iconst 0, 1) := by decide +kernel
theorem dX1_isStuffedDue_59 : decode cX1_isStuffedDue 59 = .ok (.ireturn, 1) := by decide +kernel
theorem dX1_stepOverStuffed_0 : decode cX1_stepOverStuffed 0 = .ok (.aload_n 0, 1) := by decide +kernel
theorem dX1_stepOverStuffed_1 : decode cX1_stepOverStuffed 1 = .ok (.dup, 1) := by decide +kernel
theorem dX1_stepOverStuffed_2 : decode cX1_stepOverStuffed 2 = .ok (.getfield 22, 3) := by decide +kernel
theorem dX1_stepOverStuffed_5 : decode cX1_stepOverStuffed 5 = .ok (.iconst 1, 1) := by decide +kernel
theorem dX1_stepOverStuffed_6 : decode cX1_stepOverStuffed 6 = .ok (.iadd, 1) := by decide +kernel
theorem dX1_stepOverStuffed_7 : decode cX1_stepOverStuffed 7 = .ok (.putfield 22, 3) := by decide +kernel
theorem dX1_stepOverStuffed_10 : decode cX1_stepOverStuffed 10 = .ok (.aload_n 0, 1) := by decide +kernel
theorem dX1_stepOverStuffed_11 : decode cX1_stepOverStuffed 11 = .ok (.dup, 1) := by decide +kernel
theorem dX1_stepOverStuffed_12 : decode cX1_stepOverStuffed 12 = .ok (.getfield 25, 3) := by decide +kernel
theorem dX1_stepOverStuffed_15 : decode cX1_stepOverStuffed 15 = .ok (.iconst 1, 1) := by decide +kernel
theorem dX1_stepOverStuffed_16 : decode cX1_stepOverStuffed 16 = .ok (.iadd, 1) := by decide +kernel
theorem dX1_stepOverStuffed_17 : decode cX1_stepOverStuffed 17 = .ok (.putfield 25, 3) := by decide +kernel
theorem dX1_stepOverStuffed_20 : decode cX1_stepOverStuffed 20 = .ok (.aload_n 0, 1) := by decide +kernel
theorem dX1_stepOverStuffed_21 : decode cX1_stepOverStuffed 21 = .ok (.iconst 0, 1) := by decide +kernel
theorem dX1_stepOverStuffed_22 : decode cX1_stepOverStuffed 22 = .ok (.putfield 28, 3) := by decide +kernel
theorem dX1_stepOverStuffed_25 : decode cX1_stepOverStuffed 25 = .ok (.return_, 1) := by decide +kernel
theorem dX0_bitOf_0 : decode cX0_bitOf 0 = .ok (.aload_n 0, 1) := by decide +kernel
theorem dX0_bitOf_1 : decode cX0_bitOf 1 = .ok (.iload_n 1, 1) := by decide +kernel
theorem dX0_bitOf_2 : decode cX0_bitOf 2 = .ok (.iconst 3, 1) := by decide +kernel
theorem dX0_bitOf_3 : decode cX0_bitOf 3 = .ok (.ishr, 1) := by decide +kernel
theorem dX0_bitOf_4 : decode cX0_bitOf 4 = .ok (.invokevirtual 29, 3) := by decide +kernel
theorem dX0_bitOf_7 : decode cX0_bitOf 7 = .ok (.aload_n 0, 1) := by decide +kernel
theorem dX0_bitOf_8 : decode cX0_bitOf 8 = .ok (.iload_n 1, 1) := by decide +kernel
theorem dX0_bitOf_9 : decode cX0_bitOf 9 = .ok (.invokevirtual 33, 3) := by decide +kernel
theorem dX0_bitOf_12 : decode cX0_bitOf 12 = .ok (.ishr, 1) := by decide +kernel
theorem dX0_bitOf_13 : decode cX0_bitOf 13 = .ok (.iconst 1, 1) := by decide +kernel
theorem dX0_bitOf_14 : decode cX0_bitOf 14 = .ok (.iand, 1) := by decide +kernel
theorem dX0_bitOf_15 : decode cX0_bitOf 15 = .ok (.ireturn, 1) := by decide +kernel
theorem dX0_shiftInByte_0 : decode cX0_shiftInByte 0 = .ok (.aload_n 0, 1) := by decide +kernel
theorem dX0_shiftInByte_1 : decode cX0_shiftInByte 1 = .ok (.getfield 9, 3) := by decide +kernel
theorem dX0_shiftInByte_4 : decode cX0_shiftInByte 4 = .ok (.ifCond .eq 10, 3) := by decide +kernel
theorem dX0_shiftInByte_7 : decode cX0_shiftInByte 7 = .ok (.iload_n 1, 1) := by decide +kernel
theorem dX0_shiftInByte_8 : decode cX0_shiftInByte 8 = .ok (.bipush 7, 2) := by decide +kernel
theorem dX0_shiftInByte_10 : decode cX0_shiftInByte 10 = .ok (.iand, 1) := by decide +kernel
theorem dX0_shiftInByte_11 : decode cX0_shiftInByte 11 = .ok (.goto 10, 3) := by decide +kernel
theorem dX0_shiftInByte_14 : decode cX0_shiftInByte 14 = .ok (.bipush 7, 2) := by decide +kernel
theorem dX0_shiftInByte_16 : decode cX0_shiftInByte 16 = .ok (.iload_n 1, 1) := by decide +kernel
theorem dX0_shiftInByte_17 : decode cX0_shiftInByte 17 = .ok (.bipush 7, 2) := by decide +kernel
theorem dX0_shiftInByte_19 : decode cX0_shiftInByte 19 = .ok (.iand, 1) := by decide +kernel
theorem dX0_shiftInByte_20 : decode cX0_shiftInByte 20 = .ok (.isub, 1) := by decide +kernel
theorem dX0_shiftInByte_21 : decode cX0_shiftInByte 21 = .ok (.ireturn, 1) := by decide +kernel
theorem dX1_stepOver_0 : decode cX1_stepOver 0 = .ok (.aload_n 0, 1) := by decide +kernel
theorem dX1_stepOver_1 : decode cX1_stepOver 1 = .ok (.dup, 1) := by decide +kernel
theorem dX1_stepOver_2 : decode cX1_stepOver 2 = .ok (.getfield 22, 3) := by decide +kernel
theorem dX1_stepOver_5 : decode cX1_stepOver 5 = .ok (.iconst 1, 1) := by decide +kernel
theorem dX1_stepOver_6 : decode cX1_stepOver 6 = .ok (.iadd, 1) := by decide +kernel
theorem dX1_stepOver_7 : decode cX1_stepOver 7 = .ok (.putfield 22, 3) := by decide +kernel
theorem dX1_stepOver_10 : decode cX1_stepOver 10 = .ok (.aload_n 0, 1) := by decide +kernel
theorem dX1_stepOver_11 : decode cX1_stepOver 11 = .ok (.iload_n 1, 1) := by decide +kernel
theorem dX1_stepOver_12 : decode cX1_stepOver 12 = .ok (.iconst 1, 1) := by decide +kernel
theorem dX1_stepOver_13 : decode cX1_stepOver 13 = .ok (.if_icmp .ne 12, 3) := by decide +kernel
theorem dX1_stepOver_16 : decode cX1_stepOver 16 = .ok (.aload_n 0, 1) := by decide +kernel
theorem dX1_stepOver_17 : decode cX1_stepOver 17 = .ok (.getfield 28, 3) := by decide +kernel
theorem dX1_stepOver_20 : decode cX1_stepOver 20 = .ok (.iconst 1, 1) := by decide +kernel
theorem dX1_stepOver_21 : decode cX1_stepOver 21 = .ok (.iadd, 1) := by decide +kernel
theorem dX1_stepOver_22 : decode cX1_stepOver 22 = .ok (.goto 4, 3) := by decide +kernel
theorem dX1_stepOver_25 : decode cX1_stepOver 25 = .ok (.iconst 0, 1) := by decide +kernel
theorem dX1_stepOver_26 : decode cX1_stepOver 26 = .ok (.putfield 28, 3) := by decide +kernel
theorem dX1_stepOver_29 : decode cX1_stepOver 29 = .ok (.return_, 1) := by decide +kernel
theorem dX2_take_0 : decode cX2_take 0 = .ok (.aload_n 0, 1) := by decide +kernel
theorem dX2_take_1 : decode cX2_take 1 = .ok (.getfield 50, 3) := by decide +kernel
theorem dX2_take_4 : decode cX2_take 4 = .ok (.getfield 66, 3) := by decide +kernel
theorem dX2_take_7 : decode cX2_take 7 = .ok (.iconst 3, 1) := by decide +kernel
theorem dX2_take_8 : decode cX2_take 8 = .ok (.ishr, 1) := by decide +kernel
theorem dX2_take_9 : decode cX2_take 9 = .ok (.istore_n 1, 1) := by decide +kernel
theorem dX2_take_10 : decode cX2_take 10 = .ok (.aload_n 0, 1) := by decide +kernel
theorem dX2_take_11 : decode cX2_take 11 = .ok (.getfield 53, 3) := by decide +kernel
theorem dX2_take_14 : decode cX2_take 14 = .ok (.ifCond .ne 32, 3) := by decide +kernel
theorem dX2_take_17 : decode cX2_take 17 = .ok (.aload_n 0, 1) := by decide +kernel
theorem dX2_take_18 : decode cX2_take 18 = .ok (.getfield 18, 3) := by decide +kernel
theorem dX2_take_21 : decode cX2_take 21 = .ok (.iconst 1, 1) := by decide +kernel
theorem dX2_take_22 : decode cX2_take 22 = .ok (.if_icmp .ne 24, 3) := by decide +kernel
theorem dX2_take_25 : decode cX2_take 25 = .ok (.aload_n 0, 1) := by decide +kernel
theorem dX2_take_26 : decode cX2_take 26 = .ok (.getfield 50, 3) := by decide +kernel
theorem dX2_take_29 : decode cX2_take 29 = .ok (.invokevirtual 157, 3) := by decide +kernel
theorem dX2_take_32 : decode cX2_take 32 = .ok (.ifCond .eq 14, 3) := by decide +kernel
theorem dX2_take_35 : decode cX2_take 35 = .ok (.aload_n 0, 1) := by decide +kernel
theorem dX2_take_36 : decode cX2_take 36 = .ok (.getfield 47, 3) := by decide +kernel
theorem dX2_take_39 : decode cX2_take 39 = .ok (.iload_n 1, 1) := by decide +kernel
theorem dX2_take_40 : decode cX2_take 40 = .ok (.invokevirtual 160, 3) := by decide +kernel
theorem dX2_take_43 : decode cX2_take 43 = .ok (.ifCond .ne 5, 3) := by decide +kernel
theorem dX2_take_46 : decode cX2_take 46 = .ok (.iconst (-1), 1) := by decide +kernel
theorem dX2_take_47 : decode cX2_take 47 = .ok (.ireturn, 1) := by decide +kernel
theorem dX2_take_48 : decode cX2_take 48 = .ok (.aload_n 0, 1) := by decide +kernel
theorem dX2_take_49 : decode cX2_take 49 = .ok (.getfield 50, 3) := by decide +kernel
theorem dX2_take_52 : decode cX2_take 52 = .ok (.invokevirtual 94, 3) := by decide +kernel
theorem dX2_take_55 : decode cX2_take 55 = .ok (.aload_n 0, 1) := by decide +kernel
theorem dX2_take_56 : decode cX2_take 56 = .ok (.getfield 47, 3) := by decide +kernel
theorem dX2_take_59 : decode cX2_take 59 = .ok (.iload_n 1, 1) := by decide +kernel
theorem dX2_take_60 : decode cX2_take 60 = .ok (.iconst 1, 1) := by decide +kernel
theorem dX2_take_61 : decode cX2_take 61 = .ok (.iadd, 1) := by decide +kernel
theorem dX2_take_62 : decode cX2_take 62 = .ok (.invokevirtual 117, 3) := by decide +kernel
theorem dX2_take_65 : decode cX2_take 65 = .ok (.ireturn, 1) := by decide +kernel
theorem dX0_isMarkAt_0 : decode cX0_isMarkAt 0 = .ok (.iload_n 1, 1) := by decide +kernel
theorem dX0_isMarkAt_1 : decode cX0_isMarkAt 1 = .ok (.iconst 1, 1) := by decide +kernel
theorem dX0_isMarkAt_2 : decode cX0_isMarkAt 2 = .ok (.iadd, 1) := by decide +kernel
theorem dX0_isMarkAt_3 : decode cX0_isMarkAt 3 = .ok (.aload_n 0, 1) := by decide +kernel
theorem dX0_isMarkAt_4 : decode cX0_isMarkAt 4 = .ok (.getfield 19, 3) := by decide +kernel
theorem dX0_isMarkAt_7 : decode cX0_isMarkAt 7 = .ok (.if_icmp .ge 31, 3) := by decide +kernel
theorem dX0_isMarkAt_10 : decode cX0_isMarkAt 10 = .ok (.aload_n 0, 1) := by decide +kernel
theorem dX0_isMarkAt_11 : decode cX0_isMarkAt 11 = .ok (.iload_n 1, 1) := by decide +kernel
theorem dX0_isMarkAt_12 : decode cX0_isMarkAt 12 = .ok (.invokevirtual 29, 3) := by decide +kernel
theorem dX0_isMarkAt_15 : decode cX0_isMarkAt 15 = .ok (.sipush 255, 3) := by decide +kernel
theorem dX0_isMarkAt_18 : decode cX0_isMarkAt 18 = .ok (.if_icmp .ne 20, 3) := by decide +kernel
theorem dX0_isMarkAt_21 : decode cX0_isMarkAt 21 = .ok (.aload_n 0, 1) := by decide +kernel
theorem dX0_isMarkAt_22 : decode cX0_isMarkAt 22 = .ok (.iload_n 1, 1) := by decide +kernel
theorem dX0_isMarkAt_23 : decode cX0_isMarkAt 23 = .ok (.iconst 1, 1) := by decide +kernel
theorem dX0_isMarkAt_24 : decode cX0_isMarkAt 24 = .ok (.iadd, 1) := by decide +kernel
theorem dX0_isMarkAt_25 : decode cX0_isMarkAt 25 = .ok (.invokevirtual 29, 3) := by decide +kernel
theorem dX0_isMarkAt_28 : decode cX0_isMarkAt 28 = .ok (.sipush 128, 3) := by decide +kernel
theorem dX0_isMarkAt_31 : decode cX0_isMarkAt 31 = .ok (.if_icmp .lt 7, 3) := by decide +kernel
theorem dX0_isMarkAt_34 : decode cX0_isMarkAt 34 = .ok (.iconst 1, 1) := by decide +kernel
theorem dX0_isMarkAt_35 : decode cX0_isMarkAt 35 = .ok (.goto 4, 3) := by decide +kernel
theorem dX0_isMarkAt_38 : decode cX0_isMarkAt 38 = .ok (.iconst 0, 1) := by decide +kernel
theorem dX0_isMarkAt_39 : decode cX0_isMarkAt 39 = .ok (.ireturn, 1) := by decide +kernel
theorem dX1_stepOverMark_0 : decode cX1_stepOverMark 0 = .ok (.aload_n 0, 1) := by decide +kernel
theorem dX1_stepOverMark_1 : decode cX1_stepOverMark 1 = .ok (.dup, 1) := by decide +kernel
theorem dX1_stepOverMark_2 : decode cX1_stepOverMark 2 = .ok (.getfield 22, 3) := by decide +kernel
theorem dX1_stepOverMark_5 : decode cX1_stepOverMark 5 = .ok (.bipush 16, 2) := by decide +kernel
theorem dX1_stepOverMark_7 : decode cX1_stepOverMark 7 = .ok (.iadd, 1) := by decide +kernel
theorem dX1_stepOverMark_8 : decode cX1_stepOverMark 8 = .ok (.putfield 22, 3) := by decide +kernel
theorem dX1_stepOverMark_11 : decode cX1_stepOverMark 11 = .ok (.aload_n 0, 1) := by decide +kernel
theorem dX1_stepOverMark_12 : decode cX1_stepOverMark 12 = .ok (.aload_n 0, 1) := by decide +kernel
theorem dX1_stepOverMark_13 : decode cX1_stepOverMark 13 = .ok (.getfield 22, 3) := by decide +kernel
theorem dX1_stepOverMark_16 : decode cX1_stepOverMark 16 = .ok (.iconst 3, 1) := by decide +kernel
theorem dX1_stepOverMark_17 : decode cX1_stepOverMark 17 = .ok (.ishr, 1) := by decide +kernel
theorem dX1_stepOverMark_18 : decode cX1_stepOverMark 18 = .ok (.putfield 31, 3) := by decide +kernel
theorem dX1_stepOverMark_21 : decode cX1_stepOverMark 21 = .ok (.return_, 1) := by decide +kernel
theorem dX2_told_0 : decode cX2_told 0 = .ok (.iload_n 1, 1) := by decide +kernel
theorem dX2_told_1 : decode cX2_told 1 = .ok (.tableswitch 118 0 7 #[47, 52, 65, 73, 81, 89, 97, 105], 47) := by decide +kernel
theorem dX2_told_48 : decode cX2_told 48 = .ok (.aload_n 0, 1) := by decide +kernel
theorem dX2_told_49 : decode cX2_told 49 = .ok (.getfield 18, 3) := by decide +kernel
theorem dX2_told_52 : decode cX2_told 52 = .ok (.ireturn, 1) := by decide +kernel
theorem dX2_told_53 : decode cX2_told 53 = .ok (.aload_n 0, 1) := by decide +kernel
theorem dX2_told_54 : decode cX2_told 54 = .ok (.getfield 22, 3) := by decide +kernel
theorem dX2_told_57 : decode cX2_told 57 = .ok (.ifCond .eq 7, 3) := by decide +kernel
theorem dX2_told_60 : decode cX2_told 60 = .ok (.iconst 1, 1) := by decide +kernel
theorem dX2_told_61 : decode cX2_told 61 = .ok (.goto 4, 3) := by decide +kernel
theorem dX2_told_64 : decode cX2_told 64 = .ok (.iconst 0, 1) := by decide +kernel
theorem dX2_told_65 : decode cX2_told 65 = .ok (.ireturn, 1) := by decide +kernel
theorem dX2_told_66 : decode cX2_told 66 = .ok (.aload_n 0, 1) := by decide +kernel
theorem dX2_told_67 : decode cX2_told 67 = .ok (.getfield 43, 3) := by decide +kernel
theorem dX2_told_70 : decode cX2_told 70 = .ok (.getfield 66, 3) := by decide +kernel
theorem dX2_told_73 : decode cX2_told 73 = .ok (.ireturn, 1) := by decide +kernel
theorem dX2_told_74 : decode cX2_told 74 = .ok (.aload_n 0, 1) := by decide +kernel
theorem dX2_told_75 : decode cX2_told 75 = .ok (.getfield 43, 3) := by decide +kernel
theorem dX2_told_78 : decode cX2_told 78 = .ok (.getfield 131, 3) := by decide +kernel
theorem dX2_told_81 : decode cX2_told 81 = .ok (.ireturn, 1) := by decide +kernel
theorem dX2_told_82 : decode cX2_told 82 = .ok (.aload_n 0, 1) := by decide +kernel
theorem dX2_told_83 : decode cX2_told 83 = .ok (.getfield 47, 3) := by decide +kernel
theorem dX2_told_86 : decode cX2_told 86 = .ok (.getfield 112, 3) := by decide +kernel
theorem dX2_told_89 : decode cX2_told 89 = .ok (.ireturn, 1) := by decide +kernel
theorem dX2_told_90 : decode cX2_told 90 = .ok (.aload_n 0, 1) := by decide +kernel
theorem dX2_told_91 : decode cX2_told 91 = .ok (.getfield 50, 3) := by decide +kernel
end
section
theorem dX2_told_94 : decode cX2_told 94 = .ok (.getfield 66, 3) := by decide +kernel
theorem dX2_told_97 : decode cX2_told 97 = .ok (.ireturn, 1) := by decide +kernel
theorem dX2_told_98 : decode cX2_told 98 = .ok (.aload_n 0, 1) := by decide +kernel
theorem dX2_told_99 : decode cX2_told 99 = .ok (.getfield 50, 3) := by decide +kernel
theorem dX2_told_102 : decode cX2_told 102 = .ok (.getfield 131, 3) := by decide +kernel
theorem dX2_told_105 : decode cX2_told 105 = .ok (.ireturn, 1) := by decide +kernel
theorem dX2_told_106 : decode cX2_told 106 = .ok (.aload_n 0, 1) := by decide +kernel
theorem dX2_told_107 : decode cX2_told 107 = .ok (.getfield 53, 3) := by decide +kernel
theorem dX2_told_110 : decode cX2_told 110 = .ok (.ifCond .eq 7, 3) := by decide +kernel
theorem dX2_told_113 : decode cX2_told 113 = .ok (.iconst 1, 1) := by decide +kernel
theorem dX2_told_114 : decode cX2_told 114 = .ok (.goto 4, 3) := by decide +kernel
theorem dX2_told_117 : decode cX2_told 117 = .ok (.iconst 0, 1) := by decide +kernel
theorem dX2_told_118 : decode cX2_told 118 = .ok (.ireturn, 1) := by decide +kernel
theorem dX2_told_119 : decode cX2_told 119 = .ok (.iconst (-1), 1) := by decide +kernel
theorem dX2_told_120 : decode cX2_told 120 = .ok (.ireturn, 1) := by decide +kernel
theorem dX2_clear_0 : decode cX2_clear 0 = .ok (.aload_n 0, 1) := by decide +kernel
theorem dX2_clear_1 : decode cX2_clear 1 = .ok (.getfield 34, 3) := by decide +kernel
theorem dX2_clear_4 : decode cX2_clear 4 = .ok (.invokevirtual 176, 3) := by decide +kernel
theorem dX2_clear_7 : decode cX2_clear 7 = .ok (.aload_n 0, 1) := by decide +kernel
theorem dX2_clear_8 : decode cX2_clear 8 = .ok (.getfield 43, 3) := by decide +kernel
theorem dX2_clear_11 : decode cX2_clear 11 = .ok (.invokevirtual 179, 3) := by decide +kernel
theorem dX2_clear_14 : decode cX2_clear 14 = .ok (.aload_n 0, 1) := by decide +kernel
theorem dX2_clear_15 : decode cX2_clear 15 = .ok (.getfield 47, 3) := by decide +kernel
theorem dX2_clear_18 : decode cX2_clear 18 = .ok (.invokevirtual 176, 3) := by decide +kernel
theorem dX2_clear_21 : decode cX2_clear 21 = .ok (.aload_n 0, 1) := by decide +kernel
theorem dX2_clear_22 : decode cX2_clear 22 = .ok (.getfield 50, 3) := by decide +kernel
theorem dX2_clear_25 : decode cX2_clear 25 = .ok (.invokevirtual 179, 3) := by decide +kernel
theorem dX2_clear_28 : decode cX2_clear 28 = .ok (.aload_n 0, 1) := by decide +kernel
theorem dX2_clear_29 : decode cX2_clear 29 = .ok (.iconst 0, 1) := by decide +kernel
theorem dX2_clear_30 : decode cX2_clear 30 = .ok (.putfield 53, 3) := by decide +kernel
theorem dX2_clear_33 : decode cX2_clear 33 = .ok (.return_, 1) := by decide +kernel
theorem dX0_empty_0 : decode cX0_empty 0 = .ok (.aload_n 0, 1) := by decide +kernel
theorem dX0_empty_1 : decode cX0_empty 1 = .ok (.getfield 15, 3) := by decide +kernel
theorem dX0_empty_4 : decode cX0_empty 4 = .ok (.iconst 0, 1) := by decide +kernel
theorem dX0_empty_5 : decode cX0_empty 5 = .ok (.invokestatic 23, 3) := by decide +kernel
theorem dX0_empty_8 : decode cX0_empty 8 = .ok (.aload_n 0, 1) := by decide +kernel
theorem dX0_empty_9 : decode cX0_empty 9 = .ok (.iconst 0, 1) := by decide +kernel
theorem dX0_empty_10 : decode cX0_empty 10 = .ok (.putfield 19, 3) := by decide +kernel
theorem dX0_empty_13 : decode cX0_empty 13 = .ok (.return_, 1) := by decide +kernel
theorem dJ7_fill_0 : decode cJ7_fill 0 = .ok (.iconst 0, 1) := by decide +kernel
theorem dJ7_fill_1 : decode cJ7_fill 1 = .ok (.istore_n 2, 1) := by decide +kernel
theorem dJ7_fill_2 : decode cJ7_fill 2 = .ok (.aload_n 0, 1) := by decide +kernel
theorem dJ7_fill_3 : decode cJ7_fill 3 = .ok (.arraylength, 1) := by decide +kernel
theorem dJ7_fill_4 : decode cJ7_fill 4 = .ok (.istore_n 3, 1) := by decide +kernel
theorem dJ7_fill_5 : decode cJ7_fill 5 = .ok (.iload_n 2, 1) := by decide +kernel
theorem dJ7_fill_6 : decode cJ7_fill 6 = .ok (.iload_n 3, 1) := by decide +kernel
theorem dJ7_fill_7 : decode cJ7_fill 7 = .ok (.if_icmp .ge 13, 3) := by decide +kernel
theorem dJ7_fill_10 : decode cJ7_fill 10 = .ok (.aload_n 0, 1) := by decide +kernel
theorem dJ7_fill_11 : decode cJ7_fill 11 = .ok (.iload_n 2, 1) := by decide +kernel
theorem dJ7_fill_12 : decode cJ7_fill 12 = .ok (.iload_n 1, 1) := by decide +kernel
theorem dJ7_fill_13 : decode cJ7_fill 13 = .ok (.iastore, 1) := by decide +kernel
theorem dJ7_fill_14 : decode cJ7_fill 14 = .ok (.iinc 2 1, 3) := by decide +kernel
theorem dJ7_fill_17 : decode cJ7_fill 17 = .ok (.goto (-12), 3) := by decide +kernel
theorem dJ7_fill_20 : decode cJ7_fill 20 = .ok (.return_, 1) := by decide +kernel
theorem dX1_goToStart_0 : decode cX1_goToStart 0 = .ok (.aload_n 0, 1) := by decide +kernel
theorem dX1_goToStart_1 : decode cX1_goToStart 1 = .ok (.iconst 0, 1) := by decide +kernel
theorem dX1_goToStart_2 : decode cX1_goToStart 2 = .ok (.iconst 0, 1) := by decide +kernel
theorem dX1_goToStart_3 : decode cX1_goToStart 3 = .ok (.iconst 0, 1) := by decide +kernel
theorem dX1_goToStart_4 : decode cX1_goToStart 4 = .ok (.invokevirtual 34, 3) := by decide +kernel
theorem dX1_goToStart_7 : decode cX1_goToStart 7 = .ok (.aload_n 0, 1) := by decide +kernel
theorem dX1_goToStart_8 : decode cX1_goToStart 8 = .ok (.iconst 0, 1) := by decide +kernel
theorem dX1_goToStart_9 : decode cX1_goToStart 9 = .ok (.putfield 31, 3) := by decide +kernel
theorem dX1_goToStart_12 : decode cX1_goToStart 12 = .ok (.return_, 1) := by decide +kernel
theorem dX1_goBack_0 : decode cX1_goBack 0 = .ok (.aload_n 0, 1) := by decide +kernel
theorem dX1_goBack_1 : decode cX1_goBack 1 = .ok (.iload_n 1, 1) := by decide +kernel
theorem dX1_goBack_2 : decode cX1_goBack 2 = .ok (.putfield 22, 3) := by decide +kernel
theorem dX1_goBack_5 : decode cX1_goBack 5 = .ok (.aload_n 0, 1) := by decide +kernel
theorem dX1_goBack_6 : decode cX1_goBack 6 = .ok (.iload_n 2, 1) := by decide +kernel
theorem dX1_goBack_7 : decode cX1_goBack 7 = .ok (.putfield 25, 3) := by decide +kernel
theorem dX1_goBack_10 : decode cX1_goBack 10 = .ok (.aload_n 0, 1) := by decide +kernel
theorem dX1_goBack_11 : decode cX1_goBack 11 = .ok (.iload_n 3, 1) := by decide +kernel
theorem dX1_goBack_12 : decode cX1_goBack 12 = .ok (.putfield 28, 3) := by decide +kernel
theorem dX1_goBack_15 : decode cX1_goBack 15 = .ok (.return_, 1) := by decide +kernel
theorem dL_cell_0 : decode cL_cell 0 = .ok (.iload_n 1, 1) := by decide +kernel
theorem dL_cell_1 : decode cL_cell 1 = .ok (.aload_n 0, 1) := by decide +kernel
theorem dL_cell_2 : decode cL_cell 2 = .ok (.arraylength, 1) := by decide +kernel
theorem dL_cell_3 : decode cL_cell 3 = .ok (.if_icmp .ge 9, 3) := by decide +kernel
theorem dL_cell_6 : decode cL_cell 6 = .ok (.aload_n 0, 1) := by decide +kernel
theorem dL_cell_7 : decode cL_cell 7 = .ok (.iload_n 1, 1) := by decide +kernel
theorem dL_cell_8 : decode cL_cell 8 = .ok (.iaload, 1) := by decide +kernel
theorem dL_cell_9 : decode cL_cell 9 = .ok (.goto 4, 3) := by decide +kernel
theorem dL_cell_12 : decode cL_cell 12 = .ok (.iconst 0, 1) := by decide +kernel
theorem dL_cell_13 : decode cL_cell 13 = .ok (.ireturn, 1) := by decide +kernel
theorem dL_put_0 : decode cL_put 0 = .ok (.aload_n 3, 1) := by decide +kernel
theorem dL_put_1 : decode cL_put 1 = .ok (.iconst 0, 1) := by decide +kernel
theorem dL_put_2 : decode cL_put 2 = .ok (.aload_n 0, 1) := by decide +kernel
theorem dL_put_3 : decode cL_put 3 = .ok (.iload_n 1, 1) := by decide +kernel
theorem dL_put_4 : decode cL_put 4 = .ok (.iload_n 2, 1) := by decide +kernel
theorem dL_put_5 : decode cL_put 5 = .ok (.invokevirtual 7, 3) := by decide +kernel
theorem dL_put_8 : decode cL_put 8 = .ok (.i2l, 1) := by decide +kernel
theorem dL_put_9 : decode cL_put 9 = .ok (.lastore, 1) := by decide +kernel
theorem dL_put_10 : decode cL_put 10 = .ok (.goto 11, 3) := by decide +kernel
theorem dL_put_13 : decode cL_put 13 = .ok (.astore 4, 2) := by decide +kernel
theorem dL_put_15 : decode cL_put 15 = .ok (.iconst 1, 1) := by decide +kernel
theorem dL_put_16 : decode cL_put 16 = .ok (.ireturn, 1) := by decide +kernel
theorem dL_put_17 : decode cL_put 17 = .ok (.astore 4, 2) := by decide +kernel
theorem dL_put_19 : decode cL_put 19 = .ok (.iconst 2, 1) := by decide +kernel
theorem dL_put_20 : decode cL_put 20 = .ok (.ireturn, 1) := by decide +kernel
theorem dL_put_21 : decode cL_put 21 = .ok (.iconst 0, 1) := by decide +kernel
theorem dL_put_22 : decode cL_put 22 = .ok (.ireturn, 1) := by decide +kernel
theorem dX2_put_0 : decode cX2_put 0 = .ok (.iload_n 1, 1) := by decide +kernel
theorem dX2_put_1 : decode cX2_put 1 = .ok (.invokestatic 56, 3) := by decide +kernel
theorem dX2_put_4 : decode cX2_put 4 = .ok (.aload_n 0, 1) := by decide +kernel
theorem dX2_put_5 : decode cX2_put 5 = .ok (.iload_n 1, 1) := by decide +kernel
theorem dX2_put_6 : decode cX2_put 6 = .ok (.invokevirtual 60, 3) := by decide +kernel
theorem dX2_put_9 : decode cX2_put 9 = .ok (.aload_n 0, 1) := by decide +kernel
theorem dX2_put_10 : decode cX2_put 10 = .ok (.invokevirtual 63, 3) := by decide +kernel
theorem dX2_put_13 : decode cX2_put 13 = .ok (.aload_n 0, 1) := by decide +kernel
theorem dX2_put_14 : decode cX2_put 14 = .ok (.getfield 43, 3) := by decide +kernel
theorem dX2_put_17 : decode cX2_put 17 = .ok (.getfield 66, 3) := by decide +kernel
theorem dX2_put_20 : decode cX2_put 20 = .ok (.istore_n 3, 1) := by decide +kernel
theorem dX2_put_21 : decode cX2_put 21 = .ok (.iconst 0, 1) := by decide +kernel
theorem dX2_put_22 : decode cX2_put 22 = .ok (.istore 4, 2) := by decide +kernel
theorem dX2_put_24 : decode cX2_put 24 = .ok (.iload 4, 2) := by decide +kernel
theorem dX2_put_26 : decode cX2_put 26 = .ok (.iload_n 1, 1) := by decide +kernel
theorem dX2_put_27 : decode cX2_put 27 = .ok (.if_icmp .ge 24, 3) := by decide +kernel
theorem dX2_put_30 : decode cX2_put 30 = .ok (.aload_n 0, 1) := by decide +kernel
theorem dX2_put_31 : decode cX2_put 31 = .ok (.iload_n 2, 1) := by decide +kernel
theorem dX2_put_32 : decode cX2_put 32 = .ok (.aload_n 0, 1) := by decide +kernel
theorem dX2_put_33 : decode cX2_put 33 = .ok (.iload 4, 2) := by decide +kernel
theorem dX2_put_35 : decode cX2_put 35 = .ok (.iload_n 1, 1) := by decide +kernel
theorem dX2_put_36 : decode cX2_put 36 = .ok (.invokevirtual 69, 3) := by decide +kernel
theorem dX2_put_39 : decode cX2_put 39 = .ok (.iushr, 1) := by decide +kernel
theorem dX2_put_40 : decode cX2_put 40 = .ok (.iconst 1, 1) := by decide +kernel
theorem dX2_put_41 : decode cX2_put 41 = .ok (.iand, 1) := by decide +kernel
theorem dX2_put_42 : decode cX2_put 42 = .ok (.invokevirtual 72, 3) := by decide +kernel
theorem dX2_put_45 : decode cX2_put 45 = .ok (.iinc 4 1, 3) := by decide +kernel
theorem dX2_put_48 : decode cX2_put 48 = .ok (.goto (-24), 3) := by decide +kernel
theorem dX2_put_51 : decode cX2_put 51 = .ok (.iload_n 3, 1) := by decide +kernel
theorem dX2_put_52 : decode cX2_put 52 = .ok (.ireturn, 1) := by decide +kernel
theorem dX2_refuseOtherWidths_0 : decode cX2_refuseOtherWidths 0 = .ok (.iload_n 0, 1) := by decide +kernel
theorem dX2_refuseOtherWidths_1 : decode cX2_refuseOtherWidths 1 = .ok (.iconst 1, 1) := by decide +kernel
theorem dX2_refuseOtherWidths_2 : decode cX2_refuseOtherWidths 2 = .ok (.if_icmp .lt 9, 3) := by decide +kernel
theorem dX2_refuseOtherWidths_5 : decode cX2_refuseOtherWidths 5 = .ok (.iload_n 0, 1) := by decide +kernel
theorem dX2_refuseOtherWidths_6 : decode cX2_refuseOtherWidths 6 = .ok (.bipush 32, 2) := by decide +kernel
theorem dX2_refuseOtherWidths_8 : decode cX2_refuseOtherWidths 8 = .ok (.if_icmp .le 13, 3) := by decide +kernel
theorem dX2_refuseOtherWidths_11 : decode cX2_refuseOtherWidths 11 = .ok (.new 86, 3) := by decide +kernel
theorem dX2_refuseOtherWidths_14 : decode cX2_refuseOtherWidths 14 = .ok (.dup, 1) := by decide +kernel
theorem dX2_refuseOtherWidths_15 : decode cX2_refuseOtherWidths 15 = .ok (.ldc 182, 2) := by decide +kernel
theorem dX2_refuseOtherWidths_17 : decode cX2_refuseOtherWidths 17 = .ok (.invokespecial 90, 3) := by decide +kernel
theorem dX2_refuseOtherWidths_20 : decode cX2_refuseOtherWidths 20 = .ok (.athrow, 1) := by decide +kernel
theorem dX2_refuseOtherWidths_21 : decode cX2_refuseOtherWidths 21 = .ok (.return_, 1) := by decide +kernel
theorem dX2_refuseToOverfill_0 : decode cX2_refuseToOverfill 0 = .ok (.aload_n 0, 1) := by decide +kernel
theorem dX2_refuseToOverfill_1 : decode cX2_refuseToOverfill 1 = .ok (.getfield 43, 3) := by decide +kernel
theorem dX2_refuseToOverfill_4 : decode cX2_refuseToOverfill 4 = .ok (.getfield 66, 3) := by decide +kernel
theorem dX2_refuseToOverfill_7 : decode cX2_refuseToOverfill 7 = .ok (.iconst 2, 1) := by decide +kernel
theorem dX2_refuseToOverfill_8 : decode cX2_refuseToOverfill 8 = .ok (.iload_n 1, 1) := by decide +kernel
theorem dX2_refuseToOverfill_9 : decode cX2_refuseToOverfill 9 = .ok (.imul, 1) := by decide +kernel
theorem dX2_refuseToOverfill_10 : decode cX2_refuseToOverfill 10 = .ok (.iadd, 1) := by decide +kernel
theorem dX2_refuseToOverfill_11 : decode cX2_refuseToOverfill 11 = .ok (.bipush 16, 2) := by decide +kernel
theorem dX2_refuseToOverfill_13 : decode cX2_refuseToOverfill 13 = .ok (.iadd, 1) := by decide +kernel
theorem dX2_refuseToOverfill_14 : decode cX2_refuseToOverfill 14 = .ok (.sipush 4800, 3) := by decide +kernel
theorem dX2_refuseToOverfill_17 : decode cX2_refuseToOverfill 17 = .ok (.if_icmp .le 13, 3) := by decide +kernel
theorem dX2_refuseToOverfill_20 : decode cX2_refuseToOverfill 20 = .ok (.new 184, 3) := by decide +kernel
theorem dX2_refuseToOverfill_23 : decode cX2_refuseToOverfill 23 = .ok (.dup, 1) := by decide +kernel
theorem dX2_refuseToOverfill_24 : decode cX2_refuseToOverfill 24 = .ok (.ldc 186, 2) := by decide +kernel
theorem dX2_refuseToOverfill_26 : decode cX2_refuseToOverfill 26 = .ok (.invokespecial 188, 3) := by decide +kernel
theorem dX2_refuseToOverfill_29 : decode cX2_refuseToOverfill 29 = .ok (.athrow, 1) := by decide +kernel
theorem dX2_refuseToOverfill_30 : decode cX2_refuseToOverfill 30 = .ok (.return_, 1) := by decide +kernel
theorem dX2_writeStuffedIfDue_0 : decode cX2_writeStuffedIfDue 0 = .ok (.aload_n 0, 1) := by decide +kernel
theorem dX2_writeStuffedIfDue_1 : decode cX2_writeStuffedIfDue 1 = .ok (.getfield 43, 3) := by decide +kernel
theorem dX2_writeStuffedIfDue_4 : decode cX2_writeStuffedIfDue 4 = .ok (.invokevirtual 148, 3) := by decide +kernel
theorem dX2_writeStuffedIfDue_7 : decode cX2_writeStuffedIfDue 7 = .ok (.ifCond .eq 25, 3) := by decide +kernel
theorem dX2_writeStuffedIfDue_10 : decode cX2_writeStuffedIfDue 10 = .ok (.aload_n 0, 1) := by decide +kernel
theorem dX2_writeStuffedIfDue_11 : decode cX2_writeStuffedIfDue 11 = .ok (.getfield 34, 3) := by decide +kernel
theorem dX2_writeStuffedIfDue_14 : decode cX2_writeStuffedIfDue 14 = .ok (.aload_n 0, 1) := by decide +kernel
theorem dX2_writeStuffedIfDue_15 : decode cX2_writeStuffedIfDue 15 = .ok (.getfield 43, 3) := by decide +kernel
theorem dX2_writeStuffedIfDue_18 : decode cX2_writeStuffedIfDue 18 = .ok (.getfield 66, 3) := by decide +kernel
theorem dX2_writeStuffedIfDue_21 : decode cX2_writeStuffedIfDue 21 = .ok (.iconst 0, 1) := by decide +kernel
theorem dX2_writeStuffedIfDue_22 : decode cX2_writeStuffedIfDue 22 = .ok (.invokevirtual 108, 3) := by decide +kernel
theorem dX2_writeStuffedIfDue_25 : decode cX2_writeStuffedIfDue 25 = .ok (.aload_n 0, 1) := by decide +kernel
theorem dX2_writeStuffedIfDue_26 : decode cX2_writeStuffedIfDue 26 = .ok (.getfield 43, 3) := by decide +kernel
theorem dX2_writeStuffedIfDue_29 : decode cX2_writeStuffedIfDue 29 = .ok (.invokevirtual 151, 3) := by decide +kernel
theorem dX2_writeStuffedIfDue_32 : decode cX2_writeStuffedIfDue 32 = .ok (.return_, 1) := by decide +kernel
theorem dX0_setBit_0 : decode cX0_setBit 0 = .ok (.iload_n 1, 1) := by decide +kernel
theorem dX0_setBit_1 : decode cX0_setBit 1 = .ok (.iconst 3, 1) := by decide +kernel
theorem dX0_setBit_2 : decode cX0_setBit 2 = .ok (.ishr, 1) := by decide +kernel
theorem dX0_setBit_3 : decode cX0_setBit 3 = .ok (.istore_n 3, 1) := by decide +kernel
theorem dX0_setBit_4 : decode cX0_setBit 4 = .ok (.iload_n 3, 1) := by decide +kernel
theorem dX0_setBit_5 : decode cX0_setBit 5 = .ok (.ifCond .lt 12, 3) := by decide +kernel
theorem dX0_setBit_8 : decode cX0_setBit 8 = .ok (.iload_n 3, 1) := by decide +kernel
theorem dX0_setBit_9 : decode cX0_setBit 9 = .ok (.aload_n 0, 1) := by decide +kernel
theorem dX0_setBit_10 : decode cX0_setBit 10 = .ok (.getfield 15, 3) := by decide +kernel
theorem dX0_setBit_13 : decode cX0_setBit 13 = .ok (.arraylength, 1) := by decide +kernel
theorem dX0_setBit_14 : decode cX0_setBit 14 = .ok (.if_icmp .lt 4, 3) := by decide +kernel
theorem dX0_setBit_17 : decode cX0_setBit 17 = .ok (.return_, 1) := by decide +kernel
theorem dX0_setBit_18 : decode cX0_setBit 18 = .ok (.aload_n 0, 1) := by decide +kernel
theorem dX0_setBit_19 : decode cX0_setBit 19 = .ok (.iload_n 1, 1) := by decide +kernel
theorem dX0_setBit_20 : decode cX0_setBit 20 = .ok (.invokevirtual 33, 3) := by decide +kernel
theorem dX0_setBit_23 : decode cX0_setBit 23 = .ok (.istore 4, 2) := by decide +kernel
theorem dX0_setBit_25 : decode cX0_setBit 25 = .ok (.aload_n 0, 1) := by decide +kernel
theorem dX0_setBit_26 : decode cX0_setBit 26 = .ok (.getfield 15, 3) := by decide +kernel
theorem dX0_setBit_29 : decode cX0_setBit 29 = .ok (.iload_n 3, 1) := by decide +kernel
theorem dX0_setBit_30 : decode cX0_setBit 30 = .ok (.aload_n 0, 1) := by decide +kernel
theorem dX0_setBit_31 : decode cX0_setBit 31 = .ok (.getfield 15, 3) := by decide +kernel
theorem dX0_setBit_34 : decode cX0_setBit 34 = .ok (.iload_n 3, 1) := by decide +kernel
theorem dX0_setBit_35 : decode cX0_setBit 35 = .ok (.iaload, 1) := by decide +kernel
theorem dX0_setBit_36 : decode cX0_setBit 36 = .ok (.iconst 1, 1) := by decide +kernel
theorem dX0_setBit_37 : decode cX0_setBit 37 = .ok (.iload 4, 2) := by decide +kernel
theorem dX0_setBit_39 : decode cX0_setBit 39 = .ok (.ishl, 1) := by decide +kernel
theorem dX0_setBit_40 : decode cX0_setBit 40 = .ok (.iconst (-1), 1) := by decide +kernel
theorem dX0_setBit_41 : decode cX0_setBit 41 = .ok (.ixor, 1) := by decide +kernel
theorem dX0_setBit_42 : decode cX0_setBit 42 = .ok (.iand, 1) := by decide +kernel
theorem dX0_setBit_43 : decode cX0_setBit 43 = .ok (.iload_n 2, 1) := by decide +kernel
theorem dX0_setBit_44 : decode cX0_setBit 44 = .ok (.iload 4, 2) := by decide +kernel
theorem dX0_setBit_46 : decode cX0_setBit 46 = .ok (.ishl, 1) := by decide +kernel
theorem dX0_setBit_47 : decode cX0_setBit 47 = .ok (.ior, 1) := by decide +kernel
theorem dX0_setBit_48 : decode cX0_setBit 48 = .ok (.iastore, 1) := by decide +kernel
theorem dX0_setBit_49 : decode cX0_setBit 49 = .ok (.aload_n 0, 1) := by decide +kernel
theorem dX0_setBit_50 : decode cX0_setBit 50 = .ok (.aload_n 0, 1) := by decide +kernel
theorem dX0_setBit_51 : decode cX0_setBit 51 = .ok (.getfield 19, 3) := by decide +kernel
theorem dX0_setBit_54 : decode cX0_setBit 54 = .ok (.iload_n 3, 1) := by decide +kernel
theorem dX0_setBit_55 : decode cX0_setBit 55 = .ok (.iconst 1, 1) := by decide +kernel
theorem dX0_setBit_56 : decode cX0_setBit 56 = .ok (.iadd, 1) := by decide +kernel
theorem dX0_setBit_57 : decode cX0_setBit 57 = .ok (.invokestatic 36, 3) := by decide +kernel
theorem dX0_setBit_60 : decode cX0_setBit 60 = .ok (.putfield 19, 3) := by decide +kernel
theorem dX0_setBit_63 : decode cX0_setBit 63 = .ok (.return_, 1) := by decide +kernel
theorem dX2_shiftOf_0 : decode cX2_shiftOf 0 = .ok (.aload_n 0, 1) := by decide +kernel
theorem dX2_shiftOf_1 : decode cX2_shiftOf 1 = .ok (.getfield 22, 3) := by decide +kernel
theorem dX2_shiftOf_4 : decode cX2_shiftOf 4 = .ok (.ifCond .eq 7, 3) := by decide +kernel
theorem dX2_shiftOf_7 : decode cX2_shiftOf 7 = .ok (.iload_n 1, 1) := by decide +kernel
theorem dX2_shiftOf_8 : decode cX2_shiftOf 8 = .ok (.goto 8, 3) := by decide +kernel
theorem dX2_shiftOf_11 : decode cX2_shiftOf 11 = .ok (.iload_n 2, 1) := by decide +kernel
theorem dX2_shiftOf_12 : decode cX2_shiftOf 12 = .ok (.iconst 1, 1) := by decide +kernel
theorem dX2_shiftOf_13 : decode cX2_shiftOf 13 = .ok (.isub, 1) := by decide +kernel
theorem dX2_shiftOf_14 : decode cX2_shiftOf 14 = .ok (.iload_n 1, 1) := by decide +kernel
theorem dX2_shiftOf_15 : decode cX2_shiftOf 15 = .ok (.isub, 1) := by decide +kernel
theorem dX2_shiftOf_16 : decode cX2_shiftOf 16 = .ok (.ireturn, 1) := by decide +kernel
theorem dX2_writeBit_0 : decode cX2_writeBit 0 = .ok (.aload_n 0, 1) := by decide +kernel
theorem dX2_writeBit_1 : decode cX2_writeBit 1 = .ok (.invokevirtual 63, 3) := by decide +kernel
theorem dX2_writeBit_4 : decode cX2_writeBit 4 = .ok (.aload_n 0, 1) := by decide +kernel
theorem dX2_writeBit_5 : decode cX2_writeBit 5 = .ok (.getfield 34, 3) := by decide +kernel
theorem dX2_writeBit_8 : decode cX2_writeBit 8 = .ok (.aload_n 0, 1) := by decide +kernel
theorem dX2_writeBit_9 : decode cX2_writeBit 9 = .ok (.getfield 43, 3) := by decide +kernel
theorem dX2_writeBit_12 : decode cX2_writeBit 12 = .ok (.getfield 66, 3) := by decide +kernel
theorem dX2_writeBit_15 : decode cX2_writeBit 15 = .ok (.iload_n 1, 1) := by decide +kernel
theorem dX2_writeBit_16 : decode cX2_writeBit 16 = .ok (.invokevirtual 108, 3) := by decide +kernel
theorem dX2_writeBit_19 : decode cX2_writeBit 19 = .ok (.aload_n 0, 1) := by decide +kernel
theorem dX2_writeBit_20 : decode cX2_writeBit 20 = .ok (.getfield 43, 3) := by decide +kernel
theorem dX2_writeBit_23 : decode cX2_writeBit 23 = .ok (.iload_n 1, 1) := by decide +kernel
theorem dX2_writeBit_24 : decode cX2_writeBit 24 = .ok (.invokevirtual 154, 3) := by decide +kernel
theorem dX2_writeBit_27 : decode cX2_writeBit 27 = .ok (.aload_n 0, 1) := by decide +kernel
theorem dX2_writeBit_28 : decode cX2_writeBit 28 = .ok (.getfield 26, 3) := by decide +kernel
theorem dX2_writeBit_31 : decode cX2_writeBit 31 = .ok (.ifCond .eq 7, 3) := by decide +kernel
theorem dX2_writeBit_34 : decode cX2_writeBit 34 = .ok (.aload_n 0, 1) := by decide +kernel
theorem dX2_writeBit_35 : decode cX2_writeBit 35 = .ok (.invokevirtual 63, 3) := by decide +kernel
theorem dX2_writeBit_38 : decode cX2_writeBit 38 = .ok (.return_, 1) := by decide +kernel
theorem dL_align_0 : decode cL_align 0 = .ok (.aload_n 1, 1) := by decide +kernel
theorem dL_align_1 : decode cL_align 1 = .ok (.iconst 0, 1) := by decide +kernel
theorem dL_align_2 : decode cL_align 2 = .ok (.aload_n 0, 1) := by decide +kernel
theorem dL_align_3 : decode cL_align 3 = .ok (.invokevirtual 17, 3) := by decide +kernel
theorem dL_align_6 : decode cL_align 6 = .ok (.i2l, 1) := by decide +kernel
theorem dL_align_7 : decode cL_align 7 = .ok (.lastore, 1) := by decide +kernel
theorem dL_align_8 : decode cL_align 8 = .ok (.goto 6, 3) := by decide +kernel
theorem dL_align_11 : decode cL_align 11 = .ok (.astore_n 2, 1) := by decide +kernel
theorem dL_align_12 : decode cL_align 12 = .ok (.iconst 1, 1) := by decide +kernel
theorem dL_align_13 : decode cL_align 13 = .ok (.ireturn, 1) := by decide +kernel
theorem dL_align_14 : decode cL_align 14 = .ok (.iconst 0, 1) := by decide +kernel
theorem dL_align_15 : decode cL_align 15 = .ok (.ireturn, 1) := by decide +kernel
theorem dX2_align_0 : decode cX2_align 0 = .ok (.aload_n 0, 1) := by decide +kernel
theorem dX2_align_1 : decode cX2_align 1 = .ok (.bipush 16, 2) := by decide +kernel
theorem dX2_align_3 : decode cX2_align 3 = .ok (.invokevirtual 60, 3) := by decide +kernel
theorem dX2_align_6 : decode cX2_align 6 = .ok (.aload_n 0, 1) := by decide +kernel
theorem dX2_align_7 : decode cX2_align 7 = .ok (.invokevirtual 75, 3) := by decide +kernel
theorem dX2_align_10 : decode cX2_align 10 = .ok (.ireturn, 1) := by decide +kernel
theorem dX2_writeTillAligned_0 : decode cX2_writeTillAligned 0 = .ok (.iconst 0, 1) := by decide +kernel
theorem dX2_writeTillAligned_1 : decode cX2_writeTillAligned 1 = .ok (.istore_n 1, 1) := by decide +kernel
theorem dX2_writeTillAligned_2 : decode cX2_writeTillAligned 2 = .ok (.iconst 0, 1) := by decide +kernel
theorem dX2_writeTillAligned_3 : decode cX2_writeTillAligned 3 = .ok (.istore_n 2, 1) := by decide +kernel
theorem dX2_writeTillAligned_4 : decode cX2_writeTillAligned 4 = .ok (.iload_n 2, 1) := by decide +kernel
theorem dX2_writeTillAligned_5 : decode cX2_writeTillAligned 5 = .ok (.bipush 16, 2) := by decide +kernel
theorem dX2_writeTillAligned_7 : decode cX2_writeTillAligned 7 = .ok (.if_icmp .ge 27, 3) := by decide +kernel
theorem dX2_writeTillAligned_10 : decode cX2_writeTillAligned 10 = .ok (.aload_n 0, 1) := by decide +kernel
theorem dX2_writeTillAligned_11 : decode cX2_writeTillAligned 11 = .ok (.getfield 43, 3) := by decide +kernel
theorem dX2_writeTillAligned_14 : decode cX2_writeTillAligned 14 = .ok (.invokevirtual 144, 3) := by decide +kernel
theorem dX2_writeTillAligned_17 : decode cX2_writeTillAligned 17 = .ok (.ifCond .ne 17, 3) := by decide +kernel
theorem dX2_writeTillAligned_20 : decode cX2_writeTillAligned 20 = .ok (.aload_n 0, 1) := by decide +kernel
theorem dX2_writeTillAligned_21 : decode cX2_writeTillAligned 21 = .ok (.iconst 0, 1) := by decide +kernel
theorem dX2_writeTillAligned_22 : decode cX2_writeTillAligned 22 = .ok (.invokevirtual 72, 3) := by decide +kernel
theorem dX2_writeTillAligned_25 : decode cX2_writeTillAligned 25 = .ok (.iinc 1 1, 3) := by decide +kernel
theorem dX2_writeTillAligned_28 : decode cX2_writeTillAligned 28 = .ok (.iinc 2 1, 3) := by decide +kernel
theorem dX2_writeTillAligned_31 : decode cX2_writeTillAligned 31 = .ok (.goto (-27), 3) := by decide +kernel
theorem dX2_writeTillAligned_34 : decode cX2_writeTillAligned 34 = .ok (.iload_n 1, 1) := by decide +kernel
theorem dX2_writeTillAligned_35 : decode cX2_writeTillAligned 35 = .ok (.ireturn, 1) := by decide +kernel
theorem dL_mark_0 : decode cL_mark 0 = .ok (.aload_n 2, 1) := by decide +kernel
theorem dL_mark_1 : decode cL_mark 1 = .ok (.iconst 0, 1) := by decide +kernel
theorem dL_mark_2 : decode cL_mark 2 = .ok (.aload_n 0, 1) := by decide +kernel
theorem dL_mark_3 : decode cL_mark 3 = .ok (.iload_n 1, 1) := by decide +kernel
theorem dL_mark_4 : decode cL_mark 4 = .ok (.invokevirtual 21, 3) := by decide +kernel
theorem dL_mark_7 : decode cL_mark 7 = .ok (.i2l, 1) := by decide +kernel
theorem dL_mark_8 : decode cL_mark 8 = .ok (.lastore, 1) := by decide +kernel
theorem dL_mark_9 : decode cL_mark 9 = .ok (.goto 12, 3) := by decide +kernel
theorem dL_mark_12 : decode cL_mark 12 = .ok (.astore_n 3, 1) := by decide +kernel
theorem dL_mark_13 : decode cL_mark 13 = .ok (.iconst 1, 1) := by decide +kernel
theorem dL_mark_14 : decode cL_mark 14 = .ok (.ireturn, 1) := by decide +kernel
theorem dL_mark_15 : decode cL_mark 15 = .ok (.astore_n 3, 1) := by decide +kernel
theorem dL_mark_16 : decode cL_mark 16 = .ok (.iconst 2, 1) := by decide +kernel
theorem dL_mark_17 : decode cL_mark 17 = .ok (.ireturn, 1) := by decide +kernel
theorem dL_mark_18 : decode cL_mark 18 = .ok (.astore_n 3, 1) := by decide +kernel
theorem dL_mark_19 : decode cL_mark 19 = .ok (.iconst 3, 1) := by decide +kernel
theorem dL_mark_20 : decode cL_mark 20 = .ok (.ireturn, 1) := by decide +kernel
theorem dL_mark_21 : decode cL_mark 21 = .ok (.iconst 0, 1) := by decide +kernel
theorem dL_mark_22 : decode cL_mark 22 = .ok (.ireturn, 1) := by decide +kernel
theorem dX2_mark_0 : decode cX2_mark 0 = .ok (.aload_n 0, 1) := by decide +kernel
theorem dX2_mark_1 : decode cX2_mark 1 = .ok (.getfield 18, 3) := by decide +kernel
theorem dX2_mark_4 : decode cX2_mark 4 = .ok (.iconst 1, 1) := by decide +kernel
theorem dX2_mark_5 : decode cX2_mark 5 = .ok (.if_icmp .eq 13, 3) := by decide +kernel
theorem dX2_mark_8 : decode cX2_mark 8 = .ok (.new 79, 3) := by decide +kernel
theorem dX2_mark_11 : decode cX2_mark 11 = .ok (.dup, 1) := by decide +kernel
theorem dX2_mark_12 : decode cX2_mark 12 = .ok (.ldc 81, 2) := by decide +kernel
theorem dX2_mark_14 : decode cX2_mark 14 = .ok (.invokespecial 83, 3) := by decide +kernel
theorem dX2_mark_17 : decode cX2_mark 17 = .ok (.athrow, 1) := by decide +kernel
theorem dX2_mark_18 : decode cX2_mark 18 = .ok (.iload_n 1, 1) := by decide +kernel
theorem dX2_mark_19 : decode cX2_mark 19 = .ok (.sipush 128, 3) := by decide +kernel
theorem dX2_mark_22 : decode cX2_mark 22 = .ok (.if_icmp .lt 10, 3) := by decide +kernel
theorem dX2_mark_25 : decode cX2_mark 25 = .ok (.iload_n 1, 1) := by decide +kernel
theorem dX2_mark_26 : decode cX2_mark 26 = .ok (.sipush 255, 3) := by decide +kernel
theorem dX2_mark_29 : decode cX2_mark 29 = .ok (.if_icmp .le 13, 3) := by decide +kernel
theorem dX2_mark_32 : decode cX2_mark 32 = .ok (.new 86, 3) := by decide +kernel
theorem dX2_mark_35 : decode cX2_mark 35 = .ok (.dup, 1) := by decide +kernel
theorem dX2_mark_36 : decode cX2_mark 36 = .ok (.ldc 88, 2) := by decide +kernel
theorem dX2_mark_38 : decode cX2_mark 38 = .ok (.invokespecial 90, 3) := by decide +kernel
theorem dX2_mark_41 : decode cX2_mark 41 = .ok (.athrow, 1) := by decide +kernel
theorem dX2_mark_42 : decode cX2_mark 42 = .ok (.aload_n 0, 1) := by decide +kernel
theorem dX2_mark_43 : decode cX2_mark 43 = .ok (.bipush 32, 2) := by decide +kernel
theorem dX2_mark_45 : decode cX2_mark 45 = .ok (.invokevirtual 60, 3) := by decide +kernel
theorem dX2_mark_48 : decode cX2_mark 48 = .ok (.aload_n 0, 1) := by decide +kernel
theorem dX2_mark_49 : decode cX2_mark 49 = .ok (.invokevirtual 75, 3) := by decide +kernel
theorem dX2_mark_52 : decode cX2_mark 52 = .ok (.pop, 1) := by decide +kernel
theorem dX2_mark_53 : decode cX2_mark 53 = .ok (.aload_n 0, 1) := by decide +kernel
theorem dX2_mark_54 : decode cX2_mark 54 = .ok (.getfield 43, 3) := by decide +kernel
theorem dX2_mark_57 : decode cX2_mark 57 = .ok (.getfield 66, 3) := by decide +kernel
theorem dX2_mark_60 : decode cX2_mark 60 = .ok (.iconst 3, 1) := by decide +kernel
theorem dX2_mark_61 : decode cX2_mark 61 = .ok (.ishr, 1) := by decide +kernel
theorem dX2_mark_62 : decode cX2_mark 62 = .ok (.istore_n 2, 1) := by decide +kernel
theorem dX2_mark_63 : decode cX2_mark 63 = .ok (.aload_n 0, 1) := by decide +kernel
theorem dX2_mark_64 : decode cX2_mark 64 = .ok (.getfield 34, 3) := by decide +kernel
theorem dX2_mark_67 : decode cX2_mark 67 = .ok (.sipush 255, 3) := by decide +kernel
theorem dX2_mark_70 : decode cX2_mark 70 = .ok (.invokevirtual 91, 3) := by decide +kernel
theorem dX2_mark_73 : decode cX2_mark 73 = .ok (.aload_n 0, 1) := by decide +kernel
theorem dX2_mark_74 : decode cX2_mark 74 = .ok (.getfield 34, 3) := by decide +kernel
theorem dX2_mark_77 : decode cX2_mark 77 = .ok (.iload_n 1, 1) := by decide +kernel
theorem dX2_mark_78 : decode cX2_mark 78 = .ok (.invokevirtual 91, 3) := by decide +kernel
theorem dX2_mark_81 : decode cX2_mark 81 = .ok (.aload_n 0, 1) := by decide +kernel
theorem dX2_mark_82 : decode cX2_mark 82 = .ok (.getfield 43, 3) := by decide +kernel
theorem dX2_mark_85 : decode cX2_mark 85 = .ok (.invokevirtual 94, 3) := by decide +kernel
theorem dX2_mark_88 : decode cX2_mark 88 = .ok (.iload_n 2, 1) := by decide +kernel
theorem dX2_mark_89 : decode cX2_mark 89 = .ok (.ireturn, 1) := by decide +kernel
theorem dX0_addByte_0 : decode cX0_addByte 0 = .ok (.aload_n 0, 1) := by decide +kernel
theorem dX0_addByte_1 : decode cX0_addByte 1 = .ok (.getfield 19, 3) := by decide +kernel
theorem dX0_addByte_4 : decode cX0_addByte 4 = .ok (.ifCond .lt 35, 3) := by decide +kernel
theorem dX0_addByte_7 : decode cX0_addByte 7 = .ok (.aload_n 0, 1) := by decide +kernel
theorem dX0_addByte_8 : decode cX0_addByte 8 = .ok (.getfield 19, 3) := by decide +kernel
theorem dX0_addByte_11 : decode cX0_addByte 11 = .ok (.aload_n 0, 1) := by decide +kernel
theorem dX0_addByte_12 : decode cX0_addByte 12 = .ok (.getfield 15, 3) := by decide +kernel
theorem dX0_addByte_15 : decode cX0_addByte 15 = .ok (.arraylength, 1) := by decide +kernel
theorem dX0_addByte_16 : decode cX0_addByte 16 = .ok (.if_icmp .ge 23, 3) := by decide +kernel
theorem dX0_addByte_19 : decode cX0_addByte 19 = .ok (.aload_n 0, 1) := by decide +kernel
theorem dX0_addByte_20 : decode cX0_addByte 20 = .ok (.getfield 15, 3) := by decide +kernel
theorem dX0_addByte_23 : decode cX0_addByte 23 = .ok (.aload_n 0, 1) := by decide +kernel
theorem dX0_addByte_24 : decode cX0_addByte 24 = .ok (.getfield 19, 3) := by decide +kernel
theorem dX0_addByte_27 : decode cX0_addByte 27 = .ok (.iload_n 1, 1) := by decide +kernel
theorem dX0_addByte_28 : decode cX0_addByte 28 = .ok (.iastore, 1) := by decide +kernel
theorem dX0_addByte_29 : decode cX0_addByte 29 = .ok (.aload_n 0, 1) := by decide +kernel
theorem dX0_addByte_30 : decode cX0_addByte 30 = .ok (.dup, 1) := by decide +kernel
theorem dX0_addByte_31 : decode cX0_addByte 31 = .ok (.getfield 19, 3) := by decide +kernel
theorem dX0_addByte_34 : decode cX0_addByte 34 = .ok (.iconst 1, 1) := by decide +kernel
theorem dX0_addByte_35 : decode cX0_addByte 35 = .ok (.iadd, 1) := by decide +kernel
theorem dX0_addByte_36 : decode cX0_addByte 36 = .ok (.putfield 19, 3) := by decide +kernel
theorem dX0_addByte_39 : decode cX0_addByte 39 = .ok (.return_, 1) := by decide +kernel
theorem dL_patch_0 : decode cL_patch 0 = .ok (.aload 4, 2) := by decide +kernel
theorem dL_patch_2 : decode cL_patch 2 = .ok (.iconst 0, 1) := by decide +kernel
theorem dL_patch_3 : decode cL_patch 3 = .ok (.aload_n 0, 1) := by decide +kernel
theorem dL_patch_4 : decode cL_patch 4 = .ok (.iload_n 1, 1) := by decide +kernel
theorem dL_patch_5 : decode cL_patch 5 = .ok (.iload_n 2, 1) := by decide +kernel
theorem dL_patch_6 : decode cL_patch 6 = .ok (.iload_n 3, 1) := by decide +kernel
theorem dL_patch_7 : decode cL_patch 7 = .ok (.invokevirtual 27, 3) := by decide +kernel
theorem dL_patch_10 : decode cL_patch 10 = .ok (.i2l, 1) := by decide +kernel
theorem dL_patch_11 : decode cL_patch 11 = .ok (.lastore, 1) := by decide +kernel
theorem dL_patch_12 : decode cL_patch 12 = .ok (.goto 15, 3) := by decide +kernel
theorem dL_patch_15 : decode cL_patch 15 = .ok (.astore 5, 2) := by decide +kernel
theorem dL_patch_17 : decode cL_patch 17 = .ok (.iconst 1, 1) := by decide +kernel
theorem dL_patch_18 : decode cL_patch 18 = .ok (.ireturn, 1) := by decide +kernel
theorem dL_patch_19 : decode cL_patch 19 = .ok (.astore 5, 2) := by decide +kernel
theorem dL_patch_21 : decode cL_patch 21 = .ok (.iconst 2, 1) := by decide +kernel
theorem dL_patch_22 : decode cL_patch 22 = .ok (.ireturn, 1) := by decide +kernel
theorem dL_patch_23 : decode cL_patch 23 = .ok (.astore 5, 2) := by decide +kernel
theorem dL_patch_25 : decode cL_patch 25 = .ok (.iconst 3, 1) := by decide +kernel
theorem dL_patch_26 : decode cL_patch 26 = .ok (.ireturn, 1) := by decide +kernel
theorem dL_patch_27 : decode cL_patch 27 = .ok (.iconst 0, 1) := by decide +kernel
theorem dL_patch_28 : decode cL_patch 28 = .ok (.ireturn, 1) := by decide +kernel
theorem dX2_patch_0 : decode cX2_patch 0 = .ok (.aload_n 0, 1) := by decide +kernel
theorem dX2_patch_1 : decode cX2_patch 1 = .ok (.getfield 18, 3) := by decide +kernel
theorem dX2_patch_4 : decode cX2_patch 4 = .ok (.ifCond .eq 13, 3) := by decide +kernel
theorem dX2_patch_7 : decode cX2_patch 7 = .ok (.new 79, 3) := by decide +kernel
theorem dX2_patch_10 : decode cX2_patch 10 = .ok (.dup, 1) := by decide +kernel
theorem dX2_patch_11 : decode cX2_patch 11 = .ok (.ldc 97, 2) := by decide +kernel
theorem dX2_patch_13 : decode cX2_patch 13 = .ok (.invokespecial 83, 3) := by decide +kernel
theorem dX2_patch_16 : decode cX2_patch 16 = .ok (.athrow, 1) := by decide +kernel
theorem dX2_patch_17 : decode cX2_patch 17 = .ok (.iload_n 2, 1) := by decide +kernel
end
section
theorem dX2_patch_18 : decode cX2_patch 18 = .ok (.invokestatic 56, 3) := by decide +kernel
theorem dX2_patch_21 : decode cX2_patch 21 = .ok (.iload_n 1, 1) := by decide +kernel
theorem dX2_patch_22 : decode cX2_patch 22 = .ok (.ifCond .lt 16, 3) := by decide +kernel
theorem dX2_patch_25 : decode cX2_patch 25 = .ok (.iload_n 1, 1) := by decide +kernel
theorem dX2_patch_26 : decode cX2_patch 26 = .ok (.aload_n 0, 1) := by decide +kernel
theorem dX2_patch_27 : decode cX2_patch 27 = .ok (.getfield 43, 3) := by decide +kernel
theorem dX2_patch_30 : decode cX2_patch 30 = .ok (.getfield 66, 3) := by decide +kernel
theorem dX2_patch_33 : decode cX2_patch 33 = .ok (.iload_n 2, 1) := by decide +kernel
theorem dX2_patch_34 : decode cX2_patch 34 = .ok (.isub, 1) := by decide +kernel
theorem dX2_patch_35 : decode cX2_patch 35 = .ok (.if_icmp .le 13, 3) := by decide +kernel
theorem dX2_patch_38 : decode cX2_patch 38 = .ok (.new 99, 3) := by decide +kernel
theorem dX2_patch_41 : decode cX2_patch 41 = .ok (.dup, 1) := by decide +kernel
theorem dX2_patch_42 : decode cX2_patch 42 = .ok (.ldc 101, 2) := by decide +kernel
theorem dX2_patch_44 : decode cX2_patch 44 = .ok (.invokespecial 103, 3) := by decide +kernel
theorem dX2_patch_47 : decode cX2_patch 47 = .ok (.athrow, 1) := by decide +kernel
theorem dX2_patch_48 : decode cX2_patch 48 = .ok (.iconst 0, 1) := by decide +kernel
theorem dX2_patch_49 : decode cX2_patch 49 = .ok (.istore 4, 2) := by decide +kernel
theorem dX2_patch_51 : decode cX2_patch 51 = .ok (.iconst 0, 1) := by decide +kernel
theorem dX2_patch_52 : decode cX2_patch 52 = .ok (.istore 5, 2) := by decide +kernel
theorem dX2_patch_54 : decode cX2_patch 54 = .ok (.iload 5, 2) := by decide +kernel
theorem dX2_patch_56 : decode cX2_patch 56 = .ok (.iload_n 2, 1) := by decide +kernel
theorem dX2_patch_57 : decode cX2_patch 57 = .ok (.if_icmp .ge 54, 3) := by decide +kernel
theorem dX2_patch_60 : decode cX2_patch 60 = .ok (.aload_n 0, 1) := by decide +kernel
theorem dX2_patch_61 : decode cX2_patch 61 = .ok (.iload 5, 2) := by decide +kernel
theorem dX2_patch_63 : decode cX2_patch 63 = .ok (.iload_n 2, 1) := by decide +kernel
theorem dX2_patch_64 : decode cX2_patch 64 = .ok (.invokevirtual 69, 3) := by decide +kernel
theorem dX2_patch_67 : decode cX2_patch 67 = .ok (.istore 6, 2) := by decide +kernel
theorem dX2_patch_69 : decode cX2_patch 69 = .ok (.iload 4, 2) := by decide +kernel
theorem dX2_patch_71 : decode cX2_patch 71 = .ok (.aload_n 0, 1) := by decide +kernel
theorem dX2_patch_72 : decode cX2_patch 72 = .ok (.getfield 34, 3) := by decide +kernel
theorem dX2_patch_75 : decode cX2_patch 75 = .ok (.iload_n 1, 1) := by decide +kernel
theorem dX2_patch_76 : decode cX2_patch 76 = .ok (.iload 5, 2) := by decide +kernel
theorem dX2_patch_78 : decode cX2_patch 78 = .ok (.iadd, 1) := by decide +kernel
theorem dX2_patch_79 : decode cX2_patch 79 = .ok (.invokevirtual 104, 3) := by decide +kernel
theorem dX2_patch_82 : decode cX2_patch 82 = .ok (.iload 6, 2) := by decide +kernel
theorem dX2_patch_84 : decode cX2_patch 84 = .ok (.ishl, 1) := by decide +kernel
theorem dX2_patch_85 : decode cX2_patch 85 = .ok (.ior, 1) := by decide +kernel
theorem dX2_patch_86 : decode cX2_patch 86 = .ok (.istore 4, 2) := by decide +kernel
theorem dX2_patch_88 : decode cX2_patch 88 = .ok (.aload_n 0, 1) := by decide +kernel
theorem dX2_patch_89 : decode cX2_patch 89 = .ok (.getfield 34, 3) := by decide +kernel
theorem dX2_patch_92 : decode cX2_patch 92 = .ok (.iload_n 1, 1) := by decide +kernel
theorem dX2_patch_93 : decode cX2_patch 93 = .ok (.iload 5, 2) := by decide +kernel
theorem dX2_patch_95 : decode cX2_patch 95 = .ok (.iadd, 1) := by decide +kernel
theorem dX2_patch_96 : decode cX2_patch 96 = .ok (.iload_n 3, 1) := by decide +kernel
theorem dX2_patch_97 : decode cX2_patch 97 = .ok (.iload 6, 2) := by decide +kernel
theorem dX2_patch_99 : decode cX2_patch 99 = .ok (.iushr, 1) := by decide +kernel
theorem dX2_patch_100 : decode cX2_patch 100 = .ok (.iconst 1, 1) := by decide +kernel
theorem dX2_patch_101 : decode cX2_patch 101 = .ok (.iand, 1) := by decide +kernel
theorem dX2_patch_102 : decode cX2_patch 102 = .ok (.invokevirtual 108, 3) := by decide +kernel
theorem dX2_patch_105 : decode cX2_patch 105 = .ok (.iinc 5 1, 3) := by decide +kernel
theorem dX2_patch_108 : decode cX2_patch 108 = .ok (.goto (-54), 3) := by decide +kernel
theorem dX2_patch_111 : decode cX2_patch 111 = .ok (.iload 4, 2) := by decide +kernel
theorem dX2_patch_113 : decode cX2_patch 113 = .ok (.ireturn, 1) := by decide +kernel
theorem dL_byteAt_0 : decode cL_byteAt 0 = .ok (.aload_n 2, 1) := by decide +kernel
theorem dL_byteAt_1 : decode cL_byteAt 1 = .ok (.iconst 0, 1) := by decide +kernel
theorem dL_byteAt_2 : decode cL_byteAt 2 = .ok (.aload_n 0, 1) := by decide +kernel
theorem dL_byteAt_3 : decode cL_byteAt 3 = .ok (.iload_n 1, 1) := by decide +kernel
theorem dL_byteAt_4 : decode cL_byteAt 4 = .ok (.invokevirtual 33, 3) := by decide +kernel
theorem dL_byteAt_7 : decode cL_byteAt 7 = .ok (.i2l, 1) := by decide +kernel
theorem dL_byteAt_8 : decode cL_byteAt 8 = .ok (.lastore, 1) := by decide +kernel
theorem dL_byteAt_9 : decode cL_byteAt 9 = .ok (.goto 6, 3) := by decide +kernel
theorem dL_byteAt_12 : decode cL_byteAt 12 = .ok (.astore_n 3, 1) := by decide +kernel
theorem dL_byteAt_13 : decode cL_byteAt 13 = .ok (.iconst 1, 1) := by decide +kernel
theorem dL_byteAt_14 : decode cL_byteAt 14 = .ok (.ireturn, 1) := by decide +kernel
theorem dL_byteAt_15 : decode cL_byteAt 15 = .ok (.iconst 0, 1) := by decide +kernel
theorem dL_byteAt_16 : decode cL_byteAt 16 = .ok (.ireturn, 1) := by decide +kernel
theorem dX2_byteAt_0 : decode cX2_byteAt 0 = .ok (.iload_n 1, 1) := by decide +kernel
theorem dX2_byteAt_1 : decode cX2_byteAt 1 = .ok (.ifCond .lt 14, 3) := by decide +kernel
theorem dX2_byteAt_4 : decode cX2_byteAt 4 = .ok (.iload_n 1, 1) := by decide +kernel
theorem dX2_byteAt_5 : decode cX2_byteAt 5 = .ok (.aload_n 0, 1) := by decide +kernel
theorem dX2_byteAt_6 : decode cX2_byteAt 6 = .ok (.getfield 34, 3) := by decide +kernel
theorem dX2_byteAt_9 : decode cX2_byteAt 9 = .ok (.getfield 112, 3) := by decide +kernel
theorem dX2_byteAt_12 : decode cX2_byteAt 12 = .ok (.if_icmp .lt 13, 3) := by decide +kernel
theorem dX2_byteAt_15 : decode cX2_byteAt 15 = .ok (.new 99, 3) := by decide +kernel
theorem dX2_byteAt_18 : decode cX2_byteAt 18 = .ok (.dup, 1) := by decide +kernel
theorem dX2_byteAt_19 : decode cX2_byteAt 19 = .ok (.ldc 115, 2) := by decide +kernel
theorem dX2_byteAt_21 : decode cX2_byteAt 21 = .ok (.invokespecial 103, 3) := by decide +kernel
theorem dX2_byteAt_24 : decode cX2_byteAt 24 = .ok (.athrow, 1) := by decide +kernel
theorem dX2_byteAt_25 : decode cX2_byteAt 25 = .ok (.aload_n 0, 1) := by decide +kernel
theorem dX2_byteAt_26 : decode cX2_byteAt 26 = .ok (.getfield 34, 3) := by decide +kernel
theorem dX2_byteAt_29 : decode cX2_byteAt 29 = .ok (.iload_n 1, 1) := by decide +kernel
theorem dX2_byteAt_30 : decode cX2_byteAt 30 = .ok (.invokevirtual 117, 3) := by decide +kernel
theorem dX2_byteAt_33 : decode cX2_byteAt 33 = .ok (.ireturn, 1) := by decide +kernel
theorem dL_feed_0 : decode cL_feed 0 = .ok (.aload_n 2, 1) := by decide +kernel
theorem dL_feed_1 : decode cL_feed 1 = .ok (.iconst 0, 1) := by decide +kernel
theorem dL_feed_2 : decode cL_feed 2 = .ok (.aload_n 0, 1) := by decide +kernel
theorem dL_feed_3 : decode cL_feed 3 = .ok (.iload_n 1, 1) := by decide +kernel
theorem dL_feed_4 : decode cL_feed 4 = .ok (.invokevirtual 36, 3) := by decide +kernel
theorem dL_feed_7 : decode cL_feed 7 = .ok (.i2l, 1) := by decide +kernel
theorem dL_feed_8 : decode cL_feed 8 = .ok (.lastore, 1) := by decide +kernel
theorem dL_feed_9 : decode cL_feed 9 = .ok (.goto 9, 3) := by decide +kernel
theorem dL_feed_12 : decode cL_feed 12 = .ok (.astore_n 3, 1) := by decide +kernel
theorem dL_feed_13 : decode cL_feed 13 = .ok (.iconst 1, 1) := by decide +kernel
theorem dL_feed_14 : decode cL_feed 14 = .ok (.ireturn, 1) := by decide +kernel
theorem dL_feed_15 : decode cL_feed 15 = .ok (.astore_n 3, 1) := by decide +kernel
theorem dL_feed_16 : decode cL_feed 16 = .ok (.iconst 2, 1) := by decide +kernel
theorem dL_feed_17 : decode cL_feed 17 = .ok (.ireturn, 1) := by decide +kernel
theorem dL_feed_18 : decode cL_feed 18 = .ok (.iconst 0, 1) := by decide +kernel
theorem dL_feed_19 : decode cL_feed 19 = .ok (.ireturn, 1) := by decide +kernel
theorem dX2_feed_0 : decode cX2_feed 0 = .ok (.iload_n 1, 1) := by decide +kernel
theorem dX2_feed_1 : decode cX2_feed 1 = .ok (.ifCond .lt 10, 3) := by decide +kernel
theorem dX2_feed_4 : decode cX2_feed 4 = .ok (.iload_n 1, 1) := by decide +kernel
theorem dX2_feed_5 : decode cX2_feed 5 = .ok (.sipush 255, 3) := by decide +kernel
theorem dX2_feed_8 : decode cX2_feed 8 = .ok (.if_icmp .le 13, 3) := by decide +kernel
theorem dX2_feed_11 : decode cX2_feed 11 = .ok (.new 86, 3) := by decide +kernel
theorem dX2_feed_14 : decode cX2_feed 14 = .ok (.dup, 1) := by decide +kernel
theorem dX2_feed_15 : decode cX2_feed 15 = .ok (.ldc 120, 2) := by decide +kernel
theorem dX2_feed_17 : decode cX2_feed 17 = .ok (.invokespecial 90, 3) := by decide +kernel
theorem dX2_feed_20 : decode cX2_feed 20 = .ok (.athrow, 1) := by decide +kernel
theorem dX2_feed_21 : decode cX2_feed 21 = .ok (.aload_n 0, 1) := by decide +kernel
theorem dX2_feed_22 : decode cX2_feed 22 = .ok (.iconst 1, 1) := by decide +kernel
theorem dX2_feed_23 : decode cX2_feed 23 = .ok (.invokevirtual 122, 3) := by decide +kernel
theorem dX2_feed_26 : decode cX2_feed 26 = .ok (.aload_n 0, 1) := by decide +kernel
theorem dX2_feed_27 : decode cX2_feed 27 = .ok (.getfield 47, 3) := by decide +kernel
theorem dX2_feed_30 : decode cX2_feed 30 = .ok (.iload_n 1, 1) := by decide +kernel
theorem dX2_feed_31 : decode cX2_feed 31 = .ok (.invokevirtual 91, 3) := by decide +kernel
theorem dX2_feed_34 : decode cX2_feed 34 = .ok (.aload_n 0, 1) := by decide +kernel
theorem dX2_feed_35 : decode cX2_feed 35 = .ok (.getfield 47, 3) := by decide +kernel
theorem dX2_feed_38 : decode cX2_feed 38 = .ok (.getfield 112, 3) := by decide +kernel
theorem dX2_feed_41 : decode cX2_feed 41 = .ok (.ireturn, 1) := by decide +kernel
theorem dX2_refuseMoreBytes_0 : decode cX2_refuseMoreBytes 0 = .ok (.aload_n 0, 1) := by decide +kernel
theorem dX2_refuseMoreBytes_1 : decode cX2_refuseMoreBytes 1 = .ok (.getfield 47, 3) := by decide +kernel
theorem dX2_refuseMoreBytes_4 : decode cX2_refuseMoreBytes 4 = .ok (.getfield 112, 3) := by decide +kernel
theorem dX2_refuseMoreBytes_7 : decode cX2_refuseMoreBytes 7 = .ok (.iload_n 1, 1) := by decide +kernel
theorem dX2_refuseMoreBytes_8 : decode cX2_refuseMoreBytes 8 = .ok (.iadd, 1) := by decide +kernel
theorem dX2_refuseMoreBytes_9 : decode cX2_refuseMoreBytes 9 = .ok (.sipush 600, 3) := by decide +kernel
theorem dX2_refuseMoreBytes_12 : decode cX2_refuseMoreBytes 12 = .ok (.if_icmp .le 13, 3) := by decide +kernel
theorem dX2_refuseMoreBytes_15 : decode cX2_refuseMoreBytes 15 = .ok (.new 184, 3) := by decide +kernel
theorem dX2_refuseMoreBytes_18 : decode cX2_refuseMoreBytes 18 = .ok (.dup, 1) := by decide +kernel
theorem dX2_refuseMoreBytes_19 : decode cX2_refuseMoreBytes 19 = .ok (.ldc 189, 2) := by decide +kernel
theorem dX2_refuseMoreBytes_21 : decode cX2_refuseMoreBytes 21 = .ok (.invokespecial 188, 3) := by decide +kernel
theorem dX2_refuseMoreBytes_24 : decode cX2_refuseMoreBytes 24 = .ok (.athrow, 1) := by decide +kernel
theorem dX2_refuseMoreBytes_25 : decode cX2_refuseMoreBytes 25 = .ok (.return_, 1) := by decide +kernel
theorem dL_pass_0 : decode cL_pass 0 = .ok (.aload_n 3, 1) := by decide +kernel
theorem dL_pass_1 : decode cL_pass 1 = .ok (.iconst 0, 1) := by decide +kernel
theorem dL_pass_2 : decode cL_pass 2 = .ok (.aload_n 0, 1) := by decide +kernel
theorem dL_pass_3 : decode cL_pass 3 = .ok (.iload_n 1, 1) := by decide +kernel
theorem dL_pass_4 : decode cL_pass 4 = .ok (.iload_n 2, 1) := by decide +kernel
theorem dL_pass_5 : decode cL_pass 5 = .ok (.invokevirtual 39, 3) := by decide +kernel
theorem dL_pass_8 : decode cL_pass 8 = .ok (.i2l, 1) := by decide +kernel
theorem dL_pass_9 : decode cL_pass 9 = .ok (.lastore, 1) := by decide +kernel
theorem dL_pass_10 : decode cL_pass 10 = .ok (.goto 15, 3) := by decide +kernel
theorem dL_pass_13 : decode cL_pass 13 = .ok (.astore 4, 2) := by decide +kernel
theorem dL_pass_15 : decode cL_pass 15 = .ok (.iconst 1, 1) := by decide +kernel
theorem dL_pass_16 : decode cL_pass 16 = .ok (.ireturn, 1) := by decide +kernel
theorem dL_pass_17 : decode cL_pass 17 = .ok (.astore 4, 2) := by decide +kernel
theorem dL_pass_19 : decode cL_pass 19 = .ok (.iconst 2, 1) := by decide +kernel
theorem dL_pass_20 : decode cL_pass 20 = .ok (.ireturn, 1) := by decide +kernel
theorem dL_pass_21 : decode cL_pass 21 = .ok (.astore 4, 2) := by decide +kernel
theorem dL_pass_23 : decode cL_pass 23 = .ok (.iconst 3, 1) := by decide +kernel
theorem dL_pass_24 : decode cL_pass 24 = .ok (.ireturn, 1) := by decide +kernel
theorem dL_pass_25 : decode cL_pass 25 = .ok (.iconst 0, 1) := by decide +kernel
theorem dL_pass_26 : decode cL_pass 26 = .ok (.ireturn, 1) := by decide +kernel
theorem dX2_pass_0 : decode cX2_pass 0 = .ok (.aload_n 0, 1) := by decide +kernel
theorem dX2_pass_1 : decode cX2_pass 1 = .ok (.getfield 43, 3) := by decide +kernel
theorem dX2_pass_4 : decode cX2_pass 4 = .ok (.getfield 66, 3) := by decide +kernel
theorem dX2_pass_7 : decode cX2_pass 7 = .ok (.iconst 3, 1) := by decide +kernel
theorem dX2_pass_8 : decode cX2_pass 8 = .ok (.ishr, 1) := by decide +kernel
theorem dX2_pass_9 : decode cX2_pass 9 = .ok (.istore_n 3, 1) := by decide +kernel
theorem dX2_pass_10 : decode cX2_pass 10 = .ok (.iload_n 1, 1) := by decide +kernel
theorem dX2_pass_11 : decode cX2_pass 11 = .ok (.ifCond .lt 8, 3) := by decide +kernel
theorem dX2_pass_14 : decode cX2_pass 14 = .ok (.iload_n 1, 1) := by decide +kernel
theorem dX2_pass_15 : decode cX2_pass 15 = .ok (.iload_n 3, 1) := by decide +kernel
theorem dX2_pass_16 : decode cX2_pass 16 = .ok (.if_icmp .lt 13, 3) := by decide +kernel
theorem dX2_pass_19 : decode cX2_pass 19 = .ok (.new 99, 3) := by decide +kernel
theorem dX2_pass_22 : decode cX2_pass 22 = .ok (.dup, 1) := by decide +kernel
theorem dX2_pass_23 : decode cX2_pass 23 = .ok (.ldc 125, 2) := by decide +kernel
theorem dX2_pass_25 : decode cX2_pass 25 = .ok (.invokespecial 103, 3) := by decide +kernel
theorem dX2_pass_28 : decode cX2_pass 28 = .ok (.athrow, 1) := by decide +kernel
theorem dX2_pass_29 : decode cX2_pass 29 = .ok (.iload_n 2, 1) := by decide +kernel
theorem dX2_pass_30 : decode cX2_pass 30 = .ok (.ifCond .ge 13, 3) := by decide +kernel
theorem dX2_pass_33 : decode cX2_pass 33 = .ok (.new 86, 3) := by decide +kernel
theorem dX2_pass_36 : decode cX2_pass 36 = .ok (.dup, 1) := by decide +kernel
theorem dX2_pass_37 : decode cX2_pass 37 = .ok (.ldc 127, 2) := by decide +kernel
theorem dX2_pass_39 : decode cX2_pass 39 = .ok (.invokespecial 90, 3) := by decide +kernel
theorem dX2_pass_42 : decode cX2_pass 42 = .ok (.athrow, 1) := by decide +kernel
theorem dX2_pass_43 : decode cX2_pass 43 = .ok (.iload_n 2, 1) := by decide +kernel
theorem dX2_pass_44 : decode cX2_pass 44 = .ok (.iload_n 3, 1) := by decide +kernel
theorem dX2_pass_45 : decode cX2_pass 45 = .ok (.iload_n 1, 1) := by decide +kernel
theorem dX2_pass_46 : decode cX2_pass 46 = .ok (.isub, 1) := by decide +kernel
theorem dX2_pass_47 : decode cX2_pass 47 = .ok (.invokestatic 9, 3) := by decide +kernel
theorem dX2_pass_50 : decode cX2_pass 50 = .ok (.istore 4, 2) := by decide +kernel
theorem dX2_pass_52 : decode cX2_pass 52 = .ok (.aload_n 0, 1) := by decide +kernel
theorem dX2_pass_53 : decode cX2_pass 53 = .ok (.iload 4, 2) := by decide +kernel
theorem dX2_pass_55 : decode cX2_pass 55 = .ok (.invokevirtual 122, 3) := by decide +kernel
theorem dX2_pass_58 : decode cX2_pass 58 = .ok (.iconst 0, 1) := by decide +kernel
theorem dX2_pass_59 : decode cX2_pass 59 = .ok (.istore 5, 2) := by decide +kernel
theorem dX2_pass_61 : decode cX2_pass 61 = .ok (.iload 5, 2) := by decide +kernel
theorem dX2_pass_63 : decode cX2_pass 63 = .ok (.iload 4, 2) := by decide +kernel
theorem dX2_pass_65 : decode cX2_pass 65 = .ok (.if_icmp .ge 27, 3) := by decide +kernel
theorem dX2_pass_68 : decode cX2_pass 68 = .ok (.aload_n 0, 1) := by decide +kernel
theorem dX2_pass_69 : decode cX2_pass 69 = .ok (.getfield 47, 3) := by decide +kernel
theorem dX2_pass_72 : decode cX2_pass 72 = .ok (.aload_n 0, 1) := by decide +kernel
theorem dX2_pass_73 : decode cX2_pass 73 = .ok (.getfield 34, 3) := by decide +kernel
theorem dX2_pass_76 : decode cX2_pass 76 = .ok (.iload_n 1, 1) := by decide +kernel
theorem dX2_pass_77 : decode cX2_pass 77 = .ok (.iload 5, 2) := by decide +kernel
theorem dX2_pass_79 : decode cX2_pass 79 = .ok (.iadd, 1) := by decide +kernel
theorem dX2_pass_80 : decode cX2_pass 80 = .ok (.invokevirtual 117, 3) := by decide +kernel
theorem dX2_pass_83 : decode cX2_pass 83 = .ok (.invokevirtual 91, 3) := by decide +kernel
theorem dX2_pass_86 : decode cX2_pass 86 = .ok (.iinc 5 1, 3) := by decide +kernel
theorem dX2_pass_89 : decode cX2_pass 89 = .ok (.goto (-28), 3) := by decide +kernel
theorem dX2_pass_92 : decode cX2_pass 92 = .ok (.iload 4, 2) := by decide +kernel
theorem dX2_pass_94 : decode cX2_pass 94 = .ok (.ireturn, 1) := by decide +kernel
theorem dL_get_0 : decode cL_get 0 = .ok (.aload_n 2, 1) := by decide +kernel
theorem dL_get_1 : decode cL_get 1 = .ok (.iconst 0, 1) := by decide +kernel
theorem dL_get_2 : decode cL_get 2 = .ok (.aload_n 0, 1) := by decide +kernel
theorem dL_get_3 : decode cL_get 3 = .ok (.iload_n 1, 1) := by decide +kernel
theorem dL_get_4 : decode cL_get 4 = .ok (.invokevirtual 42, 3) := by decide +kernel
theorem dL_get_7 : decode cL_get 7 = .ok (.lastore, 1) := by decide +kernel
theorem dL_get_8 : decode cL_get 8 = .ok (.goto 6, 3) := by decide +kernel
theorem dL_get_11 : decode cL_get 11 = .ok (.astore_n 3, 1) := by decide +kernel
theorem dL_get_12 : decode cL_get 12 = .ok (.iconst 1, 1) := by decide +kernel
theorem dL_get_13 : decode cL_get 13 = .ok (.ireturn, 1) := by decide +kernel
theorem dL_get_14 : decode cL_get 14 = .ok (.iconst 0, 1) := by decide +kernel
theorem dL_get_15 : decode cL_get 15 = .ok (.ireturn, 1) := by decide +kernel
theorem dX2_get_0 : decode cX2_get 0 = .ok (.iload_n 1, 1) := by decide +kernel
theorem dX2_get_1 : decode cX2_get 1 = .ok (.invokestatic 56, 3) := by decide +kernel
theorem dX2_get_4 : decode cX2_get 4 = .ok (.aload_n 0, 1) := by decide +kernel
theorem dX2_get_5 : decode cX2_get 5 = .ok (.getfield 53, 3) := by decide +kernel
theorem dX2_get_8 : decode cX2_get 8 = .ok (.ifCond .eq 7, 3) := by decide +kernel
theorem dX2_get_11 : decode cX2_get 11 = .ok (.ldc2_w 129, 3) := by decide +kernel
theorem dX2_get_14 : decode cX2_get 14 = .ok (.lreturn, 1) := by decide +kernel
theorem dX2_get_15 : decode cX2_get 15 = .ok (.aload_n 0, 1) := by decide +kernel
theorem dX2_get_16 : decode cX2_get 16 = .ok (.getfield 50, 3) := by decide +kernel
theorem dX2_get_19 : decode cX2_get 19 = .ok (.getfield 66, 3) := by decide +kernel
theorem dX2_get_22 : decode cX2_get 22 = .ok (.istore_n 2, 1) := by decide +kernel
theorem dX2_get_23 : decode cX2_get 23 = .ok (.aload_n 0, 1) := by decide +kernel
theorem dX2_get_24 : decode cX2_get 24 = .ok (.getfield 50, 3) := by decide +kernel
theorem dX2_get_27 : decode cX2_get 27 = .ok (.getfield 131, 3) := by decide +kernel
theorem dX2_get_30 : decode cX2_get 30 = .ok (.istore_n 3, 1) := by decide +kernel
theorem dX2_get_31 : decode cX2_get 31 = .ok (.aload_n 0, 1) := by decide +kernel
theorem dX2_get_32 : decode cX2_get 32 = .ok (.getfield 50, 3) := by decide +kernel
theorem dX2_get_35 : decode cX2_get 35 = .ok (.getfield 134, 3) := by decide +kernel
theorem dX2_get_38 : decode cX2_get 38 = .ok (.istore 4, 2) := by decide +kernel
theorem dX2_get_40 : decode cX2_get 40 = .ok (.lconst 0, 1) := by decide +kernel
theorem dX2_get_41 : decode cX2_get 41 = .ok (.lstore 5, 2) := by decide +kernel
theorem dX2_get_43 : decode cX2_get 43 = .ok (.iconst 0, 1) := by decide +kernel
theorem dX2_get_44 : decode cX2_get 44 = .ok (.istore 7, 2) := by decide +kernel
theorem dX2_get_46 : decode cX2_get 46 = .ok (.iload 7, 2) := by decide +kernel
theorem dX2_get_48 : decode cX2_get 48 = .ok (.iload_n 1, 1) := by decide +kernel
theorem dX2_get_49 : decode cX2_get 49 = .ok (.if_icmp .ge 67, 3) := by decide +kernel
theorem dX2_get_52 : decode cX2_get 52 = .ok (.aload_n 0, 1) := by decide +kernel
theorem dX2_get_53 : decode cX2_get 53 = .ok (.invokevirtual 137, 3) := by decide +kernel
theorem dX2_get_56 : decode cX2_get 56 = .ok (.istore 8, 2) := by decide +kernel
theorem dX2_get_58 : decode cX2_get 58 = .ok (.iload 8, 2) := by decide +kernel
theorem dX2_get_60 : decode cX2_get 60 = .ok (.ifCond .ge 34, 3) := by decide +kernel
theorem dX2_get_63 : decode cX2_get 63 = .ok (.aload_n 0, 1) := by decide +kernel
theorem dX2_get_64 : decode cX2_get 64 = .ok (.getfield 50, 3) := by decide +kernel
theorem dX2_get_67 : decode cX2_get 67 = .ok (.iload_n 2, 1) := by decide +kernel
theorem dX2_get_68 : decode cX2_get 68 = .ok (.iload_n 3, 1) := by decide +kernel
theorem dX2_get_69 : decode cX2_get 69 = .ok (.iload 4, 2) := by decide +kernel
theorem dX2_get_71 : decode cX2_get 71 = .ok (.invokevirtual 140, 3) := by decide +kernel
theorem dX2_get_74 : decode cX2_get 74 = .ok (.aload_n 0, 1) := by decide +kernel
theorem dX2_get_75 : decode cX2_get 75 = .ok (.iload 8, 2) := by decide +kernel
theorem dX2_get_77 : decode cX2_get 77 = .ok (.bipush (-3), 2) := by decide +kernel
theorem dX2_get_79 : decode cX2_get 79 = .ok (.if_icmp .ne 7, 3) := by decide +kernel
theorem dX2_get_82 : decode cX2_get 82 = .ok (.iconst 1, 1) := by decide +kernel
theorem dX2_get_83 : decode cX2_get 83 = .ok (.goto 4, 3) := by decide +kernel
theorem dX2_get_86 : decode cX2_get 86 = .ok (.iconst 0, 1) := by decide +kernel
theorem dX2_get_87 : decode cX2_get 87 = .ok (.putfield 53, 3) := by decide +kernel
theorem dX2_get_90 : decode cX2_get 90 = .ok (.iload 8, 2) := by decide +kernel
theorem dX2_get_92 : decode cX2_get 92 = .ok (.i2l, 1) := by decide +kernel
theorem dX2_get_93 : decode cX2_get 93 = .ok (.lreturn, 1) := by decide +kernel
theorem dX2_get_94 : decode cX2_get 94 = .ok (.lload 5, 2) := by decide +kernel
theorem dX2_get_96 : decode cX2_get 96 = .ok (.iload 8, 2) := by decide +kernel
theorem dX2_get_98 : decode cX2_get 98 = .ok (.i2l, 1) := by decide +kernel
theorem dX2_get_99 : decode cX2_get 99 = .ok (.aload_n 0, 1) := by decide +kernel
theorem dX2_get_100 : decode cX2_get 100 = .ok (.iload 7, 2) := by decide +kernel
theorem dX2_get_102 : decode cX2_get 102 = .ok (.iload_n 1, 1) := by decide +kernel
theorem dX2_get_103 : decode cX2_get 103 = .ok (.invokevirtual 69, 3) := by decide +kernel
theorem dX2_get_106 : decode cX2_get 106 = .ok (.lshl, 1) := by decide +kernel
theorem dX2_get_107 : decode cX2_get 107 = .ok (.lor, 1) := by decide +kernel
theorem dX2_get_108 : decode cX2_get 108 = .ok (.lstore 5, 2) := by decide +kernel
theorem dX2_get_110 : decode cX2_get 110 = .ok (.iinc 7 1, 3) := by decide +kernel
theorem dX2_get_113 : decode cX2_get 113 = .ok (.goto (-67), 3) := by decide +kernel
theorem dX2_get_116 : decode cX2_get 116 = .ok (.lload 5, 2) := by decide +kernel
theorem dX2_get_118 : decode cX2_get 118 = .ok (.lreturn, 1) := by decide +kernel
theorem dX2_readBit_0 : decode cX2_readBit 0 = .ok (.aload_n 0, 1) := by decide +kernel
theorem dX2_readBit_1 : decode cX2_readBit 1 = .ok (.invokevirtual 191, 3) := by decide +kernel
theorem dX2_readBit_4 : decode cX2_readBit 4 = .ok (.istore_n 1, 1) := by decide +kernel
theorem dX2_readBit_5 : decode cX2_readBit 5 = .ok (.iload_n 1, 1) := by decide +kernel
theorem dX2_readBit_6 : decode cX2_readBit 6 = .ok (.ifCond .ne 8, 3) := by decide +kernel
theorem dX2_readBit_9 : decode cX2_readBit 9 = .ok (.aload_n 0, 1) := by decide +kernel
theorem dX2_readBit_10 : decode cX2_readBit 10 = .ok (.invokevirtual 194, 3) := by decide +kernel
theorem dX2_readBit_13 : decode cX2_readBit 13 = .ok (.istore_n 1, 1) := by decide +kernel
theorem dX2_readBit_14 : decode cX2_readBit 14 = .ok (.iload_n 1, 1) := by decide +kernel
theorem dX2_readBit_15 : decode cX2_readBit 15 = .ok (.ifCond .eq 5, 3) := by decide +kernel
theorem dX2_readBit_18 : decode cX2_readBit 18 = .ok (.iload_n 1, 1) := by decide +kernel
theorem dX2_readBit_19 : decode cX2_readBit 19 = .ok (.ireturn, 1) := by decide +kernel
theorem dX2_readBit_20 : decode cX2_readBit 20 = .ok (.aload_n 0, 1) := by decide +kernel
theorem dX2_readBit_21 : decode cX2_readBit 21 = .ok (.getfield 47, 3) := by decide +kernel
theorem dX2_readBit_24 : decode cX2_readBit 24 = .ok (.aload_n 0, 1) := by decide +kernel
theorem dX2_readBit_25 : decode cX2_readBit 25 = .ok (.getfield 50, 3) := by decide +kernel
theorem dX2_readBit_28 : decode cX2_readBit 28 = .ok (.getfield 66, 3) := by decide +kernel
theorem dX2_readBit_31 : decode cX2_readBit 31 = .ok (.invokevirtual 104, 3) := by decide +kernel
theorem dX2_readBit_34 : decode cX2_readBit 34 = .ok (.istore_n 2, 1) := by decide +kernel
theorem dX2_readBit_35 : decode cX2_readBit 35 = .ok (.aload_n 0, 1) := by decide +kernel
theorem dX2_readBit_36 : decode cX2_readBit 36 = .ok (.getfield 50, 3) := by decide +kernel
theorem dX2_readBit_39 : decode cX2_readBit 39 = .ok (.iload_n 2, 1) := by decide +kernel
theorem dX2_readBit_40 : decode cX2_readBit 40 = .ok (.invokevirtual 154, 3) := by decide +kernel
theorem dX2_readBit_43 : decode cX2_readBit 43 = .ok (.aload_n 0, 1) := by decide +kernel
theorem dX2_readBit_44 : decode cX2_readBit 44 = .ok (.getfield 26, 3) := by decide +kernel
theorem dX2_readBit_47 : decode cX2_readBit 47 = .ok (.ifCond .eq 8, 3) := by decide +kernel
theorem dX2_readBit_50 : decode cX2_readBit 50 = .ok (.aload_n 0, 1) := by decide +kernel
theorem dX2_readBit_51 : decode cX2_readBit 51 = .ok (.invokevirtual 194, 3) := by decide +kernel
theorem dX2_readBit_54 : decode cX2_readBit 54 = .ok (.istore_n 1, 1) := by decide +kernel
theorem dX2_readBit_55 : decode cX2_readBit 55 = .ok (.iload_n 1, 1) := by decide +kernel
theorem dX2_readBit_56 : decode cX2_readBit 56 = .ok (.ifCond .ne 7, 3) := by decide +kernel
theorem dX2_readBit_59 : decode cX2_readBit 59 = .ok (.iload_n 2, 1) := by decide +kernel
theorem dX2_readBit_60 : decode cX2_readBit 60 = .ok (.goto 4, 3) := by decide +kernel
theorem dX2_readBit_63 : decode cX2_readBit 63 = .ok (.iload_n 1, 1) := by decide +kernel
theorem dX2_readBit_64 : decode cX2_readBit 64 = .ok (.ireturn, 1) := by decide +kernel
theorem dX2_meetHere_0 : decode cX2_meetHere 0 = .ok (.aload_n 0, 1) := by decide +kernel
theorem dX2_meetHere_1 : decode cX2_meetHere 1 = .ok (.getfield 50, 3) := by decide +kernel
theorem dX2_meetHere_4 : decode cX2_meetHere 4 = .ok (.invokevirtual 197, 3) := by decide +kernel
theorem dX2_meetHere_7 : decode cX2_meetHere 7 = .ok (.ifCond .ne 5, 3) := by decide +kernel
theorem dX2_meetHere_10 : decode cX2_meetHere 10 = .ok (.iconst (-1), 1) := by decide +kernel
theorem dX2_meetHere_11 : decode cX2_meetHere 11 = .ok (.ireturn, 1) := by decide +kernel
theorem dX2_meetHere_12 : decode cX2_meetHere 12 = .ok (.aload_n 0, 1) := by decide +kernel
theorem dX2_meetHere_13 : decode cX2_meetHere 13 = .ok (.getfield 50, 3) := by decide +kernel
theorem dX2_meetHere_16 : decode cX2_meetHere 16 = .ok (.getfield 66, 3) := by decide +kernel
theorem dX2_meetHere_19 : decode cX2_meetHere 19 = .ok (.iconst 3, 1) := by decide +kernel
theorem dX2_meetHere_20 : decode cX2_meetHere 20 = .ok (.ishr, 1) := by decide +kernel
theorem dX2_meetHere_21 : decode cX2_meetHere 21 = .ok (.istore_n 1, 1) := by decide +kernel
theorem dX2_meetHere_22 : decode cX2_meetHere 22 = .ok (.aload_n 0, 1) := by decide +kernel
theorem dX2_meetHere_23 : decode cX2_meetHere 23 = .ok (.getfield 18, 3) := by decide +kernel
theorem dX2_meetHere_26 : decode cX2_meetHere 26 = .ok (.iconst 1, 1) := by decide +kernel
theorem dX2_meetHere_27 : decode cX2_meetHere 27 = .ok (.if_icmp .ne 27, 3) := by decide +kernel
theorem dX2_meetHere_30 : decode cX2_meetHere 30 = .ok (.aload_n 0, 1) := by decide +kernel
theorem dX2_meetHere_31 : decode cX2_meetHere 31 = .ok (.getfield 50, 3) := by decide +kernel
theorem dX2_meetHere_34 : decode cX2_meetHere 34 = .ok (.invokevirtual 157, 3) := by decide +kernel
theorem dX2_meetHere_37 : decode cX2_meetHere 37 = .ok (.ifCond .eq 17, 3) := by decide +kernel
theorem dX2_meetHere_40 : decode cX2_meetHere 40 = .ok (.aload_n 0, 1) := by decide +kernel
theorem dX2_meetHere_41 : decode cX2_meetHere 41 = .ok (.getfield 47, 3) := by decide +kernel
theorem dX2_meetHere_44 : decode cX2_meetHere 44 = .ok (.iload_n 1, 1) := by decide +kernel
theorem dX2_meetHere_45 : decode cX2_meetHere 45 = .ok (.invokevirtual 117, 3) := by decide +kernel
theorem dX2_meetHere_48 : decode cX2_meetHere 48 = .ok (.sipush 255, 3) := by decide +kernel
theorem dX2_meetHere_51 : decode cX2_meetHere 51 = .ok (.if_icmp .eq 5, 3) := by decide +kernel
theorem dX2_meetHere_54 : decode cX2_meetHere 54 = .ok (.iconst 0, 1) := by decide +kernel
theorem dX2_meetHere_55 : decode cX2_meetHere 55 = .ok (.ireturn, 1) := by decide +kernel
theorem dX2_meetHere_56 : decode cX2_meetHere 56 = .ok (.iload_n 1, 1) := by decide +kernel
theorem dX2_meetHere_57 : decode cX2_meetHere 57 = .ok (.iconst 1, 1) := by decide +kernel
theorem dX2_meetHere_58 : decode cX2_meetHere 58 = .ok (.iadd, 1) := by decide +kernel
theorem dX2_meetHere_59 : decode cX2_meetHere 59 = .ok (.aload_n 0, 1) := by decide +kernel
theorem dX2_meetHere_60 : decode cX2_meetHere 60 = .ok (.getfield 47, 3) := by decide +kernel
theorem dX2_meetHere_63 : decode cX2_meetHere 63 = .ok (.getfield 112, 3) := by decide +kernel
theorem dX2_meetHere_66 : decode cX2_meetHere 66 = .ok (.if_icmp .lt 5, 3) := by decide +kernel
theorem dX2_meetHere_69 : decode cX2_meetHere 69 = .ok (.iconst (-1), 1) := by decide +kernel
theorem dX2_meetHere_70 : decode cX2_meetHere 70 = .ok (.ireturn, 1) := by decide +kernel
theorem dX2_meetHere_71 : decode cX2_meetHere 71 = .ok (.aload_n 0, 1) := by decide +kernel
theorem dX2_meetHere_72 : decode cX2_meetHere 72 = .ok (.getfield 47, 3) := by decide +kernel
theorem dX2_meetHere_75 : decode cX2_meetHere 75 = .ok (.iload_n 1, 1) := by decide +kernel
theorem dX2_meetHere_76 : decode cX2_meetHere 76 = .ok (.invokevirtual 160, 3) := by decide +kernel
theorem dX2_meetHere_79 : decode cX2_meetHere 79 = .ok (.ifCond .eq 8, 3) := by decide +kernel
theorem dX2_meetHere_82 : decode cX2_meetHere 82 = .ok (.bipush (-2), 2) := by decide +kernel
theorem dX2_meetHere_84 : decode cX2_meetHere 84 = .ok (.goto 4, 3) := by decide +kernel
theorem dX2_meetHere_87 : decode cX2_meetHere 87 = .ok (.iconst 0, 1) := by decide +kernel
theorem dX2_meetHere_88 : decode cX2_meetHere 88 = .ok (.ireturn, 1) := by decide +kernel
theorem dX1_isWithin_0 : decode cX1_isWithin 0 = .ok (.aload_n 0, 1) := by decide +kernel
theorem dX1_isWithin_1 : decode cX1_isWithin 1 = .ok (.getfield 22, 3) := by decide +kernel
theorem dX1_isWithin_4 : decode cX1_isWithin 4 = .ok (.bipush 8, 2) := by decide +kernel
theorem dX1_isWithin_6 : decode cX1_isWithin 6 = .ok (.aload_n 0, 1) := by decide +kernel
theorem dX1_isWithin_7 : decode cX1_isWithin 7 = .ok (.getfield 9, 3) := by decide +kernel
theorem dX1_isWithin_10 : decode cX1_isWithin 10 = .ok (.getfield 38, 3) := by decide +kernel
theorem dX1_isWithin_13 : decode cX1_isWithin 13 = .ok (.imul, 1) := by decide +kernel
theorem dX1_isWithin_14 : decode cX1_isWithin 14 = .ok (.if_icmp .ge 7, 3) := by decide +kernel
theorem dX1_isWithin_17 : decode cX1_isWithin 17 = .ok (.iconst 1, 1) := by decide +kernel
theorem dX1_isWithin_18 : decode cX1_isWithin 18 = .ok (.goto 4, 3) := by decide +kernel
theorem dX1_isWithin_21 : decode cX1_isWithin 21 = .ok (.iconst 0, 1) := by decide +kernel
theorem dX1_isWithin_22 : decode cX1_isWithin 22 = .ok (.ireturn, 1) := by decide +kernel
theorem dX2_readStuffedIfDue_0 : decode cX2_readStuffedIfDue 0 = .ok (.aload_n 0, 1) := by decide +kernel
theorem dX2_readStuffedIfDue_1 : decode cX2_readStuffedIfDue 1 = .ok (.getfield 50, 3) := by decide +kernel
theorem dX2_readStuffedIfDue_4 : decode cX2_readStuffedIfDue 4 = .ok (.invokevirtual 148, 3) := by decide +kernel
theorem dX2_readStuffedIfDue_7 : decode cX2_readStuffedIfDue 7 = .ok (.ifCond .ne 5, 3) := by decide +kernel
theorem dX2_readStuffedIfDue_10 : decode cX2_readStuffedIfDue 10 = .ok (.iconst 0, 1) := by decide +kernel
theorem dX2_readStuffedIfDue_11 : decode cX2_readStuffedIfDue 11 = .ok (.ireturn, 1) := by decide +kernel
theorem dX2_readStuffedIfDue_12 : decode cX2_readStuffedIfDue 12 = .ok (.aload_n 0, 1) := by decide +kernel
theorem dX2_readStuffedIfDue_13 : decode cX2_readStuffedIfDue 13 = .ok (.getfield 50, 3) := by decide +kernel
theorem dX2_readStuffedIfDue_16 : decode cX2_readStuffedIfDue 16 = .ok (.invokevirtual 197, 3) := by decide +kernel
theorem dX2_readStuffedIfDue_19 : decode cX2_readStuffedIfDue 19 = .ok (.ifCond .ne 5, 3) := by decide +kernel
theorem dX2_readStuffedIfDue_22 : decode cX2_readStuffedIfDue 22 = .ok (.iconst (-1), 1) := by decide +kernel
theorem dX2_readStuffedIfDue_23 : decode cX2_readStuffedIfDue 23 = .ok (.ireturn, 1) := by decide +kernel
theorem dX2_readStuffedIfDue_24 : decode cX2_readStuffedIfDue 24 = .ok (.aload_n 0, 1) := by decide +kernel
theorem dX2_readStuffedIfDue_25 : decode cX2_readStuffedIfDue 25 = .ok (.getfield 47, 3) := by decide +kernel
theorem dX2_readStuffedIfDue_28 : decode cX2_readStuffedIfDue 28 = .ok (.aload_n 0, 1) := by decide +kernel
theorem dX2_readStuffedIfDue_29 : decode cX2_readStuffedIfDue 29 = .ok (.getfield 50, 3) := by decide +kernel
theorem dX2_readStuffedIfDue_32 : decode cX2_readStuffedIfDue 32 = .ok (.getfield 66, 3) := by decide +kernel
theorem dX2_readStuffedIfDue_35 : decode cX2_readStuffedIfDue 35 = .ok (.invokevirtual 104, 3) := by decide +kernel
theorem dX2_readStuffedIfDue_38 : decode cX2_readStuffedIfDue 38 = .ok (.ifCond .eq 6, 3) := by decide +kernel
theorem dX2_readStuffedIfDue_41 : decode cX2_readStuffedIfDue 41 = .ok (.bipush (-3), 2) := by decide +kernel
theorem dX2_readStuffedIfDue_43 : decode cX2_readStuffedIfDue 43 = .ok (.ireturn, 1) := by decide +kernel
theorem dX2_readStuffedIfDue_44 : decode cX2_readStuffedIfDue 44 = .ok (.aload_n 0, 1) := by decide +kernel
theorem dX2_readStuffedIfDue_45 : decode cX2_readStuffedIfDue 45 = .ok (.getfield 50, 3) := by decide +kernel
theorem dX2_readStuffedIfDue_48 : decode cX2_readStuffedIfDue 48 = .ok (.invokevirtual 151, 3) := by decide +kernel
theorem dX2_readStuffedIfDue_51 : decode cX2_readStuffedIfDue 51 = .ok (.iconst 0, 1) := by decide +kernel
theorem dX2_readStuffedIfDue_52 : decode cX2_readStuffedIfDue 52 = .ok (.ireturn, 1) := by decide +kernel
theorem dL_find_0 : decode cL_find 0 = .ok (.aload_n 2, 1) := by decide +kernel
theorem dL_find_1 : decode cL_find 1 = .ok (.iconst 0, 1) := by decide +kernel
theorem dL_find_2 : decode cL_find 2 = .ok (.aload_n 0, 1) := by decide +kernel
theorem dL_find_3 : decode cL_find 3 = .ok (.iload_n 1, 1) := by decide +kernel
end
section
theorem dL_find_4 : decode cL_find 4 = .ok (.invokevirtual 46, 3) := by decide +kernel
theorem dL_find_7 : decode cL_find 7 = .ok (.i2l, 1) := by decide +kernel
theorem dL_find_8 : decode cL_find 8 = .ok (.lastore, 1) := by decide +kernel
theorem dL_find_9 : decode cL_find 9 = .ok (.goto 6, 3) := by decide +kernel
theorem dL_find_12 : decode cL_find 12 = .ok (.astore_n 3, 1) := by decide +kernel
theorem dL_find_13 : decode cL_find 13 = .ok (.iconst 1, 1) := by decide +kernel
theorem dL_find_14 : decode cL_find 14 = .ok (.ireturn, 1) := by decide +kernel
theorem dL_find_15 : decode cL_find 15 = .ok (.iconst 0, 1) := by decide +kernel
theorem dL_find_16 : decode cL_find 16 = .ok (.ireturn, 1) := by decide +kernel
theorem dX2_find_0 : decode cX2_find 0 = .ok (.iload_n 1, 1) := by decide +kernel
theorem dX2_find_1 : decode cX2_find 1 = .ok (.ifCond .lt 14, 3) := by decide +kernel
theorem dX2_find_4 : decode cX2_find 4 = .ok (.iload_n 1, 1) := by decide +kernel
theorem dX2_find_5 : decode cX2_find 5 = .ok (.aload_n 0, 1) := by decide +kernel
theorem dX2_find_6 : decode cX2_find 6 = .ok (.getfield 47, 3) := by decide +kernel
theorem dX2_find_9 : decode cX2_find 9 = .ok (.getfield 112, 3) := by decide +kernel
theorem dX2_find_12 : decode cX2_find 12 = .ok (.if_icmp .le 13, 3) := by decide +kernel
theorem dX2_find_15 : decode cX2_find 15 = .ok (.new 99, 3) := by decide +kernel
theorem dX2_find_18 : decode cX2_find 18 = .ok (.dup, 1) := by decide +kernel
theorem dX2_find_19 : decode cX2_find 19 = .ok (.ldc 164, 2) := by decide +kernel
theorem dX2_find_21 : decode cX2_find 21 = .ok (.invokespecial 103, 3) := by decide +kernel
theorem dX2_find_24 : decode cX2_find 24 = .ok (.athrow, 1) := by decide +kernel
theorem dX2_find_25 : decode cX2_find 25 = .ok (.iload_n 1, 1) := by decide +kernel
theorem dX2_find_26 : decode cX2_find 26 = .ok (.istore_n 2, 1) := by decide +kernel
theorem dX2_find_27 : decode cX2_find 27 = .ok (.iload_n 2, 1) := by decide +kernel
theorem dX2_find_28 : decode cX2_find 28 = .ok (.aload_n 0, 1) := by decide +kernel
theorem dX2_find_29 : decode cX2_find 29 = .ok (.getfield 47, 3) := by decide +kernel
theorem dX2_find_32 : decode cX2_find 32 = .ok (.getfield 112, 3) := by decide +kernel
theorem dX2_find_35 : decode cX2_find 35 = .ok (.if_icmp .ge 22, 3) := by decide +kernel
theorem dX2_find_38 : decode cX2_find 38 = .ok (.aload_n 0, 1) := by decide +kernel
theorem dX2_find_39 : decode cX2_find 39 = .ok (.getfield 47, 3) := by decide +kernel
theorem dX2_find_42 : decode cX2_find 42 = .ok (.iload_n 2, 1) := by decide +kernel
theorem dX2_find_43 : decode cX2_find 43 = .ok (.invokevirtual 160, 3) := by decide +kernel
theorem dX2_find_46 : decode cX2_find 46 = .ok (.ifCond .eq 5, 3) := by decide +kernel
theorem dX2_find_49 : decode cX2_find 49 = .ok (.iload_n 2, 1) := by decide +kernel
theorem dX2_find_50 : decode cX2_find 50 = .ok (.ireturn, 1) := by decide +kernel
theorem dX2_find_51 : decode cX2_find 51 = .ok (.iinc 2 1, 3) := by decide +kernel
theorem dX2_find_54 : decode cX2_find 54 = .ok (.goto (-27), 3) := by decide +kernel
theorem dX2_find_57 : decode cX2_find 57 = .ok (.iconst (-1), 1) := by decide +kernel
theorem dX2_find_58 : decode cX2_find 58 = .ok (.ireturn, 1) := by decide +kernel
theorem dL_sum_0 : decode cL_sum 0 = .ok (.aload 5, 2) := by decide +kernel
theorem dL_sum_2 : decode cL_sum 2 = .ok (.iconst 0, 1) := by decide +kernel
theorem dL_sum_3 : decode cL_sum 3 = .ok (.aload_n 0, 1) := by decide +kernel
theorem dL_sum_4 : decode cL_sum 4 = .ok (.iload_n 1, 1) := by decide +kernel
theorem dL_sum_5 : decode cL_sum 5 = .ok (.iload_n 2, 1) := by decide +kernel
theorem dL_sum_6 : decode cL_sum 6 = .ok (.iload_n 3, 1) := by decide +kernel
theorem dL_sum_7 : decode cL_sum 7 = .ok (.iload 4, 2) := by decide +kernel
theorem dL_sum_9 : decode cL_sum 9 = .ok (.invokevirtual 49, 3) := by decide +kernel
theorem dL_sum_12 : decode cL_sum 12 = .ok (.i2l, 1) := by decide +kernel
theorem dL_sum_13 : decode cL_sum 13 = .ok (.lastore, 1) := by decide +kernel
theorem dL_sum_14 : decode cL_sum 14 = .ok (.goto 11, 3) := by decide +kernel
theorem dL_sum_17 : decode cL_sum 17 = .ok (.astore 6, 2) := by decide +kernel
theorem dL_sum_19 : decode cL_sum 19 = .ok (.iconst 1, 1) := by decide +kernel
theorem dL_sum_20 : decode cL_sum 20 = .ok (.ireturn, 1) := by decide +kernel
theorem dL_sum_21 : decode cL_sum 21 = .ok (.astore 6, 2) := by decide +kernel
theorem dL_sum_23 : decode cL_sum 23 = .ok (.iconst 2, 1) := by decide +kernel
theorem dL_sum_24 : decode cL_sum 24 = .ok (.ireturn, 1) := by decide +kernel
theorem dL_sum_25 : decode cL_sum 25 = .ok (.iconst 0, 1) := by decide +kernel
theorem dL_sum_26 : decode cL_sum 26 = .ok (.ireturn, 1) := by decide +kernel
theorem dX2_sum_0 : decode cX2_sum 0 = .ok (.iload_n 2, 1) := by decide +kernel
theorem dX2_sum_1 : decode cX2_sum 1 = .ok (.bipush 16, 2) := by decide +kernel
theorem dX2_sum_3 : decode cX2_sum 3 = .ok (.if_icmp .eq 19, 3) := by decide +kernel
theorem dX2_sum_6 : decode cX2_sum 6 = .ok (.iload_n 2, 1) := by decide +kernel
theorem dX2_sum_7 : decode cX2_sum 7 = .ok (.bipush 32, 2) := by decide +kernel
theorem dX2_sum_9 : decode cX2_sum 9 = .ok (.if_icmp .eq 13, 3) := by decide +kernel
theorem dX2_sum_12 : decode cX2_sum 12 = .ok (.new 86, 3) := by decide +kernel
theorem dX2_sum_15 : decode cX2_sum 15 = .ok (.dup, 1) := by decide +kernel
theorem dX2_sum_16 : decode cX2_sum 16 = .ok (.ldc 166, 2) := by decide +kernel
theorem dX2_sum_18 : decode cX2_sum 18 = .ok (.invokespecial 90, 3) := by decide +kernel
theorem dX2_sum_21 : decode cX2_sum 21 = .ok (.athrow, 1) := by decide +kernel
theorem dX2_sum_22 : decode cX2_sum 22 = .ok (.iload_n 1, 1) := by decide +kernel
theorem dX2_sum_23 : decode cX2_sum 23 = .ok (.ifCond .eq 10, 3) := by decide +kernel
theorem dX2_sum_26 : decode cX2_sum 26 = .ok (.aload_n 0, 1) := by decide +kernel
theorem dX2_sum_27 : decode cX2_sum 27 = .ok (.getfield 47, 3) := by decide +kernel
theorem dX2_sum_30 : decode cX2_sum 30 = .ok (.goto 7, 3) := by decide +kernel
theorem dX2_sum_33 : decode cX2_sum 33 = .ok (.aload_n 0, 1) := by decide +kernel
theorem dX2_sum_34 : decode cX2_sum 34 = .ok (.getfield 34, 3) := by decide +kernel
theorem dX2_sum_37 : decode cX2_sum 37 = .ok (.astore 5, 2) := by decide +kernel
theorem dX2_sum_39 : decode cX2_sum 39 = .ok (.iload_n 3, 1) := by decide +kernel
theorem dX2_sum_40 : decode cX2_sum 40 = .ok (.ifCond .lt 19, 3) := by decide +kernel
theorem dX2_sum_43 : decode cX2_sum 43 = .ok (.iload 4, 2) := by decide +kernel
theorem dX2_sum_45 : decode cX2_sum 45 = .ok (.iload_n 3, 1) := by decide +kernel
theorem dX2_sum_46 : decode cX2_sum 46 = .ok (.if_icmp .lt 13, 3) := by decide +kernel
theorem dX2_sum_49 : decode cX2_sum 49 = .ok (.iload 4, 2) := by decide +kernel
theorem dX2_sum_51 : decode cX2_sum 51 = .ok (.aload 5, 2) := by decide +kernel
theorem dX2_sum_53 : decode cX2_sum 53 = .ok (.getfield 112, 3) := by decide +kernel
theorem dX2_sum_56 : decode cX2_sum 56 = .ok (.if_icmp .le 13, 3) := by decide +kernel
theorem dX2_sum_59 : decode cX2_sum 59 = .ok (.new 99, 3) := by decide +kernel
theorem dX2_sum_62 : decode cX2_sum 62 = .ok (.dup, 1) := by decide +kernel
theorem dX2_sum_63 : decode cX2_sum 63 = .ok (.ldc 168, 2) := by decide +kernel
theorem dX2_sum_65 : decode cX2_sum 65 = .ok (.invokespecial 103, 3) := by decide +kernel
theorem dX2_sum_68 : decode cX2_sum 68 = .ok (.athrow, 1) := by decide +kernel
theorem dX2_sum_69 : decode cX2_sum 69 = .ok (.iload_n 2, 1) := by decide +kernel
theorem dX2_sum_70 : decode cX2_sum 70 = .ok (.bipush 16, 2) := by decide +kernel
theorem dX2_sum_72 : decode cX2_sum 72 = .ok (.if_icmp .ne 14, 3) := by decide +kernel
theorem dX2_sum_75 : decode cX2_sum 75 = .ok (.aload 5, 2) := by decide +kernel
theorem dX2_sum_77 : decode cX2_sum 77 = .ok (.iload_n 3, 1) := by decide +kernel
theorem dX2_sum_78 : decode cX2_sum 78 = .ok (.iload 4, 2) := by decide +kernel
theorem dX2_sum_80 : decode cX2_sum 80 = .ok (.invokevirtual 170, 3) := by decide +kernel
theorem dX2_sum_83 : decode cX2_sum 83 = .ok (.goto 11, 3) := by decide +kernel
theorem dX2_sum_86 : decode cX2_sum 86 = .ok (.aload 5, 2) := by decide +kernel
theorem dX2_sum_88 : decode cX2_sum 88 = .ok (.iload_n 3, 1) := by decide +kernel
theorem dX2_sum_89 : decode cX2_sum 89 = .ok (.iload 4, 2) := by decide +kernel
theorem dX2_sum_91 : decode cX2_sum 91 = .ok (.invokevirtual 173, 3) := by decide +kernel
theorem dX2_sum_94 : decode cX2_sum 94 = .ok (.ireturn, 1) := by decide +kernel
theorem dX0_sumOf16_0 : decode cX0_sumOf16 0 = .ok (.ldc 42, 2) := by decide +kernel
theorem dX0_sumOf16_2 : decode cX0_sumOf16 2 = .ok (.istore_n 3, 1) := by decide +kernel
theorem dX0_sumOf16_3 : decode cX0_sumOf16 3 = .ok (.iload_n 1, 1) := by decide +kernel
theorem dX0_sumOf16_4 : decode cX0_sumOf16 4 = .ok (.istore 4, 2) := by decide +kernel
theorem dX0_sumOf16_6 : decode cX0_sumOf16 6 = .ok (.iload 4, 2) := by decide +kernel
theorem dX0_sumOf16_8 : decode cX0_sumOf16 8 = .ok (.iload_n 2, 1) := by decide +kernel
theorem dX0_sumOf16_9 : decode cX0_sumOf16 9 = .ok (.if_icmp .ge 63, 3) := by decide +kernel
theorem dX0_sumOf16_12 : decode cX0_sumOf16 12 = .ok (.iload_n 3, 1) := by decide +kernel
theorem dX0_sumOf16_13 : decode cX0_sumOf16 13 = .ok (.aload_n 0, 1) := by decide +kernel
theorem dX0_sumOf16_14 : decode cX0_sumOf16 14 = .ok (.iload 4, 2) := by decide +kernel
theorem dX0_sumOf16_16 : decode cX0_sumOf16 16 = .ok (.invokevirtual 29, 3) := by decide +kernel
theorem dX0_sumOf16_19 : decode cX0_sumOf16 19 = .ok (.bipush 8, 2) := by decide +kernel
theorem dX0_sumOf16_21 : decode cX0_sumOf16 21 = .ok (.ishl, 1) := by decide +kernel
theorem dX0_sumOf16_22 : decode cX0_sumOf16 22 = .ok (.ixor, 1) := by decide +kernel
theorem dX0_sumOf16_23 : decode cX0_sumOf16 23 = .ok (.istore_n 3, 1) := by decide +kernel
theorem dX0_sumOf16_24 : decode cX0_sumOf16 24 = .ok (.iconst 0, 1) := by decide +kernel
theorem dX0_sumOf16_25 : decode cX0_sumOf16 25 = .ok (.istore 5, 2) := by decide +kernel
theorem dX0_sumOf16_27 : decode cX0_sumOf16 27 = .ok (.iload 5, 2) := by decide +kernel
theorem dX0_sumOf16_29 : decode cX0_sumOf16 29 = .ok (.bipush 8, 2) := by decide +kernel
theorem dX0_sumOf16_31 : decode cX0_sumOf16 31 = .ok (.if_icmp .ge 30, 3) := by decide +kernel
theorem dX0_sumOf16_34 : decode cX0_sumOf16 34 = .ok (.iload_n 3, 1) := by decide +kernel
theorem dX0_sumOf16_35 : decode cX0_sumOf16 35 = .ok (.ldc 43, 2) := by decide +kernel
theorem dX0_sumOf16_37 : decode cX0_sumOf16 37 = .ok (.iand, 1) := by decide +kernel
theorem dX0_sumOf16_38 : decode cX0_sumOf16 38 = .ok (.ifCond .eq 13, 3) := by decide +kernel
theorem dX0_sumOf16_41 : decode cX0_sumOf16 41 = .ok (.iload_n 3, 1) := by decide +kernel
theorem dX0_sumOf16_42 : decode cX0_sumOf16 42 = .ok (.iconst 1, 1) := by decide +kernel
theorem dX0_sumOf16_43 : decode cX0_sumOf16 43 = .ok (.ishl, 1) := by decide +kernel
theorem dX0_sumOf16_44 : decode cX0_sumOf16 44 = .ok (.sipush 4129, 3) := by decide +kernel
theorem dX0_sumOf16_47 : decode cX0_sumOf16 47 = .ok (.ixor, 1) := by decide +kernel
theorem dX0_sumOf16_48 : decode cX0_sumOf16 48 = .ok (.goto 6, 3) := by decide +kernel
theorem dX0_sumOf16_51 : decode cX0_sumOf16 51 = .ok (.iload_n 3, 1) := by decide +kernel
theorem dX0_sumOf16_52 : decode cX0_sumOf16 52 = .ok (.iconst 1, 1) := by decide +kernel
theorem dX0_sumOf16_53 : decode cX0_sumOf16 53 = .ok (.ishl, 1) := by decide +kernel
theorem dX0_sumOf16_54 : decode cX0_sumOf16 54 = .ok (.istore_n 3, 1) := by decide +kernel
theorem dX0_sumOf16_55 : decode cX0_sumOf16 55 = .ok (.iinc 5 1, 3) := by decide +kernel
theorem dX0_sumOf16_58 : decode cX0_sumOf16 58 = .ok (.goto (-31), 3) := by decide +kernel
theorem dX0_sumOf16_61 : decode cX0_sumOf16 61 = .ok (.iload_n 3, 1) := by decide +kernel
theorem dX0_sumOf16_62 : decode cX0_sumOf16 62 = .ok (.ldc 42, 2) := by decide +kernel
theorem dX0_sumOf16_64 : decode cX0_sumOf16 64 = .ok (.iand, 1) := by decide +kernel
theorem dX0_sumOf16_65 : decode cX0_sumOf16 65 = .ok (.istore_n 3, 1) := by decide +kernel
theorem dX0_sumOf16_66 : decode cX0_sumOf16 66 = .ok (.iinc 4 1, 3) := by decide +kernel
theorem dX0_sumOf16_69 : decode cX0_sumOf16 69 = .ok (.goto (-63), 3) := by decide +kernel
theorem dX0_sumOf16_72 : decode cX0_sumOf16 72 = .ok (.iload_n 3, 1) := by decide +kernel
theorem dX0_sumOf16_73 : decode cX0_sumOf16 73 = .ok (.ireturn, 1) := by decide +kernel
theorem dX0_sumOf32_0 : decode cX0_sumOf32 0 = .ok (.iconst (-1), 1) := by decide +kernel
theorem dX0_sumOf32_1 : decode cX0_sumOf32 1 = .ok (.istore_n 3, 1) := by decide +kernel
theorem dX0_sumOf32_2 : decode cX0_sumOf32 2 = .ok (.iload_n 1, 1) := by decide +kernel
theorem dX0_sumOf32_3 : decode cX0_sumOf32 3 = .ok (.istore 4, 2) := by decide +kernel
theorem dX0_sumOf32_5 : decode cX0_sumOf32 5 = .ok (.iload 4, 2) := by decide +kernel
theorem dX0_sumOf32_7 : decode cX0_sumOf32 7 = .ok (.iload_n 2, 1) := by decide +kernel
theorem dX0_sumOf32_8 : decode cX0_sumOf32 8 = .ok (.if_icmp .ge 53, 3) := by decide +kernel
theorem dX0_sumOf32_11 : decode cX0_sumOf32 11 = .ok (.iload_n 3, 1) := by decide +kernel
theorem dX0_sumOf32_12 : decode cX0_sumOf32 12 = .ok (.aload_n 0, 1) := by decide +kernel
theorem dX0_sumOf32_13 : decode cX0_sumOf32 13 = .ok (.iload 4, 2) := by decide +kernel
theorem dX0_sumOf32_15 : decode cX0_sumOf32 15 = .ok (.invokevirtual 29, 3) := by decide +kernel
theorem dX0_sumOf32_18 : decode cX0_sumOf32 18 = .ok (.ixor, 1) := by decide +kernel
theorem dX0_sumOf32_19 : decode cX0_sumOf32 19 = .ok (.istore_n 3, 1) := by decide +kernel
theorem dX0_sumOf32_20 : decode cX0_sumOf32 20 = .ok (.iconst 0, 1) := by decide +kernel
theorem dX0_sumOf32_21 : decode cX0_sumOf32 21 = .ok (.istore 5, 2) := by decide +kernel
theorem dX0_sumOf32_23 : decode cX0_sumOf32 23 = .ok (.iload 5, 2) := by decide +kernel
theorem dX0_sumOf32_25 : decode cX0_sumOf32 25 = .ok (.bipush 8, 2) := by decide +kernel
theorem dX0_sumOf32_27 : decode cX0_sumOf32 27 = .ok (.if_icmp .ge 28, 3) := by decide +kernel
theorem dX0_sumOf32_30 : decode cX0_sumOf32 30 = .ok (.iload_n 3, 1) := by decide +kernel
theorem dX0_sumOf32_31 : decode cX0_sumOf32 31 = .ok (.iconst 1, 1) := by decide +kernel
theorem dX0_sumOf32_32 : decode cX0_sumOf32 32 = .ok (.iand, 1) := by decide +kernel
theorem dX0_sumOf32_33 : decode cX0_sumOf32 33 = .ok (.ifCond .eq 12, 3) := by decide +kernel
theorem dX0_sumOf32_36 : decode cX0_sumOf32 36 = .ok (.iload_n 3, 1) := by decide +kernel
theorem dX0_sumOf32_37 : decode cX0_sumOf32 37 = .ok (.iconst 1, 1) := by decide +kernel
theorem dX0_sumOf32_38 : decode cX0_sumOf32 38 = .ok (.iushr, 1) := by decide +kernel
theorem dX0_sumOf32_39 : decode cX0_sumOf32 39 = .ok (.ldc 44, 2) := by decide +kernel
theorem dX0_sumOf32_41 : decode cX0_sumOf32 41 = .ok (.ixor, 1) := by decide +kernel
theorem dX0_sumOf32_42 : decode cX0_sumOf32 42 = .ok (.goto 6, 3) := by decide +kernel
theorem dX0_sumOf32_45 : decode cX0_sumOf32 45 = .ok (.iload_n 3, 1) := by decide +kernel
theorem dX0_sumOf32_46 : decode cX0_sumOf32 46 = .ok (.iconst 1, 1) := by decide +kernel
theorem dX0_sumOf32_47 : decode cX0_sumOf32 47 = .ok (.iushr, 1) := by decide +kernel
theorem dX0_sumOf32_48 : decode cX0_sumOf32 48 = .ok (.istore_n 3, 1) := by decide +kernel
theorem dX0_sumOf32_49 : decode cX0_sumOf32 49 = .ok (.iinc 5 1, 3) := by decide +kernel
theorem dX0_sumOf32_52 : decode cX0_sumOf32 52 = .ok (.goto (-29), 3) := by decide +kernel
theorem dX0_sumOf32_55 : decode cX0_sumOf32 55 = .ok (.iinc 4 1, 3) := by decide +kernel
theorem dX0_sumOf32_58 : decode cX0_sumOf32 58 = .ok (.goto (-53), 3) := by decide +kernel
theorem dX0_sumOf32_61 : decode cX0_sumOf32 61 = .ok (.iload_n 3, 1) := by decide +kernel
theorem dX0_sumOf32_62 : decode cX0_sumOf32 62 = .ok (.iconst (-1), 1) := by decide +kernel
theorem dX0_sumOf32_63 : decode cX0_sumOf32 63 = .ok (.ixor, 1) := by decide +kernel
theorem dX0_sumOf32_64 : decode cX0_sumOf32 64 = .ok (.ireturn, 1) := by decide +kernel
theorem dX3_init_0 : decode cX3_init 0 = .ok (.aload_n 0, 1) := by decide +kernel
theorem dX3_init_1 : decode cX3_init 1 = .ok (.invokespecial 1, 3) := by decide +kernel
theorem dX3_init_4 : decode cX3_init 4 = .ok (.aload_n 0, 1) := by decide +kernel
theorem dX3_init_5 : decode cX3_init 5 = .ok (.sipush 5200, 3) := by decide +kernel
theorem dX3_init_8 : decode cX3_init 8 = .ok (.newarray .boolean, 2) := by decide +kernel
theorem dX3_init_10 : decode cX3_init 10 = .ok (.putfield 7, 3) := by decide +kernel
theorem dX3_init_13 : decode cX3_init 13 = .ok (.aload_n 0, 1) := by decide +kernel
theorem dX3_init_14 : decode cX3_init 14 = .ok (.sipush 600, 3) := by decide +kernel
theorem dX3_init_17 : decode cX3_init 17 = .ok (.newarray .int, 2) := by decide +kernel
theorem dX3_init_19 : decode cX3_init 19 = .ok (.putfield 13, 3) := by decide +kernel
theorem dX3_init_22 : decode cX3_init 22 = .ok (.aload_n 0, 1) := by decide +kernel
theorem dX3_init_23 : decode cX3_init 23 = .ok (.iload_n 1, 1) := by decide +kernel
theorem dX3_init_24 : decode cX3_init 24 = .ok (.ifCond .ge 7, 3) := by decide +kernel
theorem dX3_init_27 : decode cX3_init 27 = .ok (.iconst 0, 1) := by decide +kernel
theorem dX3_init_28 : decode cX3_init 28 = .ok (.goto 15, 3) := by decide +kernel
theorem dX3_init_31 : decode cX3_init 31 = .ok (.iload_n 1, 1) := by decide +kernel
theorem dX3_init_32 : decode cX3_init 32 = .ok (.bipush 16, 2) := by decide +kernel
theorem dX3_init_34 : decode cX3_init 34 = .ok (.if_icmp .le 8, 3) := by decide +kernel
theorem dX3_init_37 : decode cX3_init 37 = .ok (.bipush 16, 2) := by decide +kernel
theorem dX3_init_39 : decode cX3_init 39 = .ok (.goto 4, 3) := by decide +kernel
theorem dX3_init_42 : decode cX3_init 42 = .ok (.iload_n 1, 1) := by decide +kernel
theorem dX3_init_43 : decode cX3_init 43 = .ok (.putfield 17, 3) := by decide +kernel
theorem dX3_init_46 : decode cX3_init 46 = .ok (.aload_n 0, 1) := by decide +kernel
theorem dX3_init_47 : decode cX3_init 47 = .ok (.iload_n 2, 1) := by decide +kernel
theorem dX3_init_48 : decode cX3_init 48 = .ok (.ifCond .eq 7, 3) := by decide +kernel
theorem dX3_init_51 : decode cX3_init 51 = .ok (.iconst 1, 1) := by decide +kernel
theorem dX3_init_52 : decode cX3_init 52 = .ok (.goto 4, 3) := by decide +kernel
theorem dX3_init_55 : decode cX3_init 55 = .ok (.iconst 0, 1) := by decide +kernel
theorem dX3_init_56 : decode cX3_init 56 = .ok (.putfield 21, 3) := by decide +kernel
theorem dX3_init_59 : decode cX3_init 59 = .ok (.return_, 1) := by decide +kernel
theorem dX3_thrown_0 : decode cX3_thrown 0 = .ok (.aload_n 0, 1) := by decide +kernel
theorem dX3_thrown_1 : decode cX3_thrown 1 = .ok (.getfield 25, 3) := by decide +kernel
theorem dX3_thrown_4 : decode cX3_thrown 4 = .ok (.ireturn, 1) := by decide +kernel
theorem dX3_put_0 : decode cX3_put 0 = .ok (.aload_n 0, 1) := by decide +kernel
theorem dX3_put_1 : decode cX3_put 1 = .ok (.iload_n 1, 1) := by decide +kernel
theorem dX3_put_2 : decode cX3_put 2 = .ok (.i2l, 1) := by decide +kernel
theorem dX3_put_3 : decode cX3_put 3 = .ok (.lconst 1, 1) := by decide +kernel
theorem dX3_put_4 : decode cX3_put 4 = .ok (.ldc2_w 51, 3) := by decide +kernel
theorem dX3_put_7 : decode cX3_put 7 = .ok (.invokestatic 53, 3) := by decide +kernel
theorem dX3_put_10 : decode cX3_put 10 = .ok (.ifCond .ne 7, 3) := by decide +kernel
theorem dX3_put_13 : decode cX3_put 13 = .ok (.iconst 1, 1) := by decide +kernel
theorem dX3_put_14 : decode cX3_put 14 = .ok (.goto 16, 3) := by decide +kernel
theorem dX3_put_17 : decode cX3_put 17 = .ok (.aload_n 0, 1) := by decide +kernel
theorem dX3_put_18 : decode cX3_put 18 = .ok (.iload_n 1, 1) := by decide +kernel
theorem dX3_put_19 : decode cX3_put 19 = .ok (.invokevirtual 57, 3) := by decide +kernel
theorem dX3_put_22 : decode cX3_put 22 = .ok (.ifCond .eq 7, 3) := by decide +kernel
theorem dX3_put_25 : decode cX3_put 25 = .ok (.iconst 2, 1) := by decide +kernel
theorem dX3_put_26 : decode cX3_put 26 = .ok (.goto 4, 3) := by decide +kernel
theorem dX3_put_29 : decode cX3_put 29 = .ok (.iconst 0, 1) := by decide +kernel
theorem dX3_put_30 : decode cX3_put 30 = .ok (.putfield 25, 3) := by decide +kernel
theorem dX3_put_33 : decode cX3_put 33 = .ok (.aload_n 0, 1) := by decide +kernel
theorem dX3_put_34 : decode cX3_put 34 = .ok (.getfield 25, 3) := by decide +kernel
theorem dX3_put_37 : decode cX3_put 37 = .ok (.ifCond .le 5, 3) := by decide +kernel
theorem dX3_put_40 : decode cX3_put 40 = .ok (.iconst 0, 1) := by decide +kernel
theorem dX3_put_41 : decode cX3_put 41 = .ok (.ireturn, 1) := by decide +kernel
theorem dX3_put_42 : decode cX3_put 42 = .ok (.iconst 0, 1) := by decide +kernel
theorem dX3_put_43 : decode cX3_put 43 = .ok (.istore_n 3, 1) := by decide +kernel
theorem dX3_put_44 : decode cX3_put 44 = .ok (.iconst 0, 1) := by decide +kernel
theorem dX3_put_45 : decode cX3_put 45 = .ok (.istore 4, 2) := by decide +kernel
theorem dX3_put_47 : decode cX3_put 47 = .ok (.iload 4, 2) := by decide +kernel
theorem dX3_put_49 : decode cX3_put 49 = .ok (.iload_n 1, 1) := by decide +kernel
theorem dX3_put_50 : decode cX3_put 50 = .ok (.if_icmp .ge 58, 3) := by decide +kernel
theorem dX3_put_53 : decode cX3_put 53 = .ok (.aload_n 0, 1) := by decide +kernel
theorem dX3_put_54 : decode cX3_put 54 = .ok (.iload_n 2, 1) := by decide +kernel
theorem dX3_put_55 : decode cX3_put 55 = .ok (.aload_n 0, 1) := by decide +kernel
theorem dX3_put_56 : decode cX3_put 56 = .ok (.getfield 21, 3) := by decide +kernel
theorem dX3_put_59 : decode cX3_put 59 = .ok (.ifCond .eq 8, 3) := by decide +kernel
theorem dX3_put_62 : decode cX3_put 62 = .ok (.iload 4, 2) := by decide +kernel
theorem dX3_put_64 : decode cX3_put 64 = .ok (.goto 9, 3) := by decide +kernel
theorem dX3_put_67 : decode cX3_put 67 = .ok (.iload_n 1, 1) := by decide +kernel
theorem dX3_put_68 : decode cX3_put 68 = .ok (.iconst 1, 1) := by decide +kernel
theorem dX3_put_69 : decode cX3_put 69 = .ok (.isub, 1) := by decide +kernel
theorem dX3_put_70 : decode cX3_put 70 = .ok (.iload 4, 2) := by decide +kernel
theorem dX3_put_72 : decode cX3_put 72 = .ok (.isub, 1) := by decide +kernel
theorem dX3_put_73 : decode cX3_put 73 = .ok (.iushr, 1) := by decide +kernel
theorem dX3_put_74 : decode cX3_put 74 = .ok (.iconst 1, 1) := by decide +kernel
theorem dX3_put_75 : decode cX3_put 75 = .ok (.iand, 1) := by decide +kernel
theorem dX3_put_76 : decode cX3_put 76 = .ok (.iconst 1, 1) := by decide +kernel
theorem dX3_put_77 : decode cX3_put 77 = .ok (.if_icmp .ne 7, 3) := by decide +kernel
theorem dX3_put_80 : decode cX3_put 80 = .ok (.iconst 1, 1) := by decide +kernel
theorem dX3_put_81 : decode cX3_put 81 = .ok (.goto 4, 3) := by decide +kernel
theorem dX3_put_84 : decode cX3_put 84 = .ok (.iconst 0, 1) := by decide +kernel
theorem dX3_put_85 : decode cX3_put 85 = .ok (.invokevirtual 61, 3) := by decide +kernel
theorem dX3_put_88 : decode cX3_put 88 = .ok (.istore 5, 2) := by decide +kernel
theorem dX3_put_90 : decode cX3_put 90 = .ok (.iload 4, 2) := by decide +kernel
theorem dX3_put_92 : decode cX3_put 92 = .ok (.ifCond .ne 8, 3) := by decide +kernel
theorem dX3_put_95 : decode cX3_put 95 = .ok (.iload 5, 2) := by decide +kernel
theorem dX3_put_97 : decode cX3_put 97 = .ok (.goto 4, 3) := by decide +kernel
theorem dX3_put_100 : decode cX3_put 100 = .ok (.iload_n 3, 1) := by decide +kernel
theorem dX3_put_101 : decode cX3_put 101 = .ok (.istore_n 3, 1) := by decide +kernel
theorem dX3_put_102 : decode cX3_put 102 = .ok (.iinc 4 1, 3) := by decide +kernel
theorem dX3_put_105 : decode cX3_put 105 = .ok (.goto (-58), 3) := by decide +kernel
theorem dX3_put_108 : decode cX3_put 108 = .ok (.iload_n 3, 1) := by decide +kernel
theorem dX3_put_109 : decode cX3_put 109 = .ok (.ireturn, 1) := by decide +kernel
theorem dX3_isIn_0 : decode cX3_isIn 0 = .ok (.lload_n 0, 1) := by decide +kernel
theorem dX3_isIn_1 : decode cX3_isIn 1 = .ok (.lload_n 2, 1) := by decide +kernel
theorem dX3_isIn_2 : decode cX3_isIn 2 = .ok (.lcmp, 1) := by decide +kernel
theorem dX3_isIn_3 : decode cX3_isIn 3 = .ok (.ifCond .lt 14, 3) := by decide +kernel
theorem dX3_isIn_6 : decode cX3_isIn 6 = .ok (.lload_n 0, 1) := by decide +kernel
theorem dX3_isIn_7 : decode cX3_isIn 7 = .ok (.lload 4, 2) := by decide +kernel
theorem dX3_isIn_9 : decode cX3_isIn 9 = .ok (.lcmp, 1) := by decide +kernel
theorem dX3_isIn_10 : decode cX3_isIn 10 = .ok (.ifCond .gt 7, 3) := by decide +kernel
theorem dX3_isIn_13 : decode cX3_isIn 13 = .ok (.iconst 1, 1) := by decide +kernel
theorem dX3_isIn_14 : decode cX3_isIn 14 = .ok (.goto 4, 3) := by decide +kernel
theorem dX3_isIn_17 : decode cX3_isIn 17 = .ok (.iconst 0, 1) := by decide +kernel
theorem dX3_isIn_18 : decode cX3_isIn 18 = .ok (.ireturn, 1) := by decide +kernel
theorem dX3_isFull_0 : decode cX3_isFull 0 = .ok (.aload_n 0, 1) := by decide +kernel
theorem dX3_isFull_1 : decode cX3_isFull 1 = .ok (.getfield 28, 3) := by decide +kernel
theorem dX3_isFull_4 : decode cX3_isFull 4 = .ok (.iconst 2, 1) := by decide +kernel
theorem dX3_isFull_5 : decode cX3_isFull 5 = .ok (.iload_n 1, 1) := by decide +kernel
theorem dX3_isFull_6 : decode cX3_isFull 6 = .ok (.imul, 1) := by decide +kernel
theorem dX3_isFull_7 : decode cX3_isFull 7 = .ok (.iadd, 1) := by decide +kernel
theorem dX3_isFull_8 : decode cX3_isFull 8 = .ok (.bipush 16, 2) := by decide +kernel
theorem dX3_isFull_10 : decode cX3_isFull 10 = .ok (.iadd, 1) := by decide +kernel
theorem dX3_isFull_11 : decode cX3_isFull 11 = .ok (.sipush 4800, 3) := by decide +kernel
theorem dX3_isFull_14 : decode cX3_isFull 14 = .ok (.if_icmp .le 7, 3) := by decide +kernel
theorem dX3_isFull_17 : decode cX3_isFull 17 = .ok (.iconst 1, 1) := by decide +kernel
theorem dX3_isFull_18 : decode cX3_isFull 18 = .ok (.goto 4, 3) := by decide +kernel
theorem dX3_isFull_21 : decode cX3_isFull 21 = .ok (.iconst 0, 1) := by decide +kernel
theorem dX3_isFull_22 : decode cX3_isFull 22 = .ok (.ireturn, 1) := by decide +kernel
theorem dX3_putBit_0 : decode cX3_putBit 0 = .ok (.aload_n 0, 1) := by decide +kernel
theorem dX3_putBit_1 : decode cX3_putBit 1 = .ok (.getfield 17, 3) := by decide +kernel
theorem dX3_putBit_4 : decode cX3_putBit 4 = .ok (.iconst 1, 1) := by decide +kernel
theorem dX3_putBit_5 : decode cX3_putBit 5 = .ok (.if_icmp .ne 31, 3) := by decide +kernel
theorem dX3_putBit_8 : decode cX3_putBit 8 = .ok (.aload_n 0, 1) := by decide +kernel
theorem dX3_putBit_9 : decode cX3_putBit 9 = .ok (.getfield 21, 3) := by decide +kernel
theorem dX3_putBit_12 : decode cX3_putBit 12 = .ok (.ifCond .ne 24, 3) := by decide +kernel
theorem dX3_putBit_15 : decode cX3_putBit 15 = .ok (.aload_n 0, 1) := by decide +kernel
theorem dX3_putBit_16 : decode cX3_putBit 16 = .ok (.getfield 35, 3) := by decide +kernel
theorem dX3_putBit_19 : decode cX3_putBit 19 = .ok (.ifCond .eq 17, 3) := by decide +kernel
theorem dX3_putBit_22 : decode cX3_putBit 22 = .ok (.aload_n 0, 1) := by decide +kernel
theorem dX3_putBit_23 : decode cX3_putBit 23 = .ok (.getfield 28, 3) := by decide +kernel
theorem dX3_putBit_26 : decode cX3_putBit 26 = .ok (.bipush 8, 2) := by decide +kernel
theorem dX3_putBit_28 : decode cX3_putBit 28 = .ok (.irem, 1) := by decide +kernel
theorem dX3_putBit_29 : decode cX3_putBit 29 = .ok (.ifCond .ne 7, 3) := by decide +kernel
theorem dX3_putBit_32 : decode cX3_putBit 32 = .ok (.aload_n 0, 1) := by decide +kernel
theorem dX3_putBit_33 : decode cX3_putBit 33 = .ok (.invokevirtual 45, 3) := by decide +kernel
theorem dX3_putBit_36 : decode cX3_putBit 36 = .ok (.aload_n 0, 1) := by decide +kernel
theorem dX3_putBit_37 : decode cX3_putBit 37 = .ok (.getfield 28, 3) := by decide +kernel
theorem dX3_putBit_40 : decode cX3_putBit 40 = .ok (.istore_n 2, 1) := by decide +kernel
theorem dX3_putBit_41 : decode cX3_putBit 41 = .ok (.aload_n 0, 1) := by decide +kernel
theorem dX3_putBit_42 : decode cX3_putBit 42 = .ok (.iload_n 1, 1) := by decide +kernel
theorem dX3_putBit_43 : decode cX3_putBit 43 = .ok (.invokevirtual 41, 3) := by decide +kernel
theorem dX3_putBit_46 : decode cX3_putBit 46 = .ok (.aload_n 0, 1) := by decide +kernel
theorem dX3_putBit_47 : decode cX3_putBit 47 = .ok (.getfield 17, 3) := by decide +kernel
theorem dX3_putBit_50 : decode cX3_putBit 50 = .ok (.iconst 1, 1) := by decide +kernel
theorem dX3_putBit_51 : decode cX3_putBit 51 = .ok (.if_icmp .ne 33, 3) := by decide +kernel
theorem dX3_putBit_54 : decode cX3_putBit 54 = .ok (.aload_n 0, 1) := by decide +kernel
theorem dX3_putBit_55 : decode cX3_putBit 55 = .ok (.getfield 21, 3) := by decide +kernel
theorem dX3_putBit_58 : decode cX3_putBit 58 = .ok (.ifCond .eq 26, 3) := by decide +kernel
theorem dX3_putBit_61 : decode cX3_putBit 61 = .ok (.aload_n 0, 1) := by decide +kernel
theorem dX3_putBit_62 : decode cX3_putBit 62 = .ok (.getfield 35, 3) := by decide +kernel
theorem dX3_putBit_65 : decode cX3_putBit 65 = .ok (.ifCond .eq 19, 3) := by decide +kernel
theorem dX3_putBit_68 : decode cX3_putBit 68 = .ok (.aload_n 0, 1) := by decide +kernel
theorem dX3_putBit_69 : decode cX3_putBit 69 = .ok (.getfield 28, 3) := by decide +kernel
theorem dX3_putBit_72 : decode cX3_putBit 72 = .ok (.bipush 8, 2) := by decide +kernel
theorem dX3_putBit_74 : decode cX3_putBit 74 = .ok (.irem, 1) := by decide +kernel
theorem dX3_putBit_75 : decode cX3_putBit 75 = .ok (.bipush 7, 2) := by decide +kernel
theorem dX3_putBit_77 : decode cX3_putBit 77 = .ok (.if_icmp .ne 7, 3) := by decide +kernel
theorem dX3_putBit_80 : decode cX3_putBit 80 = .ok (.aload_n 0, 1) := by decide +kernel
theorem dX3_putBit_81 : decode cX3_putBit 81 = .ok (.invokevirtual 45, 3) := by decide +kernel
theorem dX3_putBit_84 : decode cX3_putBit 84 = .ok (.aload_n 0, 1) := by decide +kernel
theorem dX3_putBit_85 : decode cX3_putBit 85 = .ok (.iload_n 1, 1) := by decide +kernel
theorem dX3_putBit_86 : decode cX3_putBit 86 = .ok (.ifCond .eq 12, 3) := by decide +kernel
theorem dX3_putBit_89 : decode cX3_putBit 89 = .ok (.aload_n 0, 1) := by decide +kernel
theorem dX3_putBit_90 : decode cX3_putBit 90 = .ok (.getfield 48, 3) := by decide +kernel
theorem dX3_putBit_93 : decode cX3_putBit 93 = .ok (.iconst 1, 1) := by decide +kernel
theorem dX3_putBit_94 : decode cX3_putBit 94 = .ok (.iadd, 1) := by decide +kernel
theorem dX3_putBit_95 : decode cX3_putBit 95 = .ok (.goto 4, 3) := by decide +kernel
theorem dX3_putBit_98 : decode cX3_putBit 98 = .ok (.iconst 0, 1) := by decide +kernel
theorem dX3_putBit_99 : decode cX3_putBit 99 = .ok (.putfield 48, 3) := by decide +kernel
theorem dX3_putBit_102 : decode cX3_putBit 102 = .ok (.aload_n 0, 1) := by decide +kernel
theorem dX3_putBit_103 : decode cX3_putBit 103 = .ok (.getfield 17, 3) := by decide +kernel
theorem dX3_putBit_106 : decode cX3_putBit 106 = .ok (.iconst 1, 1) := by decide +kernel
theorem dX3_putBit_107 : decode cX3_putBit 107 = .ok (.if_icmp .le 23, 3) := by decide +kernel
theorem dX3_putBit_110 : decode cX3_putBit 110 = .ok (.aload_n 0, 1) := by decide +kernel
theorem dX3_putBit_111 : decode cX3_putBit 111 = .ok (.getfield 48, 3) := by decide +kernel
theorem dX3_putBit_114 : decode cX3_putBit 114 = .ok (.aload_n 0, 1) := by decide +kernel
theorem dX3_putBit_115 : decode cX3_putBit 115 = .ok (.getfield 17, 3) := by decide +kernel
theorem dX3_putBit_118 : decode cX3_putBit 118 = .ok (.if_icmp .ne 12, 3) := by decide +kernel
theorem dX3_putBit_121 : decode cX3_putBit 121 = .ok (.aload_n 0, 1) := by decide +kernel
theorem dX3_putBit_122 : decode cX3_putBit 122 = .ok (.iconst 0, 1) := by decide +kernel
theorem dX3_putBit_123 : decode cX3_putBit 123 = .ok (.putfield 48, 3) := by decide +kernel
theorem dX3_putBit_126 : decode cX3_putBit 126 = .ok (.aload_n 0, 1) := by decide +kernel
theorem dX3_putBit_127 : decode cX3_putBit 127 = .ok (.invokevirtual 45, 3) := by decide +kernel
theorem dX3_putBit_130 : decode cX3_putBit 130 = .ok (.iload_n 2, 1) := by decide +kernel
theorem dX3_putBit_131 : decode cX3_putBit 131 = .ok (.ireturn, 1) := by decide +kernel
theorem dX3_stuff_0 : decode cX3_stuff 0 = .ok (.aload_n 0, 1) := by decide +kernel
theorem dX3_stuff_1 : decode cX3_stuff 1 = .ok (.dup, 1) := by decide +kernel
theorem dX3_stuff_2 : decode cX3_stuff 2 = .ok (.getfield 38, 3) := by decide +kernel
theorem dX3_stuff_5 : decode cX3_stuff 5 = .ok (.iconst 1, 1) := by decide +kernel
theorem dX3_stuff_6 : decode cX3_stuff 6 = .ok (.iadd, 1) := by decide +kernel
theorem dX3_stuff_7 : decode cX3_stuff 7 = .ok (.putfield 38, 3) := by decide +kernel
theorem dX3_stuff_10 : decode cX3_stuff 10 = .ok (.aload_n 0, 1) := by decide +kernel
theorem dX3_stuff_11 : decode cX3_stuff 11 = .ok (.iconst 0, 1) := by decide +kernel
theorem dX3_stuff_12 : decode cX3_stuff 12 = .ok (.invokevirtual 41, 3) := by decide +kernel
theorem dX3_stuff_15 : decode cX3_stuff 15 = .ok (.return_, 1) := by decide +kernel
theorem dX3_add_0 : decode cX3_add 0 = .ok (.aload_n 0, 1) := by decide +kernel
theorem dX3_add_1 : decode cX3_add 1 = .ok (.getfield 7, 3) := by decide +kernel
theorem dX3_add_4 : decode cX3_add 4 = .ok (.aload_n 0, 1) := by decide +kernel
theorem dX3_add_5 : decode cX3_add 5 = .ok (.getfield 28, 3) := by decide +kernel
theorem dX3_add_8 : decode cX3_add 8 = .ok (.iload_n 1, 1) := by decide +kernel
theorem dX3_add_9 : decode cX3_add 9 = .ok (.bastore, 1) := by decide +kernel
theorem dX3_add_10 : decode cX3_add 10 = .ok (.aload_n 0, 1) := by decide +kernel
theorem dX3_add_11 : decode cX3_add 11 = .ok (.dup, 1) := by decide +kernel
theorem dX3_add_12 : decode cX3_add 12 = .ok (.getfield 28, 3) := by decide +kernel
theorem dX3_add_15 : decode cX3_add 15 = .ok (.iconst 1, 1) := by decide +kernel
theorem dX3_add_16 : decode cX3_add 16 = .ok (.iadd, 1) := by decide +kernel
theorem dX3_add_17 : decode cX3_add 17 = .ok (.putfield 28, 3) := by decide +kernel
theorem dX3_add_20 : decode cX3_add 20 = .ok (.aload_n 0, 1) := by decide +kernel
theorem dX3_add_21 : decode cX3_add 21 = .ok (.getfield 28, 3) := by decide +kernel
theorem dX3_add_24 : decode cX3_add 24 = .ok (.bipush 8, 2) := by decide +kernel
end
section
theorem dX3_add_26 : decode cX3_add 26 = .ok (.irem, 1) := by decide +kernel
theorem dX3_add_27 : decode cX3_add 27 = .ok (.ifCond .ne 31, 3) := by decide +kernel
theorem dX3_add_30 : decode cX3_add 30 = .ok (.aload_n 0, 1) := by decide +kernel
theorem dX3_add_31 : decode cX3_add 31 = .ok (.aload_n 0, 1) := by decide +kernel
theorem dX3_add_32 : decode cX3_add 32 = .ok (.aload_n 0, 1) := by decide +kernel
theorem dX3_add_33 : decode cX3_add 33 = .ok (.getfield 28, 3) := by decide +kernel
theorem dX3_add_36 : decode cX3_add 36 = .ok (.bipush 8, 2) := by decide +kernel
theorem dX3_add_38 : decode cX3_add 38 = .ok (.idiv, 1) := by decide +kernel
theorem dX3_add_39 : decode cX3_add 39 = .ok (.iconst 1, 1) := by decide +kernel
theorem dX3_add_40 : decode cX3_add 40 = .ok (.isub, 1) := by decide +kernel
theorem dX3_add_41 : decode cX3_add 41 = .ok (.invokevirtual 31, 3) := by decide +kernel
theorem dX3_add_44 : decode cX3_add 44 = .ok (.sipush 255, 3) := by decide +kernel
theorem dX3_add_47 : decode cX3_add 47 = .ok (.if_icmp .ne 7, 3) := by decide +kernel
theorem dX3_add_50 : decode cX3_add 50 = .ok (.iconst 1, 1) := by decide +kernel
theorem dX3_add_51 : decode cX3_add 51 = .ok (.goto 4, 3) := by decide +kernel
theorem dX3_add_54 : decode cX3_add 54 = .ok (.iconst 0, 1) := by decide +kernel
theorem dX3_add_55 : decode cX3_add 55 = .ok (.putfield 35, 3) := by decide +kernel
theorem dX3_add_58 : decode cX3_add 58 = .ok (.return_, 1) := by decide +kernel
theorem dX3_byteOf_0 : decode cX3_byteOf 0 = .ok (.iconst 0, 1) := by decide +kernel
theorem dX3_byteOf_1 : decode cX3_byteOf 1 = .ok (.istore_n 2, 1) := by decide +kernel
theorem dX3_byteOf_2 : decode cX3_byteOf 2 = .ok (.iconst 0, 1) := by decide +kernel
theorem dX3_byteOf_3 : decode cX3_byteOf 3 = .ok (.istore_n 3, 1) := by decide +kernel
theorem dX3_byteOf_4 : decode cX3_byteOf 4 = .ok (.iload_n 3, 1) := by decide +kernel
theorem dX3_byteOf_5 : decode cX3_byteOf 5 = .ok (.bipush 8, 2) := by decide +kernel
theorem dX3_byteOf_7 : decode cX3_byteOf 7 = .ok (.if_icmp .ge 73, 3) := by decide +kernel
theorem dX3_byteOf_10 : decode cX3_byteOf 10 = .ok (.bipush 8, 2) := by decide +kernel
theorem dX3_byteOf_12 : decode cX3_byteOf 12 = .ok (.iload_n 1, 1) := by decide +kernel
theorem dX3_byteOf_13 : decode cX3_byteOf 13 = .ok (.imul, 1) := by decide +kernel
theorem dX3_byteOf_14 : decode cX3_byteOf 14 = .ok (.iload_n 3, 1) := by decide +kernel
theorem dX3_byteOf_15 : decode cX3_byteOf 15 = .ok (.iadd, 1) := by decide +kernel
theorem dX3_byteOf_16 : decode cX3_byteOf 16 = .ok (.istore 4, 2) := by decide +kernel
theorem dX3_byteOf_18 : decode cX3_byteOf 18 = .ok (.iload 4, 2) := by decide +kernel
theorem dX3_byteOf_20 : decode cX3_byteOf 20 = .ok (.aload_n 0, 1) := by decide +kernel
theorem dX3_byteOf_21 : decode cX3_byteOf 21 = .ok (.getfield 28, 3) := by decide +kernel
theorem dX3_byteOf_24 : decode cX3_byteOf 24 = .ok (.if_icmp .ge 17, 3) := by decide +kernel
theorem dX3_byteOf_27 : decode cX3_byteOf 27 = .ok (.aload_n 0, 1) := by decide +kernel
theorem dX3_byteOf_28 : decode cX3_byteOf 28 = .ok (.getfield 7, 3) := by decide +kernel
theorem dX3_byteOf_31 : decode cX3_byteOf 31 = .ok (.iload 4, 2) := by decide +kernel
theorem dX3_byteOf_33 : decode cX3_byteOf 33 = .ok (.baload, 1) := by decide +kernel
theorem dX3_byteOf_34 : decode cX3_byteOf 34 = .ok (.ifCond .eq 7, 3) := by decide +kernel
theorem dX3_byteOf_37 : decode cX3_byteOf 37 = .ok (.iconst 1, 1) := by decide +kernel
theorem dX3_byteOf_38 : decode cX3_byteOf 38 = .ok (.goto 4, 3) := by decide +kernel
theorem dX3_byteOf_41 : decode cX3_byteOf 41 = .ok (.iconst 0, 1) := by decide +kernel
theorem dX3_byteOf_42 : decode cX3_byteOf 42 = .ok (.istore 5, 2) := by decide +kernel
theorem dX3_byteOf_44 : decode cX3_byteOf 44 = .ok (.iload 5, 2) := by decide +kernel
theorem dX3_byteOf_46 : decode cX3_byteOf 46 = .ok (.ifCond .eq 26, 3) := by decide +kernel
theorem dX3_byteOf_49 : decode cX3_byteOf 49 = .ok (.iload_n 2, 1) := by decide +kernel
theorem dX3_byteOf_50 : decode cX3_byteOf 50 = .ok (.aload_n 0, 1) := by decide +kernel
theorem dX3_byteOf_51 : decode cX3_byteOf 51 = .ok (.getfield 21, 3) := by decide +kernel
theorem dX3_byteOf_54 : decode cX3_byteOf 54 = .ok (.ifCond .eq 9, 3) := by decide +kernel
theorem dX3_byteOf_57 : decode cX3_byteOf 57 = .ok (.iconst 1, 1) := by decide +kernel
theorem dX3_byteOf_58 : decode cX3_byteOf 58 = .ok (.iload_n 3, 1) := by decide +kernel
theorem dX3_byteOf_59 : decode cX3_byteOf 59 = .ok (.ishl, 1) := by decide +kernel
theorem dX3_byteOf_60 : decode cX3_byteOf 60 = .ok (.goto 8, 3) := by decide +kernel
theorem dX3_byteOf_63 : decode cX3_byteOf 63 = .ok (.sipush 128, 3) := by decide +kernel
theorem dX3_byteOf_66 : decode cX3_byteOf 66 = .ok (.iload_n 3, 1) := by decide +kernel
theorem dX3_byteOf_67 : decode cX3_byteOf 67 = .ok (.ishr, 1) := by decide +kernel
theorem dX3_byteOf_68 : decode cX3_byteOf 68 = .ok (.ior, 1) := by decide +kernel
theorem dX3_byteOf_69 : decode cX3_byteOf 69 = .ok (.goto 4, 3) := by decide +kernel
theorem dX3_byteOf_72 : decode cX3_byteOf 72 = .ok (.iload_n 2, 1) := by decide +kernel
theorem dX3_byteOf_73 : decode cX3_byteOf 73 = .ok (.istore_n 2, 1) := by decide +kernel
theorem dX3_byteOf_74 : decode cX3_byteOf 74 = .ok (.iinc 3 1, 3) := by decide +kernel
theorem dX3_byteOf_77 : decode cX3_byteOf 77 = .ok (.goto (-73), 3) := by decide +kernel
theorem dX3_byteOf_80 : decode cX3_byteOf 80 = .ok (.iload_n 2, 1) := by decide +kernel
theorem dX3_byteOf_81 : decode cX3_byteOf 81 = .ok (.ireturn, 1) := by decide +kernel
theorem dX3_align_0 : decode cX3_align 0 = .ok (.aload_n 0, 1) := by decide +kernel
theorem dX3_align_1 : decode cX3_align 1 = .ok (.aload_n 0, 1) := by decide +kernel
theorem dX3_align_2 : decode cX3_align 2 = .ok (.bipush 16, 2) := by decide +kernel
theorem dX3_align_4 : decode cX3_align 4 = .ok (.invokevirtual 57, 3) := by decide +kernel
theorem dX3_align_7 : decode cX3_align 7 = .ok (.ifCond .eq 7, 3) := by decide +kernel
theorem dX3_align_10 : decode cX3_align 10 = .ok (.iconst 1, 1) := by decide +kernel
theorem dX3_align_11 : decode cX3_align 11 = .ok (.goto 4, 3) := by decide +kernel
theorem dX3_align_14 : decode cX3_align 14 = .ok (.iconst 0, 1) := by decide +kernel
theorem dX3_align_15 : decode cX3_align 15 = .ok (.putfield 25, 3) := by decide +kernel
theorem dX3_align_18 : decode cX3_align 18 = .ok (.aload_n 0, 1) := by decide +kernel
theorem dX3_align_19 : decode cX3_align 19 = .ok (.getfield 25, 3) := by decide +kernel
theorem dX3_align_22 : decode cX3_align 22 = .ok (.ifCond .le 7, 3) := by decide +kernel
theorem dX3_align_25 : decode cX3_align 25 = .ok (.iconst 0, 1) := by decide +kernel
theorem dX3_align_26 : decode cX3_align 26 = .ok (.goto 7, 3) := by decide +kernel
theorem dX3_align_29 : decode cX3_align 29 = .ok (.aload_n 0, 1) := by decide +kernel
theorem dX3_align_30 : decode cX3_align 30 = .ok (.invokevirtual 65, 3) := by decide +kernel
theorem dX3_align_33 : decode cX3_align 33 = .ok (.ireturn, 1) := by decide +kernel
theorem dX3_alignAll_0 : decode cX3_alignAll 0 = .ok (.iconst 0, 1) := by decide +kernel
theorem dX3_alignAll_1 : decode cX3_alignAll 1 = .ok (.istore_n 1, 1) := by decide +kernel
theorem dX3_alignAll_2 : decode cX3_alignAll 2 = .ok (.aload_n 0, 1) := by decide +kernel
theorem dX3_alignAll_3 : decode cX3_alignAll 3 = .ok (.getfield 28, 3) := by decide +kernel
theorem dX3_alignAll_6 : decode cX3_alignAll 6 = .ok (.bipush 8, 2) := by decide +kernel
theorem dX3_alignAll_8 : decode cX3_alignAll 8 = .ok (.irem, 1) := by decide +kernel
theorem dX3_alignAll_9 : decode cX3_alignAll 9 = .ok (.ifCond .ne 18, 3) := by decide +kernel
theorem dX3_alignAll_12 : decode cX3_alignAll 12 = .ok (.aload_n 0, 1) := by decide +kernel
theorem dX3_alignAll_13 : decode cX3_alignAll 13 = .ok (.getfield 17, 3) := by decide +kernel
theorem dX3_alignAll_16 : decode cX3_alignAll 16 = .ok (.iconst 1, 1) := by decide +kernel
theorem dX3_alignAll_17 : decode cX3_alignAll 17 = .ok (.if_icmp .ne 22, 3) := by decide +kernel
theorem dX3_alignAll_20 : decode cX3_alignAll 20 = .ok (.aload_n 0, 1) := by decide +kernel
theorem dX3_alignAll_21 : decode cX3_alignAll 21 = .ok (.getfield 35, 3) := by decide +kernel
theorem dX3_alignAll_24 : decode cX3_alignAll 24 = .ok (.ifCond .eq 15, 3) := by decide +kernel
theorem dX3_alignAll_27 : decode cX3_alignAll 27 = .ok (.aload_n 0, 1) := by decide +kernel
theorem dX3_alignAll_28 : decode cX3_alignAll 28 = .ok (.iconst 0, 1) := by decide +kernel
theorem dX3_alignAll_29 : decode cX3_alignAll 29 = .ok (.invokevirtual 61, 3) := by decide +kernel
theorem dX3_alignAll_32 : decode cX3_alignAll 32 = .ok (.istore_n 2, 1) := by decide +kernel
theorem dX3_alignAll_33 : decode cX3_alignAll 33 = .ok (.iinc 1 1, 3) := by decide +kernel
theorem dX3_alignAll_36 : decode cX3_alignAll 36 = .ok (.goto (-34), 3) := by decide +kernel
theorem dX3_alignAll_39 : decode cX3_alignAll 39 = .ok (.iload_n 1, 1) := by decide +kernel
theorem dX3_alignAll_40 : decode cX3_alignAll 40 = .ok (.ireturn, 1) := by decide +kernel
theorem dX3_mark_0 : decode cX3_mark 0 = .ok (.aload_n 0, 1) := by decide +kernel
theorem dX3_mark_1 : decode cX3_mark 1 = .ok (.aload_n 0, 1) := by decide +kernel
theorem dX3_mark_2 : decode cX3_mark 2 = .ok (.getfield 17, 3) := by decide +kernel
theorem dX3_mark_5 : decode cX3_mark 5 = .ok (.iconst 1, 1) := by decide +kernel
theorem dX3_mark_6 : decode cX3_mark 6 = .ok (.if_icmp .eq 7, 3) := by decide +kernel
theorem dX3_mark_9 : decode cX3_mark 9 = .ok (.iconst 1, 1) := by decide +kernel
theorem dX3_mark_10 : decode cX3_mark 10 = .ok (.goto 35, 3) := by decide +kernel
theorem dX3_mark_13 : decode cX3_mark 13 = .ok (.iload_n 1, 1) := by decide +kernel
theorem dX3_mark_14 : decode cX3_mark 14 = .ok (.i2l, 1) := by decide +kernel
theorem dX3_mark_15 : decode cX3_mark 15 = .ok (.ldc2_w 69, 3) := by decide +kernel
theorem dX3_mark_18 : decode cX3_mark 18 = .ok (.ldc2_w 71, 3) := by decide +kernel
theorem dX3_mark_21 : decode cX3_mark 21 = .ok (.invokestatic 53, 3) := by decide +kernel
theorem dX3_mark_24 : decode cX3_mark 24 = .ok (.ifCond .ne 7, 3) := by decide +kernel
theorem dX3_mark_27 : decode cX3_mark 27 = .ok (.iconst 2, 1) := by decide +kernel
theorem dX3_mark_28 : decode cX3_mark 28 = .ok (.goto 17, 3) := by decide +kernel
theorem dX3_mark_31 : decode cX3_mark 31 = .ok (.aload_n 0, 1) := by decide +kernel
theorem dX3_mark_32 : decode cX3_mark 32 = .ok (.bipush 32, 2) := by decide +kernel
theorem dX3_mark_34 : decode cX3_mark 34 = .ok (.invokevirtual 57, 3) := by decide +kernel
theorem dX3_mark_37 : decode cX3_mark 37 = .ok (.ifCond .eq 7, 3) := by decide +kernel
theorem dX3_mark_40 : decode cX3_mark 40 = .ok (.iconst 3, 1) := by decide +kernel
theorem dX3_mark_41 : decode cX3_mark 41 = .ok (.goto 4, 3) := by decide +kernel
theorem dX3_mark_44 : decode cX3_mark 44 = .ok (.iconst 0, 1) := by decide +kernel
theorem dX3_mark_45 : decode cX3_mark 45 = .ok (.putfield 25, 3) := by decide +kernel
theorem dX3_mark_48 : decode cX3_mark 48 = .ok (.aload_n 0, 1) := by decide +kernel
theorem dX3_mark_49 : decode cX3_mark 49 = .ok (.getfield 25, 3) := by decide +kernel
theorem dX3_mark_52 : decode cX3_mark 52 = .ok (.ifCond .le 5, 3) := by decide +kernel
theorem dX3_mark_55 : decode cX3_mark 55 = .ok (.iconst 0, 1) := by decide +kernel
theorem dX3_mark_56 : decode cX3_mark 56 = .ok (.ireturn, 1) := by decide +kernel
theorem dX3_mark_57 : decode cX3_mark 57 = .ok (.aload_n 0, 1) := by decide +kernel
theorem dX3_mark_58 : decode cX3_mark 58 = .ok (.invokevirtual 65, 3) := by decide +kernel
theorem dX3_mark_61 : decode cX3_mark 61 = .ok (.istore_n 2, 1) := by decide +kernel
theorem dX3_mark_62 : decode cX3_mark 62 = .ok (.aload_n 0, 1) := by decide +kernel
theorem dX3_mark_63 : decode cX3_mark 63 = .ok (.getfield 28, 3) := by decide +kernel
theorem dX3_mark_66 : decode cX3_mark 66 = .ok (.bipush 8, 2) := by decide +kernel
theorem dX3_mark_68 : decode cX3_mark 68 = .ok (.idiv, 1) := by decide +kernel
theorem dX3_mark_69 : decode cX3_mark 69 = .ok (.istore_n 3, 1) := by decide +kernel
theorem dX3_mark_70 : decode cX3_mark 70 = .ok (.iconst 0, 1) := by decide +kernel
theorem dX3_mark_71 : decode cX3_mark 71 = .ok (.istore 4, 2) := by decide +kernel
theorem dX3_mark_73 : decode cX3_mark 73 = .ok (.iload 4, 2) := by decide +kernel
theorem dX3_mark_75 : decode cX3_mark 75 = .ok (.bipush 8, 2) := by decide +kernel
theorem dX3_mark_77 : decode cX3_mark 77 = .ok (.if_icmp .ge 14, 3) := by decide +kernel
theorem dX3_mark_80 : decode cX3_mark 80 = .ok (.aload_n 0, 1) := by decide +kernel
theorem dX3_mark_81 : decode cX3_mark 81 = .ok (.iconst 1, 1) := by decide +kernel
theorem dX3_mark_82 : decode cX3_mark 82 = .ok (.invokevirtual 41, 3) := by decide +kernel
theorem dX3_mark_85 : decode cX3_mark 85 = .ok (.iinc 4 1, 3) := by decide +kernel
theorem dX3_mark_88 : decode cX3_mark 88 = .ok (.goto (-15), 3) := by decide +kernel
theorem dX3_mark_91 : decode cX3_mark 91 = .ok (.iconst 0, 1) := by decide +kernel
theorem dX3_mark_92 : decode cX3_mark 92 = .ok (.istore 4, 2) := by decide +kernel
theorem dX3_mark_94 : decode cX3_mark 94 = .ok (.iload 4, 2) := by decide +kernel
theorem dX3_mark_96 : decode cX3_mark 96 = .ok (.bipush 8, 2) := by decide +kernel
theorem dX3_mark_98 : decode cX3_mark 98 = .ok (.if_icmp .ge 43, 3) := by decide +kernel
theorem dX3_mark_101 : decode cX3_mark 101 = .ok (.aload_n 0, 1) := by decide +kernel
theorem dX3_mark_102 : decode cX3_mark 102 = .ok (.iload_n 1, 1) := by decide +kernel
theorem dX3_mark_103 : decode cX3_mark 103 = .ok (.aload_n 0, 1) := by decide +kernel
theorem dX3_mark_104 : decode cX3_mark 104 = .ok (.getfield 21, 3) := by decide +kernel
theorem dX3_mark_107 : decode cX3_mark 107 = .ok (.ifCond .eq 8, 3) := by decide +kernel
theorem dX3_mark_110 : decode cX3_mark 110 = .ok (.iload 4, 2) := by decide +kernel
theorem dX3_mark_112 : decode cX3_mark 112 = .ok (.goto 8, 3) := by decide +kernel
theorem dX3_mark_115 : decode cX3_mark 115 = .ok (.bipush 7, 2) := by decide +kernel
theorem dX3_mark_117 : decode cX3_mark 117 = .ok (.iload 4, 2) := by decide +kernel
theorem dX3_mark_119 : decode cX3_mark 119 = .ok (.isub, 1) := by decide +kernel
theorem dX3_mark_120 : decode cX3_mark 120 = .ok (.ishr, 1) := by decide +kernel
theorem dX3_mark_121 : decode cX3_mark 121 = .ok (.iconst 1, 1) := by decide +kernel
theorem dX3_mark_122 : decode cX3_mark 122 = .ok (.iand, 1) := by decide +kernel
theorem dX3_mark_123 : decode cX3_mark 123 = .ok (.iconst 1, 1) := by decide +kernel
theorem dX3_mark_124 : decode cX3_mark 124 = .ok (.if_icmp .ne 7, 3) := by decide +kernel
theorem dX3_mark_127 : decode cX3_mark 127 = .ok (.iconst 1, 1) := by decide +kernel
theorem dX3_mark_128 : decode cX3_mark 128 = .ok (.goto 4, 3) := by decide +kernel
theorem dX3_mark_131 : decode cX3_mark 131 = .ok (.iconst 0, 1) := by decide +kernel
theorem dX3_mark_132 : decode cX3_mark 132 = .ok (.invokevirtual 41, 3) := by decide +kernel
theorem dX3_mark_135 : decode cX3_mark 135 = .ok (.iinc 4 1, 3) := by decide +kernel
theorem dX3_mark_138 : decode cX3_mark 138 = .ok (.goto (-44), 3) := by decide +kernel
theorem dX3_mark_141 : decode cX3_mark 141 = .ok (.aload_n 0, 1) := by decide +kernel
theorem dX3_mark_142 : decode cX3_mark 142 = .ok (.iconst 0, 1) := by decide +kernel
theorem dX3_mark_143 : decode cX3_mark 143 = .ok (.putfield 35, 3) := by decide +kernel
theorem dX3_mark_146 : decode cX3_mark 146 = .ok (.iload_n 3, 1) := by decide +kernel
theorem dX3_mark_147 : decode cX3_mark 147 = .ok (.ireturn, 1) := by decide +kernel
theorem dX3_patch_0 : decode cX3_patch 0 = .ok (.aload_n 0, 1) := by decide +kernel
theorem dX3_patch_1 : decode cX3_patch 1 = .ok (.aload_n 0, 1) := by decide +kernel
theorem dX3_patch_2 : decode cX3_patch 2 = .ok (.getfield 17, 3) := by decide +kernel
theorem dX3_patch_5 : decode cX3_patch 5 = .ok (.ifCond .eq 7, 3) := by decide +kernel
theorem dX3_patch_8 : decode cX3_patch 8 = .ok (.iconst 1, 1) := by decide +kernel
theorem dX3_patch_9 : decode cX3_patch 9 = .ok (.goto 42, 3) := by decide +kernel
theorem dX3_patch_12 : decode cX3_patch 12 = .ok (.iload_n 2, 1) := by decide +kernel
theorem dX3_patch_13 : decode cX3_patch 13 = .ok (.i2l, 1) := by decide +kernel
theorem dX3_patch_14 : decode cX3_patch 14 = .ok (.lconst 1, 1) := by decide +kernel
theorem dX3_patch_15 : decode cX3_patch 15 = .ok (.ldc2_w 51, 3) := by decide +kernel
theorem dX3_patch_18 : decode cX3_patch 18 = .ok (.invokestatic 53, 3) := by decide +kernel
theorem dX3_patch_21 : decode cX3_patch 21 = .ok (.ifCond .ne 7, 3) := by decide +kernel
theorem dX3_patch_24 : decode cX3_patch 24 = .ok (.iconst 2, 1) := by decide +kernel
theorem dX3_patch_25 : decode cX3_patch 25 = .ok (.goto 26, 3) := by decide +kernel
theorem dX3_patch_28 : decode cX3_patch 28 = .ok (.iload_n 1, 1) := by decide +kernel
theorem dX3_patch_29 : decode cX3_patch 29 = .ok (.ifCond .lt 17, 3) := by decide +kernel
theorem dX3_patch_32 : decode cX3_patch 32 = .ok (.iload_n 1, 1) := by decide +kernel
theorem dX3_patch_33 : decode cX3_patch 33 = .ok (.i2l, 1) := by decide +kernel
theorem dX3_patch_34 : decode cX3_patch 34 = .ok (.iload_n 2, 1) := by decide +kernel
theorem dX3_patch_35 : decode cX3_patch 35 = .ok (.i2l, 1) := by decide +kernel
theorem dX3_patch_36 : decode cX3_patch 36 = .ok (.ladd, 1) := by decide +kernel
theorem dX3_patch_37 : decode cX3_patch 37 = .ok (.aload_n 0, 1) := by decide +kernel
theorem dX3_patch_38 : decode cX3_patch 38 = .ok (.getfield 28, 3) := by decide +kernel
theorem dX3_patch_41 : decode cX3_patch 41 = .ok (.i2l, 1) := by decide +kernel
theorem dX3_patch_42 : decode cX3_patch 42 = .ok (.lcmp, 1) := by decide +kernel
theorem dX3_patch_43 : decode cX3_patch 43 = .ok (.ifCond .le 7, 3) := by decide +kernel
theorem dX3_patch_46 : decode cX3_patch 46 = .ok (.iconst 3, 1) := by decide +kernel
theorem dX3_patch_47 : decode cX3_patch 47 = .ok (.goto 4, 3) := by decide +kernel
theorem dX3_patch_50 : decode cX3_patch 50 = .ok (.iconst 0, 1) := by decide +kernel
theorem dX3_patch_51 : decode cX3_patch 51 = .ok (.putfield 25, 3) := by decide +kernel
theorem dX3_patch_54 : decode cX3_patch 54 = .ok (.aload_n 0, 1) := by decide +kernel
theorem dX3_patch_55 : decode cX3_patch 55 = .ok (.getfield 25, 3) := by decide +kernel
theorem dX3_patch_58 : decode cX3_patch 58 = .ok (.ifCond .le 5, 3) := by decide +kernel
theorem dX3_patch_61 : decode cX3_patch 61 = .ok (.iconst 0, 1) := by decide +kernel
theorem dX3_patch_62 : decode cX3_patch 62 = .ok (.ireturn, 1) := by decide +kernel
theorem dX3_patch_63 : decode cX3_patch 63 = .ok (.iconst 0, 1) := by decide +kernel
theorem dX3_patch_64 : decode cX3_patch 64 = .ok (.istore 4, 2) := by decide +kernel
theorem dX3_patch_66 : decode cX3_patch 66 = .ok (.iconst 0, 1) := by decide +kernel
theorem dX3_patch_67 : decode cX3_patch 67 = .ok (.istore 5, 2) := by decide +kernel
theorem dX3_patch_69 : decode cX3_patch 69 = .ok (.iload 5, 2) := by decide +kernel
theorem dX3_patch_71 : decode cX3_patch 71 = .ok (.iload_n 2, 1) := by decide +kernel
theorem dX3_patch_72 : decode cX3_patch 72 = .ok (.if_icmp .ge 79, 3) := by decide +kernel
theorem dX3_patch_75 : decode cX3_patch 75 = .ok (.aload_n 0, 1) := by decide +kernel
theorem dX3_patch_76 : decode cX3_patch 76 = .ok (.getfield 21, 3) := by decide +kernel
theorem dX3_patch_79 : decode cX3_patch 79 = .ok (.ifCond .eq 8, 3) := by decide +kernel
theorem dX3_patch_82 : decode cX3_patch 82 = .ok (.iload 5, 2) := by decide +kernel
theorem dX3_patch_84 : decode cX3_patch 84 = .ok (.goto 9, 3) := by decide +kernel
theorem dX3_patch_87 : decode cX3_patch 87 = .ok (.iload_n 2, 1) := by decide +kernel
theorem dX3_patch_88 : decode cX3_patch 88 = .ok (.iconst 1, 1) := by decide +kernel
theorem dX3_patch_89 : decode cX3_patch 89 = .ok (.isub, 1) := by decide +kernel
theorem dX3_patch_90 : decode cX3_patch 90 = .ok (.iload 5, 2) := by decide +kernel
theorem dX3_patch_92 : decode cX3_patch 92 = .ok (.isub, 1) := by decide +kernel
theorem dX3_patch_93 : decode cX3_patch 93 = .ok (.istore 6, 2) := by decide +kernel
theorem dX3_patch_95 : decode cX3_patch 95 = .ok (.aload_n 0, 1) := by decide +kernel
theorem dX3_patch_96 : decode cX3_patch 96 = .ok (.getfield 7, 3) := by decide +kernel
theorem dX3_patch_99 : decode cX3_patch 99 = .ok (.iload_n 1, 1) := by decide +kernel
theorem dX3_patch_100 : decode cX3_patch 100 = .ok (.iload 5, 2) := by decide +kernel
theorem dX3_patch_102 : decode cX3_patch 102 = .ok (.iadd, 1) := by decide +kernel
theorem dX3_patch_103 : decode cX3_patch 103 = .ok (.baload, 1) := by decide +kernel
theorem dX3_patch_104 : decode cX3_patch 104 = .ok (.ifCond .eq 13, 3) := by decide +kernel
theorem dX3_patch_107 : decode cX3_patch 107 = .ok (.iload 4, 2) := by decide +kernel
theorem dX3_patch_109 : decode cX3_patch 109 = .ok (.iconst 1, 1) := by decide +kernel
theorem dX3_patch_110 : decode cX3_patch 110 = .ok (.iload 6, 2) := by decide +kernel
theorem dX3_patch_112 : decode cX3_patch 112 = .ok (.ishl, 1) := by decide +kernel
theorem dX3_patch_113 : decode cX3_patch 113 = .ok (.ior, 1) := by decide +kernel
theorem dX3_patch_114 : decode cX3_patch 114 = .ok (.goto 5, 3) := by decide +kernel
theorem dX3_patch_117 : decode cX3_patch 117 = .ok (.iload 4, 2) := by decide +kernel
theorem dX3_patch_119 : decode cX3_patch 119 = .ok (.istore 4, 2) := by decide +kernel
theorem dX3_patch_121 : decode cX3_patch 121 = .ok (.aload_n 0, 1) := by decide +kernel
theorem dX3_patch_122 : decode cX3_patch 122 = .ok (.getfield 7, 3) := by decide +kernel
theorem dX3_patch_125 : decode cX3_patch 125 = .ok (.iload_n 1, 1) := by decide +kernel
theorem dX3_patch_126 : decode cX3_patch 126 = .ok (.iload 5, 2) := by decide +kernel
theorem dX3_patch_128 : decode cX3_patch 128 = .ok (.iadd, 1) := by decide +kernel
theorem dX3_patch_129 : decode cX3_patch 129 = .ok (.iload_n 3, 1) := by decide +kernel
theorem dX3_patch_130 : decode cX3_patch 130 = .ok (.iload 6, 2) := by decide +kernel
theorem dX3_patch_132 : decode cX3_patch 132 = .ok (.iushr, 1) := by decide +kernel
theorem dX3_patch_133 : decode cX3_patch 133 = .ok (.iconst 1, 1) := by decide +kernel
theorem dX3_patch_134 : decode cX3_patch 134 = .ok (.iand, 1) := by decide +kernel
theorem dX3_patch_135 : decode cX3_patch 135 = .ok (.iconst 1, 1) := by decide +kernel
theorem dX3_patch_136 : decode cX3_patch 136 = .ok (.if_icmp .ne 7, 3) := by decide +kernel
theorem dX3_patch_139 : decode cX3_patch 139 = .ok (.iconst 1, 1) := by decide +kernel
theorem dX3_patch_140 : decode cX3_patch 140 = .ok (.goto 4, 3) := by decide +kernel
theorem dX3_patch_143 : decode cX3_patch 143 = .ok (.iconst 0, 1) := by decide +kernel
theorem dX3_patch_144 : decode cX3_patch 144 = .ok (.bastore, 1) := by decide +kernel
theorem dX3_patch_145 : decode cX3_patch 145 = .ok (.iinc 5 1, 3) := by decide +kernel
theorem dX3_patch_148 : decode cX3_patch 148 = .ok (.goto (-79), 3) := by decide +kernel
theorem dX3_patch_151 : decode cX3_patch 151 = .ok (.iload 4, 2) := by decide +kernel
theorem dX3_patch_153 : decode cX3_patch 153 = .ok (.ireturn, 1) := by decide +kernel
theorem dX3_byteAt_0 : decode cX3_byteAt 0 = .ok (.aload_n 0, 1) := by decide +kernel
theorem dX3_byteAt_1 : decode cX3_byteAt 1 = .ok (.iload_n 1, 1) := by decide +kernel
theorem dX3_byteAt_2 : decode cX3_byteAt 2 = .ok (.i2l, 1) := by decide +kernel
theorem dX3_byteAt_3 : decode cX3_byteAt 3 = .ok (.lconst 0, 1) := by decide +kernel
theorem dX3_byteAt_4 : decode cX3_byteAt 4 = .ok (.aload_n 0, 1) := by decide +kernel
theorem dX3_byteAt_5 : decode cX3_byteAt 5 = .ok (.invokevirtual 73, 3) := by decide +kernel
theorem dX3_byteAt_8 : decode cX3_byteAt 8 = .ok (.iconst 1, 1) := by decide +kernel
theorem dX3_byteAt_9 : decode cX3_byteAt 9 = .ok (.isub, 1) := by decide +kernel
theorem dX3_byteAt_10 : decode cX3_byteAt 10 = .ok (.i2l, 1) := by decide +kernel
theorem dX3_byteAt_11 : decode cX3_byteAt 11 = .ok (.invokestatic 53, 3) := by decide +kernel
theorem dX3_byteAt_14 : decode cX3_byteAt 14 = .ok (.ifCond .eq 7, 3) := by decide +kernel
theorem dX3_byteAt_17 : decode cX3_byteAt 17 = .ok (.iconst 0, 1) := by decide +kernel
theorem dX3_byteAt_18 : decode cX3_byteAt 18 = .ok (.goto 4, 3) := by decide +kernel
theorem dX3_byteAt_21 : decode cX3_byteAt 21 = .ok (.iconst 1, 1) := by decide +kernel
theorem dX3_byteAt_22 : decode cX3_byteAt 22 = .ok (.putfield 25, 3) := by decide +kernel
theorem dX3_byteAt_25 : decode cX3_byteAt 25 = .ok (.aload_n 0, 1) := by decide +kernel
theorem dX3_byteAt_26 : decode cX3_byteAt 26 = .ok (.getfield 25, 3) := by decide +kernel
theorem dX3_byteAt_29 : decode cX3_byteAt 29 = .ok (.ifCond .le 7, 3) := by decide +kernel
theorem dX3_byteAt_32 : decode cX3_byteAt 32 = .ok (.iconst 0, 1) := by decide +kernel
theorem dX3_byteAt_33 : decode cX3_byteAt 33 = .ok (.goto 8, 3) := by decide +kernel
theorem dX3_byteAt_36 : decode cX3_byteAt 36 = .ok (.aload_n 0, 1) := by decide +kernel
theorem dX3_byteAt_37 : decode cX3_byteAt 37 = .ok (.iload_n 1, 1) := by decide +kernel
theorem dX3_byteAt_38 : decode cX3_byteAt 38 = .ok (.invokevirtual 31, 3) := by decide +kernel
theorem dX3_byteAt_41 : decode cX3_byteAt 41 = .ok (.ireturn, 1) := by decide +kernel
theorem dX3_bytesWritten_0 : decode cX3_bytesWritten 0 = .ok (.aload_n 0, 1) := by decide +kernel
theorem dX3_bytesWritten_1 : decode cX3_bytesWritten 1 = .ok (.getfield 28, 3) := by decide +kernel
theorem dX3_bytesWritten_4 : decode cX3_bytesWritten 4 = .ok (.bipush 7, 2) := by decide +kernel
theorem dX3_bytesWritten_6 : decode cX3_bytesWritten 6 = .ok (.iadd, 1) := by decide +kernel
theorem dX3_bytesWritten_7 : decode cX3_bytesWritten 7 = .ok (.bipush 8, 2) := by decide +kernel
theorem dX3_bytesWritten_9 : decode cX3_bytesWritten 9 = .ok (.idiv, 1) := by decide +kernel
theorem dX3_bytesWritten_10 : decode cX3_bytesWritten 10 = .ok (.ireturn, 1) := by decide +kernel
theorem dX3_feed_0 : decode cX3_feed 0 = .ok (.aload_n 0, 1) := by decide +kernel
theorem dX3_feed_1 : decode cX3_feed 1 = .ok (.iload_n 1, 1) := by decide +kernel
theorem dX3_feed_2 : decode cX3_feed 2 = .ok (.i2l, 1) := by decide +kernel
theorem dX3_feed_3 : decode cX3_feed 3 = .ok (.lconst 0, 1) := by decide +kernel
theorem dX3_feed_4 : decode cX3_feed 4 = .ok (.ldc2_w 71, 3) := by decide +kernel
theorem dX3_feed_7 : decode cX3_feed 7 = .ok (.invokestatic 53, 3) := by decide +kernel
theorem dX3_feed_10 : decode cX3_feed 10 = .ok (.ifCond .ne 7, 3) := by decide +kernel
theorem dX3_feed_13 : decode cX3_feed 13 = .ok (.iconst 1, 1) := by decide +kernel
theorem dX3_feed_14 : decode cX3_feed 14 = .ok (.goto 18, 3) := by decide +kernel
theorem dX3_feed_17 : decode cX3_feed 17 = .ok (.aload_n 0, 1) := by decide +kernel
theorem dX3_feed_18 : decode cX3_feed 18 = .ok (.getfield 76, 3) := by decide +kernel
theorem dX3_feed_21 : decode cX3_feed 21 = .ok (.sipush 600, 3) := by decide +kernel
theorem dX3_feed_24 : decode cX3_feed 24 = .ok (.if_icmp .ne 7, 3) := by decide +kernel
theorem dX3_feed_27 : decode cX3_feed 27 = .ok (.iconst 2, 1) := by decide +kernel
theorem dX3_feed_28 : decode cX3_feed 28 = .ok (.goto 4, 3) := by decide +kernel
theorem dX3_feed_31 : decode cX3_feed 31 = .ok (.iconst 0, 1) := by decide +kernel
theorem dX3_feed_32 : decode cX3_feed 32 = .ok (.putfield 25, 3) := by decide +kernel
theorem dX3_feed_35 : decode cX3_feed 35 = .ok (.aload_n 0, 1) := by decide +kernel
theorem dX3_feed_36 : decode cX3_feed 36 = .ok (.getfield 25, 3) := by decide +kernel
theorem dX3_feed_39 : decode cX3_feed 39 = .ok (.ifCond .le 5, 3) := by decide +kernel
theorem dX3_feed_42 : decode cX3_feed 42 = .ok (.iconst 0, 1) := by decide +kernel
theorem dX3_feed_43 : decode cX3_feed 43 = .ok (.ireturn, 1) := by decide +kernel
theorem dX3_feed_44 : decode cX3_feed 44 = .ok (.aload_n 0, 1) := by decide +kernel
theorem dX3_feed_45 : decode cX3_feed 45 = .ok (.getfield 13, 3) := by decide +kernel
theorem dX3_feed_48 : decode cX3_feed 48 = .ok (.aload_n 0, 1) := by decide +kernel
theorem dX3_feed_49 : decode cX3_feed 49 = .ok (.getfield 76, 3) := by decide +kernel
theorem dX3_feed_52 : decode cX3_feed 52 = .ok (.iload_n 1, 1) := by decide +kernel
theorem dX3_feed_53 : decode cX3_feed 53 = .ok (.iastore, 1) := by decide +kernel
theorem dX3_feed_54 : decode cX3_feed 54 = .ok (.aload_n 0, 1) := by decide +kernel
theorem dX3_feed_55 : decode cX3_feed 55 = .ok (.dup, 1) := by decide +kernel
theorem dX3_feed_56 : decode cX3_feed 56 = .ok (.getfield 76, 3) := by decide +kernel
theorem dX3_feed_59 : decode cX3_feed 59 = .ok (.iconst 1, 1) := by decide +kernel
theorem dX3_feed_60 : decode cX3_feed 60 = .ok (.iadd, 1) := by decide +kernel
theorem dX3_feed_61 : decode cX3_feed 61 = .ok (.putfield 76, 3) := by decide +kernel
theorem dX3_feed_64 : decode cX3_feed 64 = .ok (.aload_n 0, 1) := by decide +kernel
theorem dX3_feed_65 : decode cX3_feed 65 = .ok (.getfield 76, 3) := by decide +kernel
theorem dX3_feed_68 : decode cX3_feed 68 = .ok (.ireturn, 1) := by decide +kernel
theorem dX3_pass_0 : decode cX3_pass 0 = .ok (.aload_n 0, 1) := by decide +kernel
theorem dX3_pass_1 : decode cX3_pass 1 = .ok (.getfield 28, 3) := by decide +kernel
theorem dX3_pass_4 : decode cX3_pass 4 = .ok (.bipush 8, 2) := by decide +kernel
theorem dX3_pass_6 : decode cX3_pass 6 = .ok (.idiv, 1) := by decide +kernel
theorem dX3_pass_7 : decode cX3_pass 7 = .ok (.istore_n 3, 1) := by decide +kernel
theorem dX3_pass_8 : decode cX3_pass 8 = .ok (.iload_n 2, 1) := by decide +kernel
theorem dX3_pass_9 : decode cX3_pass 9 = .ok (.iload_n 3, 1) := by decide +kernel
theorem dX3_pass_10 : decode cX3_pass 10 = .ok (.iload_n 1, 1) := by decide +kernel
theorem dX3_pass_11 : decode cX3_pass 11 = .ok (.isub, 1) := by decide +kernel
theorem dX3_pass_12 : decode cX3_pass 12 = .ok (.if_icmp .ge 7, 3) := by decide +kernel
theorem dX3_pass_15 : decode cX3_pass 15 = .ok (.iload_n 2, 1) := by decide +kernel
theorem dX3_pass_16 : decode cX3_pass 16 = .ok (.goto 6, 3) := by decide +kernel
theorem dX3_pass_19 : decode cX3_pass 19 = .ok (.iload_n 3, 1) := by decide +kernel
theorem dX3_pass_20 : decode cX3_pass 20 = .ok (.iload_n 1, 1) := by decide +kernel
theorem dX3_pass_21 : decode cX3_pass 21 = .ok (.isub, 1) := by decide +kernel
theorem dX3_pass_22 : decode cX3_pass 22 = .ok (.istore 4, 2) := by decide +kernel
theorem dX3_pass_24 : decode cX3_pass 24 = .ok (.aload_n 0, 1) := by decide +kernel
theorem dX3_pass_25 : decode cX3_pass 25 = .ok (.iload_n 1, 1) := by decide +kernel
theorem dX3_pass_26 : decode cX3_pass 26 = .ok (.i2l, 1) := by decide +kernel
theorem dX3_pass_27 : decode cX3_pass 27 = .ok (.lconst 0, 1) := by decide +kernel
theorem dX3_pass_28 : decode cX3_pass 28 = .ok (.iload_n 3, 1) := by decide +kernel
theorem dX3_pass_29 : decode cX3_pass 29 = .ok (.iconst 1, 1) := by decide +kernel
theorem dX3_pass_30 : decode cX3_pass 30 = .ok (.isub, 1) := by decide +kernel
theorem dX3_pass_31 : decode cX3_pass 31 = .ok (.i2l, 1) := by decide +kernel
theorem dX3_pass_32 : decode cX3_pass 32 = .ok (.invokestatic 53, 3) := by decide +kernel
theorem dX3_pass_35 : decode cX3_pass 35 = .ok (.ifCond .ne 7, 3) := by decide +kernel
theorem dX3_pass_38 : decode cX3_pass 38 = .ok (.iconst 1, 1) := by decide +kernel
theorem dX3_pass_39 : decode cX3_pass 39 = .ok (.goto 29, 3) := by decide +kernel
theorem dX3_pass_42 : decode cX3_pass 42 = .ok (.iload_n 2, 1) := by decide +kernel
theorem dX3_pass_43 : decode cX3_pass 43 = .ok (.ifCond .ge 7, 3) := by decide +kernel
theorem dX3_pass_46 : decode cX3_pass 46 = .ok (.iconst 2, 1) := by decide +kernel
theorem dX3_pass_47 : decode cX3_pass 47 = .ok (.goto 21, 3) := by decide +kernel
theorem dX3_pass_50 : decode cX3_pass 50 = .ok (.aload_n 0, 1) := by decide +kernel
theorem dX3_pass_51 : decode cX3_pass 51 = .ok (.getfield 76, 3) := by decide +kernel
theorem dX3_pass_54 : decode cX3_pass 54 = .ok (.iload 4, 2) := by decide +kernel
theorem dX3_pass_56 : decode cX3_pass 56 = .ok (.iadd, 1) := by decide +kernel
theorem dX3_pass_57 : decode cX3_pass 57 = .ok (.sipush 600, 3) := by decide +kernel
theorem dX3_pass_60 : decode cX3_pass 60 = .ok (.if_icmp .le 7, 3) := by decide +kernel
theorem dX3_pass_63 : decode cX3_pass 63 = .ok (.iconst 3, 1) := by decide +kernel
theorem dX3_pass_64 : decode cX3_pass 64 = .ok (.goto 4, 3) := by decide +kernel
theorem dX3_pass_67 : decode cX3_pass 67 = .ok (.iconst 0, 1) := by decide +kernel
theorem dX3_pass_68 : decode cX3_pass 68 = .ok (.putfield 25, 3) := by decide +kernel
theorem dX3_pass_71 : decode cX3_pass 71 = .ok (.aload_n 0, 1) := by decide +kernel
theorem dX3_pass_72 : decode cX3_pass 72 = .ok (.getfield 25, 3) := by decide +kernel
theorem dX3_pass_75 : decode cX3_pass 75 = .ok (.ifCond .le 5, 3) := by decide +kernel
theorem dX3_pass_78 : decode cX3_pass 78 = .ok (.iconst 0, 1) := by decide +kernel
theorem dX3_pass_79 : decode cX3_pass 79 = .ok (.ireturn, 1) := by decide +kernel
theorem dX3_pass_80 : decode cX3_pass 80 = .ok (.iconst 0, 1) := by decide +kernel
theorem dX3_pass_81 : decode cX3_pass 81 = .ok (.istore 5, 2) := by decide +kernel
theorem dX3_pass_83 : decode cX3_pass 83 = .ok (.iload 5, 2) := by decide +kernel
theorem dX3_pass_85 : decode cX3_pass 85 = .ok (.iload 4, 2) := by decide +kernel
theorem dX3_pass_87 : decode cX3_pass 87 = .ok (.if_icmp .ge 36, 3) := by decide +kernel
theorem dX3_pass_90 : decode cX3_pass 90 = .ok (.aload_n 0, 1) := by decide +kernel
theorem dX3_pass_91 : decode cX3_pass 91 = .ok (.getfield 13, 3) := by decide +kernel
theorem dX3_pass_94 : decode cX3_pass 94 = .ok (.aload_n 0, 1) := by decide +kernel
theorem dX3_pass_95 : decode cX3_pass 95 = .ok (.getfield 76, 3) := by decide +kernel
theorem dX3_pass_98 : decode cX3_pass 98 = .ok (.aload_n 0, 1) := by decide +kernel
theorem dX3_pass_99 : decode cX3_pass 99 = .ok (.iload_n 1, 1) := by decide +kernel
theorem dX3_pass_100 : decode cX3_pass 100 = .ok (.iload 5, 2) := by decide +kernel
theorem dX3_pass_102 : decode cX3_pass 102 = .ok (.iadd, 1) := by decide +kernel
theorem dX3_pass_103 : decode cX3_pass 103 = .ok (.invokevirtual 31, 3) := by decide +kernel
theorem dX3_pass_106 : decode cX3_pass 106 = .ok (.iastore, 1) := by decide +kernel
theorem dX3_pass_107 : decode cX3_pass 107 = .ok (.aload_n 0, 1) := by decide +kernel
end
section
theorem dX3_pass_108 : decode cX3_pass 108 = .ok (.dup, 1) := by decide +kernel
theorem dX3_pass_109 : decode cX3_pass 109 = .ok (.getfield 76, 3) := by decide +kernel
theorem dX3_pass_112 : decode cX3_pass 112 = .ok (.iconst 1, 1) := by decide +kernel
theorem dX3_pass_113 : decode cX3_pass 113 = .ok (.iadd, 1) := by decide +kernel
theorem dX3_pass_114 : decode cX3_pass 114 = .ok (.putfield 76, 3) := by decide +kernel
theorem dX3_pass_117 : decode cX3_pass 117 = .ok (.iinc 5 1, 3) := by decide +kernel
theorem dX3_pass_120 : decode cX3_pass 120 = .ok (.goto (-37), 3) := by decide +kernel
theorem dX3_pass_123 : decode cX3_pass 123 = .ok (.iload 4, 2) := by decide +kernel
theorem dX3_pass_125 : decode cX3_pass 125 = .ok (.ireturn, 1) := by decide +kernel
theorem dX3_get_0 : decode cX3_get 0 = .ok (.aload_n 0, 1) := by decide +kernel
theorem dX3_get_1 : decode cX3_get 1 = .ok (.iload_n 1, 1) := by decide +kernel
theorem dX3_get_2 : decode cX3_get 2 = .ok (.i2l, 1) := by decide +kernel
theorem dX3_get_3 : decode cX3_get 3 = .ok (.lconst 1, 1) := by decide +kernel
theorem dX3_get_4 : decode cX3_get 4 = .ok (.ldc2_w 51, 3) := by decide +kernel
theorem dX3_get_7 : decode cX3_get 7 = .ok (.invokestatic 53, 3) := by decide +kernel
theorem dX3_get_10 : decode cX3_get 10 = .ok (.ifCond .ne 7, 3) := by decide +kernel
theorem dX3_get_13 : decode cX3_get 13 = .ok (.iconst 1, 1) := by decide +kernel
theorem dX3_get_14 : decode cX3_get 14 = .ok (.goto 4, 3) := by decide +kernel
theorem dX3_get_17 : decode cX3_get 17 = .ok (.iconst 0, 1) := by decide +kernel
theorem dX3_get_18 : decode cX3_get 18 = .ok (.putfield 25, 3) := by decide +kernel
theorem dX3_get_21 : decode cX3_get 21 = .ok (.aload_n 0, 1) := by decide +kernel
theorem dX3_get_22 : decode cX3_get 22 = .ok (.getfield 25, 3) := by decide +kernel
theorem dX3_get_25 : decode cX3_get 25 = .ok (.ifCond .le 5, 3) := by decide +kernel
theorem dX3_get_28 : decode cX3_get 28 = .ok (.lconst 0, 1) := by decide +kernel
theorem dX3_get_29 : decode cX3_get 29 = .ok (.lreturn, 1) := by decide +kernel
theorem dX3_get_30 : decode cX3_get 30 = .ok (.aload_n 0, 1) := by decide +kernel
theorem dX3_get_31 : decode cX3_get 31 = .ok (.getfield 112, 3) := by decide +kernel
theorem dX3_get_34 : decode cX3_get 34 = .ok (.ifCond .eq 7, 3) := by decide +kernel
theorem dX3_get_37 : decode cX3_get 37 = .ok (.ldc2_w 115, 3) := by decide +kernel
theorem dX3_get_40 : decode cX3_get 40 = .ok (.lreturn, 1) := by decide +kernel
theorem dX3_get_41 : decode cX3_get 41 = .ok (.aload_n 0, 1) := by decide +kernel
theorem dX3_get_42 : decode cX3_get 42 = .ok (.invokevirtual 117, 3) := by decide +kernel
theorem dX3_get_45 : decode cX3_get 45 = .ok (.lconst 0, 1) := by decide +kernel
theorem dX3_get_46 : decode cX3_get 46 = .ok (.lstore_n 2, 1) := by decide +kernel
theorem dX3_get_47 : decode cX3_get 47 = .ok (.iconst 0, 1) := by decide +kernel
theorem dX3_get_48 : decode cX3_get 48 = .ok (.istore 4, 2) := by decide +kernel
theorem dX3_get_50 : decode cX3_get 50 = .ok (.iload 4, 2) := by decide +kernel
theorem dX3_get_52 : decode cX3_get 52 = .ok (.iload_n 1, 1) := by decide +kernel
theorem dX3_get_53 : decode cX3_get 53 = .ok (.if_icmp .ge 68, 3) := by decide +kernel
theorem dX3_get_56 : decode cX3_get 56 = .ok (.aload_n 0, 1) := by decide +kernel
theorem dX3_get_57 : decode cX3_get 57 = .ok (.invokevirtual 120, 3) := by decide +kernel
theorem dX3_get_60 : decode cX3_get 60 = .ok (.istore 5, 2) := by decide +kernel
theorem dX3_get_62 : decode cX3_get 62 = .ok (.iload 5, 2) := by decide +kernel
theorem dX3_get_64 : decode cX3_get 64 = .ok (.ifCond .ge 23, 3) := by decide +kernel
theorem dX3_get_67 : decode cX3_get 67 = .ok (.aload_n 0, 1) := by decide +kernel
theorem dX3_get_68 : decode cX3_get 68 = .ok (.iload 5, 2) := by decide +kernel
theorem dX3_get_70 : decode cX3_get 70 = .ok (.bipush (-3), 2) := by decide +kernel
theorem dX3_get_72 : decode cX3_get 72 = .ok (.if_icmp .ne 7, 3) := by decide +kernel
theorem dX3_get_75 : decode cX3_get 75 = .ok (.iconst 1, 1) := by decide +kernel
theorem dX3_get_76 : decode cX3_get 76 = .ok (.goto 4, 3) := by decide +kernel
theorem dX3_get_79 : decode cX3_get 79 = .ok (.iconst 0, 1) := by decide +kernel
theorem dX3_get_80 : decode cX3_get 80 = .ok (.putfield 112, 3) := by decide +kernel
theorem dX3_get_83 : decode cX3_get 83 = .ok (.iload 5, 2) := by decide +kernel
theorem dX3_get_85 : decode cX3_get 85 = .ok (.i2l, 1) := by decide +kernel
theorem dX3_get_86 : decode cX3_get 86 = .ok (.lreturn, 1) := by decide +kernel
theorem dX3_get_87 : decode cX3_get 87 = .ok (.aload_n 0, 1) := by decide +kernel
theorem dX3_get_88 : decode cX3_get 88 = .ok (.getfield 21, 3) := by decide +kernel
theorem dX3_get_91 : decode cX3_get 91 = .ok (.ifCond .eq 14, 3) := by decide +kernel
theorem dX3_get_94 : decode cX3_get 94 = .ok (.lload_n 2, 1) := by decide +kernel
theorem dX3_get_95 : decode cX3_get 95 = .ok (.iload 5, 2) := by decide +kernel
theorem dX3_get_97 : decode cX3_get 97 = .ok (.i2l, 1) := by decide +kernel
theorem dX3_get_98 : decode cX3_get 98 = .ok (.iload 4, 2) := by decide +kernel
theorem dX3_get_100 : decode cX3_get 100 = .ok (.lshl, 1) := by decide +kernel
theorem dX3_get_101 : decode cX3_get 101 = .ok (.lor, 1) := by decide +kernel
theorem dX3_get_102 : decode cX3_get 102 = .ok (.goto 12, 3) := by decide +kernel
theorem dX3_get_105 : decode cX3_get 105 = .ok (.ldc2_w 123, 3) := by decide +kernel
theorem dX3_get_108 : decode cX3_get 108 = .ok (.lload_n 2, 1) := by decide +kernel
theorem dX3_get_109 : decode cX3_get 109 = .ok (.lmul, 1) := by decide +kernel
theorem dX3_get_110 : decode cX3_get 110 = .ok (.iload 5, 2) := by decide +kernel
theorem dX3_get_112 : decode cX3_get 112 = .ok (.i2l, 1) := by decide +kernel
theorem dX3_get_113 : decode cX3_get 113 = .ok (.ladd, 1) := by decide +kernel
theorem dX3_get_114 : decode cX3_get 114 = .ok (.lstore_n 2, 1) := by decide +kernel
theorem dX3_get_115 : decode cX3_get 115 = .ok (.iinc 4 1, 3) := by decide +kernel
theorem dX3_get_118 : decode cX3_get 118 = .ok (.goto (-68), 3) := by decide +kernel
theorem dX3_get_121 : decode cX3_get 121 = .ok (.aload_n 0, 1) := by decide +kernel
theorem dX3_get_122 : decode cX3_get 122 = .ok (.invokevirtual 125, 3) := by decide +kernel
theorem dX3_get_125 : decode cX3_get 125 = .ok (.lload_n 2, 1) := by decide +kernel
theorem dX3_get_126 : decode cX3_get 126 = .ok (.lreturn, 1) := by decide +kernel
theorem dX3_beginTry_0 : decode cX3_beginTry 0 = .ok (.aload_n 0, 1) := by decide +kernel
theorem dX3_beginTry_1 : decode cX3_beginTry 1 = .ok (.aload_n 0, 1) := by decide +kernel
theorem dX3_beginTry_2 : decode cX3_beginTry 2 = .ok (.getfield 100, 3) := by decide +kernel
theorem dX3_beginTry_5 : decode cX3_beginTry 5 = .ok (.putfield 79, 3) := by decide +kernel
theorem dX3_beginTry_8 : decode cX3_beginTry 8 = .ok (.aload_n 0, 1) := by decide +kernel
theorem dX3_beginTry_9 : decode cX3_beginTry 9 = .ok (.aload_n 0, 1) := by decide +kernel
theorem dX3_beginTry_10 : decode cX3_beginTry 10 = .ok (.getfield 103, 3) := by decide +kernel
theorem dX3_beginTry_13 : decode cX3_beginTry 13 = .ok (.putfield 91, 3) := by decide +kernel
theorem dX3_beginTry_16 : decode cX3_beginTry 16 = .ok (.aload_n 0, 1) := by decide +kernel
theorem dX3_beginTry_17 : decode cX3_beginTry 17 = .ok (.aload_n 0, 1) := by decide +kernel
theorem dX3_beginTry_18 : decode cX3_beginTry 18 = .ok (.getfield 106, 3) := by decide +kernel
theorem dX3_beginTry_21 : decode cX3_beginTry 21 = .ok (.putfield 97, 3) := by decide +kernel
theorem dX3_beginTry_24 : decode cX3_beginTry 24 = .ok (.aload_n 0, 1) := by decide +kernel
theorem dX3_beginTry_25 : decode cX3_beginTry 25 = .ok (.aload_n 0, 1) := by decide +kernel
theorem dX3_beginTry_26 : decode cX3_beginTry 26 = .ok (.getfield 109, 3) := by decide +kernel
theorem dX3_beginTry_29 : decode cX3_beginTry 29 = .ok (.putfield 82, 3) := by decide +kernel
theorem dX3_beginTry_32 : decode cX3_beginTry 32 = .ok (.return_, 1) := by decide +kernel
theorem dX3_tryBit_0 : decode cX3_tryBit 0 = .ok (.aload_n 0, 1) := by decide +kernel
theorem dX3_tryBit_1 : decode cX3_tryBit 1 = .ok (.invokevirtual 85, 3) := by decide +kernel
theorem dX3_tryBit_4 : decode cX3_tryBit 4 = .ok (.istore_n 1, 1) := by decide +kernel
theorem dX3_tryBit_5 : decode cX3_tryBit 5 = .ok (.iload_n 1, 1) := by decide +kernel
theorem dX3_tryBit_6 : decode cX3_tryBit 6 = .ok (.ifCond .ge 5, 3) := by decide +kernel
theorem dX3_tryBit_9 : decode cX3_tryBit 9 = .ok (.iload_n 1, 1) := by decide +kernel
theorem dX3_tryBit_10 : decode cX3_tryBit 10 = .ok (.ireturn, 1) := by decide +kernel
theorem dX3_tryBit_11 : decode cX3_tryBit 11 = .ok (.aload_n 0, 1) := by decide +kernel
theorem dX3_tryBit_12 : decode cX3_tryBit 12 = .ok (.getfield 79, 3) := by decide +kernel
theorem dX3_tryBit_15 : decode cX3_tryBit 15 = .ok (.bipush 8, 2) := by decide +kernel
theorem dX3_tryBit_17 : decode cX3_tryBit 17 = .ok (.irem, 1) := by decide +kernel
theorem dX3_tryBit_18 : decode cX3_tryBit 18 = .ok (.ifCond .ne 7, 3) := by decide +kernel
theorem dX3_tryBit_21 : decode cX3_tryBit 21 = .ok (.iconst 1, 1) := by decide +kernel
theorem dX3_tryBit_22 : decode cX3_tryBit 22 = .ok (.goto 4, 3) := by decide +kernel
theorem dX3_tryBit_25 : decode cX3_tryBit 25 = .ok (.iconst 0, 1) := by decide +kernel
theorem dX3_tryBit_26 : decode cX3_tryBit 26 = .ok (.istore_n 2, 1) := by decide +kernel
theorem dX3_tryBit_27 : decode cX3_tryBit 27 = .ok (.aload_n 0, 1) := by decide +kernel
theorem dX3_tryBit_28 : decode cX3_tryBit 28 = .ok (.getfield 17, 3) := by decide +kernel
theorem dX3_tryBit_31 : decode cX3_tryBit 31 = .ok (.iconst 1, 1) := by decide +kernel
theorem dX3_tryBit_32 : decode cX3_tryBit 32 = .ok (.if_icmp .ne 50, 3) := by decide +kernel
theorem dX3_tryBit_35 : decode cX3_tryBit 35 = .ok (.aload_n 0, 1) := by decide +kernel
theorem dX3_tryBit_36 : decode cX3_tryBit 36 = .ok (.getfield 21, 3) := by decide +kernel
theorem dX3_tryBit_39 : decode cX3_tryBit 39 = .ok (.ifCond .ne 43, 3) := by decide +kernel
theorem dX3_tryBit_42 : decode cX3_tryBit 42 = .ok (.aload_n 0, 1) := by decide +kernel
theorem dX3_tryBit_43 : decode cX3_tryBit 43 = .ok (.getfield 82, 3) := by decide +kernel
theorem dX3_tryBit_46 : decode cX3_tryBit 46 = .ok (.ifCond .eq 36, 3) := by decide +kernel
theorem dX3_tryBit_49 : decode cX3_tryBit 49 = .ok (.iload_n 2, 1) := by decide +kernel
theorem dX3_tryBit_50 : decode cX3_tryBit 50 = .ok (.ifCond .eq 32, 3) := by decide +kernel
theorem dX3_tryBit_53 : decode cX3_tryBit 53 = .ok (.aload_n 0, 1) := by decide +kernel
theorem dX3_tryBit_54 : decode cX3_tryBit 54 = .ok (.aload_n 0, 1) := by decide +kernel
theorem dX3_tryBit_55 : decode cX3_tryBit 55 = .ok (.getfield 79, 3) := by decide +kernel
theorem dX3_tryBit_58 : decode cX3_tryBit 58 = .ok (.invokevirtual 88, 3) := by decide +kernel
theorem dX3_tryBit_61 : decode cX3_tryBit 61 = .ok (.iconst 1, 1) := by decide +kernel
theorem dX3_tryBit_62 : decode cX3_tryBit 62 = .ok (.if_icmp .ne 6, 3) := by decide +kernel
theorem dX3_tryBit_65 : decode cX3_tryBit 65 = .ok (.bipush (-3), 2) := by decide +kernel
theorem dX3_tryBit_67 : decode cX3_tryBit 67 = .ok (.ireturn, 1) := by decide +kernel
theorem dX3_tryBit_68 : decode cX3_tryBit 68 = .ok (.aload_n 0, 1) := by decide +kernel
theorem dX3_tryBit_69 : decode cX3_tryBit 69 = .ok (.dup, 1) := by decide +kernel
theorem dX3_tryBit_70 : decode cX3_tryBit 70 = .ok (.getfield 91, 3) := by decide +kernel
theorem dX3_tryBit_73 : decode cX3_tryBit 73 = .ok (.iconst 1, 1) := by decide +kernel
theorem dX3_tryBit_74 : decode cX3_tryBit 74 = .ok (.iadd, 1) := by decide +kernel
theorem dX3_tryBit_75 : decode cX3_tryBit 75 = .ok (.putfield 91, 3) := by decide +kernel
theorem dX3_tryBit_78 : decode cX3_tryBit 78 = .ok (.aload_n 0, 1) := by decide +kernel
theorem dX3_tryBit_79 : decode cX3_tryBit 79 = .ok (.invokevirtual 94, 3) := by decide +kernel
theorem dX3_tryBit_82 : decode cX3_tryBit 82 = .ok (.aload_n 0, 1) := by decide +kernel
theorem dX3_tryBit_83 : decode cX3_tryBit 83 = .ok (.aload_n 0, 1) := by decide +kernel
theorem dX3_tryBit_84 : decode cX3_tryBit 84 = .ok (.getfield 79, 3) := by decide +kernel
theorem dX3_tryBit_87 : decode cX3_tryBit 87 = .ok (.invokevirtual 88, 3) := by decide +kernel
theorem dX3_tryBit_90 : decode cX3_tryBit 90 = .ok (.istore_n 3, 1) := by decide +kernel
theorem dX3_tryBit_91 : decode cX3_tryBit 91 = .ok (.aload_n 0, 1) := by decide +kernel
theorem dX3_tryBit_92 : decode cX3_tryBit 92 = .ok (.getfield 17, 3) := by decide +kernel
theorem dX3_tryBit_95 : decode cX3_tryBit 95 = .ok (.iconst 1, 1) := by decide +kernel
theorem dX3_tryBit_96 : decode cX3_tryBit 96 = .ok (.if_icmp .ne 33, 3) := by decide +kernel
theorem dX3_tryBit_99 : decode cX3_tryBit 99 = .ok (.aload_n 0, 1) := by decide +kernel
theorem dX3_tryBit_100 : decode cX3_tryBit 100 = .ok (.getfield 21, 3) := by decide +kernel
theorem dX3_tryBit_103 : decode cX3_tryBit 103 = .ok (.ifCond .eq 26, 3) := by decide +kernel
theorem dX3_tryBit_106 : decode cX3_tryBit 106 = .ok (.aload_n 0, 1) := by decide +kernel
theorem dX3_tryBit_107 : decode cX3_tryBit 107 = .ok (.getfield 82, 3) := by decide +kernel
theorem dX3_tryBit_110 : decode cX3_tryBit 110 = .ok (.ifCond .eq 19, 3) := by decide +kernel
theorem dX3_tryBit_113 : decode cX3_tryBit 113 = .ok (.aload_n 0, 1) := by decide +kernel
theorem dX3_tryBit_114 : decode cX3_tryBit 114 = .ok (.getfield 79, 3) := by decide +kernel
theorem dX3_tryBit_117 : decode cX3_tryBit 117 = .ok (.bipush 8, 2) := by decide +kernel
theorem dX3_tryBit_119 : decode cX3_tryBit 119 = .ok (.irem, 1) := by decide +kernel
theorem dX3_tryBit_120 : decode cX3_tryBit 120 = .ok (.bipush 6, 2) := by decide +kernel
theorem dX3_tryBit_122 : decode cX3_tryBit 122 = .ok (.if_icmp .ne 7, 3) := by decide +kernel
theorem dX3_tryBit_125 : decode cX3_tryBit 125 = .ok (.iconst 1, 1) := by decide +kernel
theorem dX3_tryBit_126 : decode cX3_tryBit 126 = .ok (.goto 4, 3) := by decide +kernel
theorem dX3_tryBit_129 : decode cX3_tryBit 129 = .ok (.iconst 0, 1) := by decide +kernel
theorem dX3_tryBit_130 : decode cX3_tryBit 130 = .ok (.istore 4, 2) := by decide +kernel
theorem dX3_tryBit_132 : decode cX3_tryBit 132 = .ok (.aload_n 0, 1) := by decide +kernel
theorem dX3_tryBit_133 : decode cX3_tryBit 133 = .ok (.invokevirtual 94, 3) := by decide +kernel
theorem dX3_tryBit_136 : decode cX3_tryBit 136 = .ok (.aload_n 0, 1) := by decide +kernel
theorem dX3_tryBit_137 : decode cX3_tryBit 137 = .ok (.iload_n 3, 1) := by decide +kernel
theorem dX3_tryBit_138 : decode cX3_tryBit 138 = .ok (.iconst 1, 1) := by decide +kernel
theorem dX3_tryBit_139 : decode cX3_tryBit 139 = .ok (.if_icmp .ne 12, 3) := by decide +kernel
theorem dX3_tryBit_142 : decode cX3_tryBit 142 = .ok (.aload_n 0, 1) := by decide +kernel
theorem dX3_tryBit_143 : decode cX3_tryBit 143 = .ok (.getfield 97, 3) := by decide +kernel
theorem dX3_tryBit_146 : decode cX3_tryBit 146 = .ok (.iconst 1, 1) := by decide +kernel
theorem dX3_tryBit_147 : decode cX3_tryBit 147 = .ok (.iadd, 1) := by decide +kernel
theorem dX3_tryBit_148 : decode cX3_tryBit 148 = .ok (.goto 4, 3) := by decide +kernel
theorem dX3_tryBit_151 : decode cX3_tryBit 151 = .ok (.iconst 0, 1) := by decide +kernel
theorem dX3_tryBit_152 : decode cX3_tryBit 152 = .ok (.putfield 97, 3) := by decide +kernel
theorem dX3_tryBit_155 : decode cX3_tryBit 155 = .ok (.aload_n 0, 1) := by decide +kernel
theorem dX3_tryBit_156 : decode cX3_tryBit 156 = .ok (.getfield 17, 3) := by decide +kernel
theorem dX3_tryBit_159 : decode cX3_tryBit 159 = .ok (.iconst 1, 1) := by decide +kernel
theorem dX3_tryBit_160 : decode cX3_tryBit 160 = .ok (.if_icmp .le 18, 3) := by decide +kernel
theorem dX3_tryBit_163 : decode cX3_tryBit 163 = .ok (.aload_n 0, 1) := by decide +kernel
theorem dX3_tryBit_164 : decode cX3_tryBit 164 = .ok (.getfield 97, 3) := by decide +kernel
theorem dX3_tryBit_167 : decode cX3_tryBit 167 = .ok (.aload_n 0, 1) := by decide +kernel
theorem dX3_tryBit_168 : decode cX3_tryBit 168 = .ok (.getfield 17, 3) := by decide +kernel
theorem dX3_tryBit_171 : decode cX3_tryBit 171 = .ok (.if_icmp .ne 7, 3) := by decide +kernel
theorem dX3_tryBit_174 : decode cX3_tryBit 174 = .ok (.iconst 1, 1) := by decide +kernel
theorem dX3_tryBit_175 : decode cX3_tryBit 175 = .ok (.goto 4, 3) := by decide +kernel
theorem dX3_tryBit_178 : decode cX3_tryBit 178 = .ok (.iconst 0, 1) := by decide +kernel
theorem dX3_tryBit_179 : decode cX3_tryBit 179 = .ok (.istore 5, 2) := by decide +kernel
theorem dX3_tryBit_181 : decode cX3_tryBit 181 = .ok (.iload 4, 2) := by decide +kernel
theorem dX3_tryBit_183 : decode cX3_tryBit 183 = .ok (.ifCond .ne 8, 3) := by decide +kernel
theorem dX3_tryBit_186 : decode cX3_tryBit 186 = .ok (.iload 5, 2) := by decide +kernel
theorem dX3_tryBit_188 : decode cX3_tryBit 188 = .ok (.ifCond .eq 53, 3) := by decide +kernel
theorem dX3_tryBit_191 : decode cX3_tryBit 191 = .ok (.aload_n 0, 1) := by decide +kernel
theorem dX3_tryBit_192 : decode cX3_tryBit 192 = .ok (.getfield 79, 3) := by decide +kernel
theorem dX3_tryBit_195 : decode cX3_tryBit 195 = .ok (.bipush 8, 2) := by decide +kernel
theorem dX3_tryBit_197 : decode cX3_tryBit 197 = .ok (.idiv, 1) := by decide +kernel
theorem dX3_tryBit_198 : decode cX3_tryBit 198 = .ok (.aload_n 0, 1) := by decide +kernel
theorem dX3_tryBit_199 : decode cX3_tryBit 199 = .ok (.getfield 76, 3) := by decide +kernel
theorem dX3_tryBit_202 : decode cX3_tryBit 202 = .ok (.if_icmp .lt 5, 3) := by decide +kernel
theorem dX3_tryBit_205 : decode cX3_tryBit 205 = .ok (.iconst (-1), 1) := by decide +kernel
theorem dX3_tryBit_206 : decode cX3_tryBit 206 = .ok (.ireturn, 1) := by decide +kernel
theorem dX3_tryBit_207 : decode cX3_tryBit 207 = .ok (.aload_n 0, 1) := by decide +kernel
theorem dX3_tryBit_208 : decode cX3_tryBit 208 = .ok (.aload_n 0, 1) := by decide +kernel
theorem dX3_tryBit_209 : decode cX3_tryBit 209 = .ok (.getfield 79, 3) := by decide +kernel
theorem dX3_tryBit_212 : decode cX3_tryBit 212 = .ok (.invokevirtual 88, 3) := by decide +kernel
theorem dX3_tryBit_215 : decode cX3_tryBit 215 = .ok (.iconst 1, 1) := by decide +kernel
theorem dX3_tryBit_216 : decode cX3_tryBit 216 = .ok (.if_icmp .ne 6, 3) := by decide +kernel
theorem dX3_tryBit_219 : decode cX3_tryBit 219 = .ok (.bipush (-3), 2) := by decide +kernel
theorem dX3_tryBit_221 : decode cX3_tryBit 221 = .ok (.ireturn, 1) := by decide +kernel
theorem dX3_tryBit_222 : decode cX3_tryBit 222 = .ok (.aload_n 0, 1) := by decide +kernel
theorem dX3_tryBit_223 : decode cX3_tryBit 223 = .ok (.dup, 1) := by decide +kernel
theorem dX3_tryBit_224 : decode cX3_tryBit 224 = .ok (.getfield 91, 3) := by decide +kernel
theorem dX3_tryBit_227 : decode cX3_tryBit 227 = .ok (.iconst 1, 1) := by decide +kernel
theorem dX3_tryBit_228 : decode cX3_tryBit 228 = .ok (.iadd, 1) := by decide +kernel
theorem dX3_tryBit_229 : decode cX3_tryBit 229 = .ok (.putfield 91, 3) := by decide +kernel
theorem dX3_tryBit_232 : decode cX3_tryBit 232 = .ok (.aload_n 0, 1) := by decide +kernel
theorem dX3_tryBit_233 : decode cX3_tryBit 233 = .ok (.iconst 0, 1) := by decide +kernel
theorem dX3_tryBit_234 : decode cX3_tryBit 234 = .ok (.putfield 97, 3) := by decide +kernel
theorem dX3_tryBit_237 : decode cX3_tryBit 237 = .ok (.aload_n 0, 1) := by decide +kernel
theorem dX3_tryBit_238 : decode cX3_tryBit 238 = .ok (.invokevirtual 94, 3) := by decide +kernel
theorem dX3_tryBit_241 : decode cX3_tryBit 241 = .ok (.iload_n 3, 1) := by decide +kernel
theorem dX3_tryBit_242 : decode cX3_tryBit 242 = .ok (.ireturn, 1) := by decide +kernel
theorem dX3_obstacle_0 : decode cX3_obstacle 0 = .ok (.aload_n 0, 1) := by decide +kernel
theorem dX3_obstacle_1 : decode cX3_obstacle 1 = .ok (.getfield 79, 3) := by decide +kernel
theorem dX3_obstacle_4 : decode cX3_obstacle 4 = .ok (.bipush 8, 2) := by decide +kernel
theorem dX3_obstacle_6 : decode cX3_obstacle 6 = .ok (.idiv, 1) := by decide +kernel
theorem dX3_obstacle_7 : decode cX3_obstacle 7 = .ok (.istore_n 1, 1) := by decide +kernel
theorem dX3_obstacle_8 : decode cX3_obstacle 8 = .ok (.iload_n 1, 1) := by decide +kernel
theorem dX3_obstacle_9 : decode cX3_obstacle 9 = .ok (.aload_n 0, 1) := by decide +kernel
theorem dX3_obstacle_10 : decode cX3_obstacle 10 = .ok (.getfield 76, 3) := by decide +kernel
theorem dX3_obstacle_13 : decode cX3_obstacle 13 = .ok (.if_icmp .lt 5, 3) := by decide +kernel
theorem dX3_obstacle_16 : decode cX3_obstacle 16 = .ok (.iconst (-1), 1) := by decide +kernel
theorem dX3_obstacle_17 : decode cX3_obstacle 17 = .ok (.ireturn, 1) := by decide +kernel
theorem dX3_obstacle_18 : decode cX3_obstacle 18 = .ok (.aload_n 0, 1) := by decide +kernel
theorem dX3_obstacle_19 : decode cX3_obstacle 19 = .ok (.getfield 17, 3) := by decide +kernel
theorem dX3_obstacle_22 : decode cX3_obstacle 22 = .ok (.iconst 1, 1) := by decide +kernel
theorem dX3_obstacle_23 : decode cX3_obstacle 23 = .ok (.if_icmp .ne 59, 3) := by decide +kernel
theorem dX3_obstacle_26 : decode cX3_obstacle 26 = .ok (.aload_n 0, 1) := by decide +kernel
theorem dX3_obstacle_27 : decode cX3_obstacle 27 = .ok (.getfield 79, 3) := by decide +kernel
theorem dX3_obstacle_30 : decode cX3_obstacle 30 = .ok (.bipush 8, 2) := by decide +kernel
theorem dX3_obstacle_32 : decode cX3_obstacle 32 = .ok (.irem, 1) := by decide +kernel
theorem dX3_obstacle_33 : decode cX3_obstacle 33 = .ok (.ifCond .ne 49, 3) := by decide +kernel
theorem dX3_obstacle_36 : decode cX3_obstacle 36 = .ok (.aload_n 0, 1) := by decide +kernel
theorem dX3_obstacle_37 : decode cX3_obstacle 37 = .ok (.getfield 13, 3) := by decide +kernel
theorem dX3_obstacle_40 : decode cX3_obstacle 40 = .ok (.iload_n 1, 1) := by decide +kernel
theorem dX3_obstacle_41 : decode cX3_obstacle 41 = .ok (.iaload, 1) := by decide +kernel
theorem dX3_obstacle_42 : decode cX3_obstacle 42 = .ok (.sipush 255, 3) := by decide +kernel
theorem dX3_obstacle_45 : decode cX3_obstacle 45 = .ok (.if_icmp .ne 37, 3) := by decide +kernel
theorem dX3_obstacle_48 : decode cX3_obstacle 48 = .ok (.iload_n 1, 1) := by decide +kernel
theorem dX3_obstacle_49 : decode cX3_obstacle 49 = .ok (.iconst 1, 1) := by decide +kernel
theorem dX3_obstacle_50 : decode cX3_obstacle 50 = .ok (.iadd, 1) := by decide +kernel
theorem dX3_obstacle_51 : decode cX3_obstacle 51 = .ok (.aload_n 0, 1) := by decide +kernel
theorem dX3_obstacle_52 : decode cX3_obstacle 52 = .ok (.getfield 76, 3) := by decide +kernel
theorem dX3_obstacle_55 : decode cX3_obstacle 55 = .ok (.if_icmp .lt 7, 3) := by decide +kernel
theorem dX3_obstacle_58 : decode cX3_obstacle 58 = .ok (.iconst (-1), 1) := by decide +kernel
theorem dX3_obstacle_59 : decode cX3_obstacle 59 = .ok (.goto 22, 3) := by decide +kernel
theorem dX3_obstacle_62 : decode cX3_obstacle 62 = .ok (.aload_n 0, 1) := by decide +kernel
theorem dX3_obstacle_63 : decode cX3_obstacle 63 = .ok (.getfield 13, 3) := by decide +kernel
theorem dX3_obstacle_66 : decode cX3_obstacle 66 = .ok (.iload_n 1, 1) := by decide +kernel
theorem dX3_obstacle_67 : decode cX3_obstacle 67 = .ok (.iconst 1, 1) := by decide +kernel
theorem dX3_obstacle_68 : decode cX3_obstacle 68 = .ok (.iadd, 1) := by decide +kernel
theorem dX3_obstacle_69 : decode cX3_obstacle 69 = .ok (.iaload, 1) := by decide +kernel
theorem dX3_obstacle_70 : decode cX3_obstacle 70 = .ok (.bipush 127, 2) := by decide +kernel
theorem dX3_obstacle_72 : decode cX3_obstacle 72 = .ok (.if_icmp .le 8, 3) := by decide +kernel
theorem dX3_obstacle_75 : decode cX3_obstacle 75 = .ok (.bipush (-2), 2) := by decide +kernel
theorem dX3_obstacle_77 : decode cX3_obstacle 77 = .ok (.goto 4, 3) := by decide +kernel
theorem dX3_obstacle_80 : decode cX3_obstacle 80 = .ok (.iconst 0, 1) := by decide +kernel
theorem dX3_obstacle_81 : decode cX3_obstacle 81 = .ok (.ireturn, 1) := by decide +kernel
theorem dX3_obstacle_82 : decode cX3_obstacle 82 = .ok (.iconst 0, 1) := by decide +kernel
theorem dX3_obstacle_83 : decode cX3_obstacle 83 = .ok (.ireturn, 1) := by decide +kernel
theorem dX3_bitAt_0 : decode cX3_bitAt 0 = .ok (.aload_n 0, 1) := by decide +kernel
theorem dX3_bitAt_1 : decode cX3_bitAt 1 = .ok (.getfield 13, 3) := by decide +kernel
theorem dX3_bitAt_4 : decode cX3_bitAt 4 = .ok (.iload_n 1, 1) := by decide +kernel
theorem dX3_bitAt_5 : decode cX3_bitAt 5 = .ok (.bipush 8, 2) := by decide +kernel
theorem dX3_bitAt_7 : decode cX3_bitAt 7 = .ok (.idiv, 1) := by decide +kernel
theorem dX3_bitAt_8 : decode cX3_bitAt 8 = .ok (.iaload, 1) := by decide +kernel
theorem dX3_bitAt_9 : decode cX3_bitAt 9 = .ok (.istore_n 2, 1) := by decide +kernel
theorem dX3_bitAt_10 : decode cX3_bitAt 10 = .ok (.aload_n 0, 1) := by decide +kernel
theorem dX3_bitAt_11 : decode cX3_bitAt 11 = .ok (.getfield 21, 3) := by decide +kernel
theorem dX3_bitAt_14 : decode cX3_bitAt 14 = .ok (.ifCond .eq 14, 3) := by decide +kernel
theorem dX3_bitAt_17 : decode cX3_bitAt 17 = .ok (.iload_n 2, 1) := by decide +kernel
theorem dX3_bitAt_18 : decode cX3_bitAt 18 = .ok (.iload_n 1, 1) := by decide +kernel
theorem dX3_bitAt_19 : decode cX3_bitAt 19 = .ok (.bipush 8, 2) := by decide +kernel
theorem dX3_bitAt_21 : decode cX3_bitAt 21 = .ok (.irem, 1) := by decide +kernel
theorem dX3_bitAt_22 : decode cX3_bitAt 22 = .ok (.ishr, 1) := by decide +kernel
theorem dX3_bitAt_23 : decode cX3_bitAt 23 = .ok (.iconst 1, 1) := by decide +kernel
theorem dX3_bitAt_24 : decode cX3_bitAt 24 = .ok (.iand, 1) := by decide +kernel
theorem dX3_bitAt_25 : decode cX3_bitAt 25 = .ok (.goto 14, 3) := by decide +kernel
theorem dX3_bitAt_28 : decode cX3_bitAt 28 = .ok (.iload_n 2, 1) := by decide +kernel
theorem dX3_bitAt_29 : decode cX3_bitAt 29 = .ok (.bipush 7, 2) := by decide +kernel
theorem dX3_bitAt_31 : decode cX3_bitAt 31 = .ok (.iload_n 1, 1) := by decide +kernel
theorem dX3_bitAt_32 : decode cX3_bitAt 32 = .ok (.bipush 8, 2) := by decide +kernel
theorem dX3_bitAt_34 : decode cX3_bitAt 34 = .ok (.irem, 1) := by decide +kernel
theorem dX3_bitAt_35 : decode cX3_bitAt 35 = .ok (.isub, 1) := by decide +kernel
theorem dX3_bitAt_36 : decode cX3_bitAt 36 = .ok (.ishr, 1) := by decide +kernel
theorem dX3_bitAt_37 : decode cX3_bitAt 37 = .ok (.iconst 1, 1) := by decide +kernel
theorem dX3_bitAt_38 : decode cX3_bitAt 38 = .ok (.iand, 1) := by decide +kernel
theorem dX3_bitAt_39 : decode cX3_bitAt 39 = .ok (.ireturn, 1) := by decide +kernel
theorem dX3_goOn_0 : decode cX3_goOn 0 = .ok (.aload_n 0, 1) := by decide +kernel
theorem dX3_goOn_1 : decode cX3_goOn 1 = .ok (.dup, 1) := by decide +kernel
theorem dX3_goOn_2 : decode cX3_goOn 2 = .ok (.getfield 79, 3) := by decide +kernel
theorem dX3_goOn_5 : decode cX3_goOn 5 = .ok (.iconst 1, 1) := by decide +kernel
theorem dX3_goOn_6 : decode cX3_goOn 6 = .ok (.iadd, 1) := by decide +kernel
theorem dX3_goOn_7 : decode cX3_goOn 7 = .ok (.putfield 79, 3) := by decide +kernel
theorem dX3_goOn_10 : decode cX3_goOn 10 = .ok (.aload_n 0, 1) := by decide +kernel
theorem dX3_goOn_11 : decode cX3_goOn 11 = .ok (.getfield 79, 3) := by decide +kernel
theorem dX3_goOn_14 : decode cX3_goOn 14 = .ok (.bipush 8, 2) := by decide +kernel
theorem dX3_goOn_16 : decode cX3_goOn 16 = .ok (.irem, 1) := by decide +kernel
theorem dX3_goOn_17 : decode cX3_goOn 17 = .ok (.ifCond .ne 32, 3) := by decide +kernel
theorem dX3_goOn_20 : decode cX3_goOn 20 = .ok (.aload_n 0, 1) := by decide +kernel
theorem dX3_goOn_21 : decode cX3_goOn 21 = .ok (.aload_n 0, 1) := by decide +kernel
theorem dX3_goOn_22 : decode cX3_goOn 22 = .ok (.getfield 13, 3) := by decide +kernel
theorem dX3_goOn_25 : decode cX3_goOn 25 = .ok (.aload_n 0, 1) := by decide +kernel
theorem dX3_goOn_26 : decode cX3_goOn 26 = .ok (.getfield 79, 3) := by decide +kernel
theorem dX3_goOn_29 : decode cX3_goOn 29 = .ok (.bipush 8, 2) := by decide +kernel
theorem dX3_goOn_31 : decode cX3_goOn 31 = .ok (.idiv, 1) := by decide +kernel
theorem dX3_goOn_32 : decode cX3_goOn 32 = .ok (.iconst 1, 1) := by decide +kernel
theorem dX3_goOn_33 : decode cX3_goOn 33 = .ok (.isub, 1) := by decide +kernel
theorem dX3_goOn_34 : decode cX3_goOn 34 = .ok (.iaload, 1) := by decide +kernel
theorem dX3_goOn_35 : decode cX3_goOn 35 = .ok (.sipush 255, 3) := by decide +kernel
theorem dX3_goOn_38 : decode cX3_goOn 38 = .ok (.if_icmp .ne 7, 3) := by decide +kernel
theorem dX3_goOn_41 : decode cX3_goOn 41 = .ok (.iconst 1, 1) := by decide +kernel
theorem dX3_goOn_42 : decode cX3_goOn 42 = .ok (.goto 4, 3) := by decide +kernel
theorem dX3_goOn_45 : decode cX3_goOn 45 = .ok (.iconst 0, 1) := by decide +kernel
theorem dX3_goOn_46 : decode cX3_goOn 46 = .ok (.putfield 82, 3) := by decide +kernel
theorem dX3_goOn_49 : decode cX3_goOn 49 = .ok (.return_, 1) := by decide +kernel
theorem dX3_keepTry_0 : decode cX3_keepTry 0 = .ok (.aload_n 0, 1) := by decide +kernel
theorem dX3_keepTry_1 : decode cX3_keepTry 1 = .ok (.aload_n 0, 1) := by decide +kernel
theorem dX3_keepTry_2 : decode cX3_keepTry 2 = .ok (.getfield 79, 3) := by decide +kernel
theorem dX3_keepTry_5 : decode cX3_keepTry 5 = .ok (.putfield 100, 3) := by decide +kernel
theorem dX3_keepTry_8 : decode cX3_keepTry 8 = .ok (.aload_n 0, 1) := by decide +kernel
theorem dX3_keepTry_9 : decode cX3_keepTry 9 = .ok (.aload_n 0, 1) := by decide +kernel
theorem dX3_keepTry_10 : decode cX3_keepTry 10 = .ok (.getfield 91, 3) := by decide +kernel
theorem dX3_keepTry_13 : decode cX3_keepTry 13 = .ok (.putfield 103, 3) := by decide +kernel
theorem dX3_keepTry_16 : decode cX3_keepTry 16 = .ok (.aload_n 0, 1) := by decide +kernel
theorem dX3_keepTry_17 : decode cX3_keepTry 17 = .ok (.aload_n 0, 1) := by decide +kernel
theorem dX3_keepTry_18 : decode cX3_keepTry 18 = .ok (.getfield 97, 3) := by decide +kernel
theorem dX3_keepTry_21 : decode cX3_keepTry 21 = .ok (.putfield 106, 3) := by decide +kernel
theorem dX3_keepTry_24 : decode cX3_keepTry 24 = .ok (.aload_n 0, 1) := by decide +kernel
theorem dX3_keepTry_25 : decode cX3_keepTry 25 = .ok (.aload_n 0, 1) := by decide +kernel
theorem dX3_keepTry_26 : decode cX3_keepTry 26 = .ok (.getfield 82, 3) := by decide +kernel
theorem dX3_keepTry_29 : decode cX3_keepTry 29 = .ok (.putfield 109, 3) := by decide +kernel
theorem dX3_keepTry_32 : decode cX3_keepTry 32 = .ok (.return_, 1) := by decide +kernel
theorem dX3_skip_0 : decode cX3_skip 0 = .ok (.aload_n 0, 1) := by decide +kernel
theorem dX3_skip_1 : decode cX3_skip 1 = .ok (.iconst 0, 1) := by decide +kernel
theorem dX3_skip_2 : decode cX3_skip 2 = .ok (.putfield 25, 3) := by decide +kernel
theorem dX3_skip_5 : decode cX3_skip 5 = .ok (.aload_n 0, 1) := by decide +kernel
theorem dX3_skip_6 : decode cX3_skip 6 = .ok (.getfield 112, 3) := by decide +kernel
theorem dX3_skip_9 : decode cX3_skip 9 = .ok (.ifCond .eq 5, 3) := by decide +kernel
theorem dX3_skip_12 : decode cX3_skip 12 = .ok (.iconst 0, 1) := by decide +kernel
theorem dX3_skip_13 : decode cX3_skip 13 = .ok (.ireturn, 1) := by decide +kernel
theorem dX3_skip_14 : decode cX3_skip 14 = .ok (.aload_n 0, 1) := by decide +kernel
theorem dX3_skip_15 : decode cX3_skip 15 = .ok (.invokevirtual 117, 3) := by decide +kernel
theorem dX3_skip_18 : decode cX3_skip 18 = .ok (.iconst 0, 1) := by decide +kernel
theorem dX3_skip_19 : decode cX3_skip 19 = .ok (.istore_n 1, 1) := by decide +kernel
theorem dX3_skip_20 : decode cX3_skip 20 = .ok (.aload_n 0, 1) := by decide +kernel
theorem dX3_skip_21 : decode cX3_skip 21 = .ok (.getfield 79, 3) := by decide +kernel
theorem dX3_skip_24 : decode cX3_skip 24 = .ok (.bipush 8, 2) := by decide +kernel
theorem dX3_skip_26 : decode cX3_skip 26 = .ok (.irem, 1) := by decide +kernel
theorem dX3_skip_27 : decode cX3_skip 27 = .ok (.ifCond .ne 18, 3) := by decide +kernel
theorem dX3_skip_30 : decode cX3_skip 30 = .ok (.aload_n 0, 1) := by decide +kernel
theorem dX3_skip_31 : decode cX3_skip 31 = .ok (.getfield 17, 3) := by decide +kernel
theorem dX3_skip_34 : decode cX3_skip 34 = .ok (.iconst 1, 1) := by decide +kernel
theorem dX3_skip_35 : decode cX3_skip 35 = .ok (.if_icmp .ne 157, 3) := by decide +kernel
theorem dX3_skip_38 : decode cX3_skip 38 = .ok (.aload_n 0, 1) := by decide +kernel
theorem dX3_skip_39 : decode cX3_skip 39 = .ok (.getfield 82, 3) := by decide +kernel
theorem dX3_skip_42 : decode cX3_skip 42 = .ok (.ifCond .eq 150, 3) := by decide +kernel
theorem dX3_skip_45 : decode cX3_skip 45 = .ok (.aload_n 0, 1) := by decide +kernel
theorem dX3_skip_46 : decode cX3_skip 46 = .ok (.getfield 17, 3) := by decide +kernel
theorem dX3_skip_49 : decode cX3_skip 49 = .ok (.iconst 1, 1) := by decide +kernel
theorem dX3_skip_50 : decode cX3_skip 50 = .ok (.if_icmp .ne 37, 3) := by decide +kernel
theorem dX3_skip_53 : decode cX3_skip 53 = .ok (.aload_n 0, 1) := by decide +kernel
theorem dX3_skip_54 : decode cX3_skip 54 = .ok (.getfield 82, 3) := by decide +kernel
theorem dX3_skip_57 : decode cX3_skip 57 = .ok (.ifCond .eq 30, 3) := by decide +kernel
theorem dX3_skip_60 : decode cX3_skip 60 = .ok (.aload_n 0, 1) := by decide +kernel
theorem dX3_skip_61 : decode cX3_skip 61 = .ok (.getfield 79, 3) := by decide +kernel
theorem dX3_skip_64 : decode cX3_skip 64 = .ok (.bipush 8, 2) := by decide +kernel
theorem dX3_skip_66 : decode cX3_skip 66 = .ok (.irem, 1) := by decide +kernel
theorem dX3_skip_67 : decode cX3_skip 67 = .ok (.aload_n 0, 1) := by decide +kernel
theorem dX3_skip_68 : decode cX3_skip 68 = .ok (.getfield 21, 3) := by decide +kernel
theorem dX3_skip_71 : decode cX3_skip 71 = .ok (.ifCond .eq 8, 3) := by decide +kernel
theorem dX3_skip_74 : decode cX3_skip 74 = .ok (.bipush 7, 2) := by decide +kernel
theorem dX3_skip_76 : decode cX3_skip 76 = .ok (.goto 4, 3) := by decide +kernel
theorem dX3_skip_79 : decode cX3_skip 79 = .ok (.iconst 0, 1) := by decide +kernel
theorem dX3_skip_80 : decode cX3_skip 80 = .ok (.if_icmp .ne 7, 3) := by decide +kernel
theorem dX3_skip_83 : decode cX3_skip 83 = .ok (.iconst 1, 1) := by decide +kernel
theorem dX3_skip_84 : decode cX3_skip 84 = .ok (.goto 4, 3) := by decide +kernel
theorem dX3_skip_87 : decode cX3_skip 87 = .ok (.iconst 0, 1) := by decide +kernel
theorem dX3_skip_88 : decode cX3_skip 88 = .ok (.istore_n 2, 1) := by decide +kernel
theorem dX3_skip_89 : decode cX3_skip 89 = .ok (.aload_n 0, 1) := by decide +kernel
theorem dX3_skip_90 : decode cX3_skip 90 = .ok (.aload_n 0, 1) := by decide +kernel
theorem dX3_skip_91 : decode cX3_skip 91 = .ok (.getfield 79, 3) := by decide +kernel
theorem dX3_skip_94 : decode cX3_skip 94 = .ok (.invokevirtual 88, 3) := by decide +kernel
theorem dX3_skip_97 : decode cX3_skip 97 = .ok (.istore_n 3, 1) := by decide +kernel
theorem dX3_skip_98 : decode cX3_skip 98 = .ok (.aload_n 0, 1) := by decide +kernel
theorem dX3_skip_99 : decode cX3_skip 99 = .ok (.invokevirtual 94, 3) := by decide +kernel
theorem dX3_skip_102 : decode cX3_skip 102 = .ok (.iload_n 2, 1) := by decide +kernel
theorem dX3_skip_103 : decode cX3_skip 103 = .ok (.ifCond .eq 16, 3) := by decide +kernel
end
section
theorem dX3_skip_106 : decode cX3_skip 106 = .ok (.aload_n 0, 1) := by decide +kernel
theorem dX3_skip_107 : decode cX3_skip 107 = .ok (.dup, 1) := by decide +kernel
theorem dX3_skip_108 : decode cX3_skip 108 = .ok (.getfield 91, 3) := by decide +kernel
theorem dX3_skip_111 : decode cX3_skip 111 = .ok (.iconst 1, 1) := by decide +kernel
theorem dX3_skip_112 : decode cX3_skip 112 = .ok (.iadd, 1) := by decide +kernel
theorem dX3_skip_113 : decode cX3_skip 113 = .ok (.putfield 91, 3) := by decide +kernel
theorem dX3_skip_116 : decode cX3_skip 116 = .ok (.goto 73, 3) := by decide +kernel
theorem dX3_skip_119 : decode cX3_skip 119 = .ok (.iinc 1 1, 3) := by decide +kernel
theorem dX3_skip_122 : decode cX3_skip 122 = .ok (.aload_n 0, 1) := by decide +kernel
theorem dX3_skip_123 : decode cX3_skip 123 = .ok (.iload_n 3, 1) := by decide +kernel
theorem dX3_skip_124 : decode cX3_skip 124 = .ok (.iconst 1, 1) := by decide +kernel
theorem dX3_skip_125 : decode cX3_skip 125 = .ok (.if_icmp .ne 12, 3) := by decide +kernel
theorem dX3_skip_128 : decode cX3_skip 128 = .ok (.aload_n 0, 1) := by decide +kernel
theorem dX3_skip_129 : decode cX3_skip 129 = .ok (.getfield 97, 3) := by decide +kernel
theorem dX3_skip_132 : decode cX3_skip 132 = .ok (.iconst 1, 1) := by decide +kernel
theorem dX3_skip_133 : decode cX3_skip 133 = .ok (.iadd, 1) := by decide +kernel
theorem dX3_skip_134 : decode cX3_skip 134 = .ok (.goto 4, 3) := by decide +kernel
theorem dX3_skip_137 : decode cX3_skip 137 = .ok (.iconst 0, 1) := by decide +kernel
theorem dX3_skip_138 : decode cX3_skip 138 = .ok (.putfield 97, 3) := by decide +kernel
theorem dX3_skip_141 : decode cX3_skip 141 = .ok (.aload_n 0, 1) := by decide +kernel
theorem dX3_skip_142 : decode cX3_skip 142 = .ok (.getfield 17, 3) := by decide +kernel
theorem dX3_skip_145 : decode cX3_skip 145 = .ok (.iconst 1, 1) := by decide +kernel
theorem dX3_skip_146 : decode cX3_skip 146 = .ok (.if_icmp .le 43, 3) := by decide +kernel
theorem dX3_skip_149 : decode cX3_skip 149 = .ok (.aload_n 0, 1) := by decide +kernel
theorem dX3_skip_150 : decode cX3_skip 150 = .ok (.getfield 97, 3) := by decide +kernel
theorem dX3_skip_153 : decode cX3_skip 153 = .ok (.aload_n 0, 1) := by decide +kernel
theorem dX3_skip_154 : decode cX3_skip 154 = .ok (.getfield 17, 3) := by decide +kernel
theorem dX3_skip_157 : decode cX3_skip 157 = .ok (.if_icmp .ne 32, 3) := by decide +kernel
theorem dX3_skip_160 : decode cX3_skip 160 = .ok (.aload_n 0, 1) := by decide +kernel
theorem dX3_skip_161 : decode cX3_skip 161 = .ok (.getfield 79, 3) := by decide +kernel
theorem dX3_skip_164 : decode cX3_skip 164 = .ok (.bipush 8, 2) := by decide +kernel
theorem dX3_skip_166 : decode cX3_skip 166 = .ok (.irem, 1) := by decide +kernel
theorem dX3_skip_167 : decode cX3_skip 167 = .ok (.ifCond .eq 22, 3) := by decide +kernel
theorem dX3_skip_170 : decode cX3_skip 170 = .ok (.aload_n 0, 1) := by decide +kernel
theorem dX3_skip_171 : decode cX3_skip 171 = .ok (.dup, 1) := by decide +kernel
theorem dX3_skip_172 : decode cX3_skip 172 = .ok (.getfield 91, 3) := by decide +kernel
theorem dX3_skip_175 : decode cX3_skip 175 = .ok (.iconst 1, 1) := by decide +kernel
theorem dX3_skip_176 : decode cX3_skip 176 = .ok (.iadd, 1) := by decide +kernel
theorem dX3_skip_177 : decode cX3_skip 177 = .ok (.putfield 91, 3) := by decide +kernel
theorem dX3_skip_180 : decode cX3_skip 180 = .ok (.aload_n 0, 1) := by decide +kernel
theorem dX3_skip_181 : decode cX3_skip 181 = .ok (.invokevirtual 94, 3) := by decide +kernel
theorem dX3_skip_184 : decode cX3_skip 184 = .ok (.aload_n 0, 1) := by decide +kernel
theorem dX3_skip_185 : decode cX3_skip 185 = .ok (.iconst 0, 1) := by decide +kernel
theorem dX3_skip_186 : decode cX3_skip 186 = .ok (.putfield 97, 3) := by decide +kernel
theorem dX3_skip_189 : decode cX3_skip 189 = .ok (.goto (-169), 3) := by decide +kernel
theorem dX3_skip_192 : decode cX3_skip 192 = .ok (.aload_n 0, 1) := by decide +kernel
theorem dX3_skip_193 : decode cX3_skip 193 = .ok (.iload_n 1, 1) := by decide +kernel
theorem dX3_skip_194 : decode cX3_skip 194 = .ok (.ifCond .le 7, 3) := by decide +kernel
theorem dX3_skip_197 : decode cX3_skip 197 = .ok (.iconst 0, 1) := by decide +kernel
theorem dX3_skip_198 : decode cX3_skip 198 = .ok (.goto 7, 3) := by decide +kernel
theorem dX3_skip_201 : decode cX3_skip 201 = .ok (.aload_n 0, 1) := by decide +kernel
theorem dX3_skip_202 : decode cX3_skip 202 = .ok (.getfield 97, 3) := by decide +kernel
theorem dX3_skip_205 : decode cX3_skip 205 = .ok (.putfield 97, 3) := by decide +kernel
theorem dX3_skip_208 : decode cX3_skip 208 = .ok (.aload_n 0, 1) := by decide +kernel
theorem dX3_skip_209 : decode cX3_skip 209 = .ok (.invokevirtual 125, 3) := by decide +kernel
theorem dX3_skip_212 : decode cX3_skip 212 = .ok (.iload_n 1, 1) := by decide +kernel
theorem dX3_skip_213 : decode cX3_skip 213 = .ok (.ireturn, 1) := by decide +kernel
theorem dX3_take_0 : decode cX3_take 0 = .ok (.aload_n 0, 1) := by decide +kernel
theorem dX3_take_1 : decode cX3_take 1 = .ok (.iconst 0, 1) := by decide +kernel
theorem dX3_take_2 : decode cX3_take 2 = .ok (.putfield 25, 3) := by decide +kernel
theorem dX3_take_5 : decode cX3_take 5 = .ok (.aload_n 0, 1) := by decide +kernel
theorem dX3_take_6 : decode cX3_take 6 = .ok (.getfield 17, 3) := by decide +kernel
theorem dX3_take_9 : decode cX3_take 9 = .ok (.iconst 1, 1) := by decide +kernel
theorem dX3_take_10 : decode cX3_take 10 = .ok (.if_icmp .ne 34, 3) := by decide +kernel
theorem dX3_take_13 : decode cX3_take 13 = .ok (.aload_n 0, 1) := by decide +kernel
theorem dX3_take_14 : decode cX3_take 14 = .ok (.getfield 112, 3) := by decide +kernel
theorem dX3_take_17 : decode cX3_take 17 = .ok (.ifCond .ne 27, 3) := by decide +kernel
theorem dX3_take_20 : decode cX3_take 20 = .ok (.aload_n 0, 1) := by decide +kernel
theorem dX3_take_21 : decode cX3_take 21 = .ok (.getfield 100, 3) := by decide +kernel
theorem dX3_take_24 : decode cX3_take 24 = .ok (.bipush 8, 2) := by decide +kernel
theorem dX3_take_26 : decode cX3_take 26 = .ok (.irem, 1) := by decide +kernel
theorem dX3_take_27 : decode cX3_take 27 = .ok (.ifCond .ne 17, 3) := by decide +kernel
theorem dX3_take_30 : decode cX3_take 30 = .ok (.aload_n 0, 1) := by decide +kernel
theorem dX3_take_31 : decode cX3_take 31 = .ok (.aload_n 0, 1) := by decide +kernel
theorem dX3_take_32 : decode cX3_take 32 = .ok (.getfield 100, 3) := by decide +kernel
theorem dX3_take_35 : decode cX3_take 35 = .ok (.bipush 8, 2) := by decide +kernel
theorem dX3_take_37 : decode cX3_take 37 = .ok (.idiv, 1) := by decide +kernel
theorem dX3_take_38 : decode cX3_take 38 = .ok (.invokevirtual 128, 3) := by decide +kernel
theorem dX3_take_41 : decode cX3_take 41 = .ok (.ifCond .ne 5, 3) := by decide +kernel
theorem dX3_take_44 : decode cX3_take 44 = .ok (.iconst (-1), 1) := by decide +kernel
theorem dX3_take_45 : decode cX3_take 45 = .ok (.ireturn, 1) := by decide +kernel
theorem dX3_take_46 : decode cX3_take 46 = .ok (.aload_n 0, 1) := by decide +kernel
theorem dX3_take_47 : decode cX3_take 47 = .ok (.getfield 13, 3) := by decide +kernel
theorem dX3_take_50 : decode cX3_take 50 = .ok (.aload_n 0, 1) := by decide +kernel
theorem dX3_take_51 : decode cX3_take 51 = .ok (.getfield 100, 3) := by decide +kernel
theorem dX3_take_54 : decode cX3_take 54 = .ok (.bipush 8, 2) := by decide +kernel
theorem dX3_take_56 : decode cX3_take 56 = .ok (.idiv, 1) := by decide +kernel
theorem dX3_take_57 : decode cX3_take 57 = .ok (.iconst 1, 1) := by decide +kernel
theorem dX3_take_58 : decode cX3_take 58 = .ok (.iadd, 1) := by decide +kernel
theorem dX3_take_59 : decode cX3_take 59 = .ok (.iaload, 1) := by decide +kernel
theorem dX3_take_60 : decode cX3_take 60 = .ok (.istore_n 1, 1) := by decide +kernel
theorem dX3_take_61 : decode cX3_take 61 = .ok (.aload_n 0, 1) := by decide +kernel
theorem dX3_take_62 : decode cX3_take 62 = .ok (.aload_n 0, 1) := by decide +kernel
theorem dX3_take_63 : decode cX3_take 63 = .ok (.getfield 100, 3) := by decide +kernel
theorem dX3_take_66 : decode cX3_take 66 = .ok (.bipush 16, 2) := by decide +kernel
theorem dX3_take_68 : decode cX3_take 68 = .ok (.iadd, 1) := by decide +kernel
theorem dX3_take_69 : decode cX3_take 69 = .ok (.putfield 100, 3) := by decide +kernel
theorem dX3_take_72 : decode cX3_take 72 = .ok (.aload_n 0, 1) := by decide +kernel
theorem dX3_take_73 : decode cX3_take 73 = .ok (.iconst 0, 1) := by decide +kernel
theorem dX3_take_74 : decode cX3_take 74 = .ok (.putfield 109, 3) := by decide +kernel
theorem dX3_take_77 : decode cX3_take 77 = .ok (.iload_n 1, 1) := by decide +kernel
theorem dX3_take_78 : decode cX3_take 78 = .ok (.ireturn, 1) := by decide +kernel
theorem dX3_isMark_0 : decode cX3_isMark 0 = .ok (.iload_n 1, 1) := by decide +kernel
theorem dX3_isMark_1 : decode cX3_isMark 1 = .ok (.iconst 1, 1) := by decide +kernel
theorem dX3_isMark_2 : decode cX3_isMark 2 = .ok (.iadd, 1) := by decide +kernel
theorem dX3_isMark_3 : decode cX3_isMark 3 = .ok (.aload_n 0, 1) := by decide +kernel
theorem dX3_isMark_4 : decode cX3_isMark 4 = .ok (.getfield 76, 3) := by decide +kernel
theorem dX3_isMark_7 : decode cX3_isMark 7 = .ok (.if_icmp .ge 32, 3) := by decide +kernel
theorem dX3_isMark_10 : decode cX3_isMark 10 = .ok (.aload_n 0, 1) := by decide +kernel
theorem dX3_isMark_11 : decode cX3_isMark 11 = .ok (.getfield 13, 3) := by decide +kernel
theorem dX3_isMark_14 : decode cX3_isMark 14 = .ok (.iload_n 1, 1) := by decide +kernel
theorem dX3_isMark_15 : decode cX3_isMark 15 = .ok (.iaload, 1) := by decide +kernel
theorem dX3_isMark_16 : decode cX3_isMark 16 = .ok (.sipush 255, 3) := by decide +kernel
theorem dX3_isMark_19 : decode cX3_isMark 19 = .ok (.if_icmp .ne 20, 3) := by decide +kernel
theorem dX3_isMark_22 : decode cX3_isMark 22 = .ok (.aload_n 0, 1) := by decide +kernel
theorem dX3_isMark_23 : decode cX3_isMark 23 = .ok (.getfield 13, 3) := by decide +kernel
theorem dX3_isMark_26 : decode cX3_isMark 26 = .ok (.iload_n 1, 1) := by decide +kernel
theorem dX3_isMark_27 : decode cX3_isMark 27 = .ok (.iconst 1, 1) := by decide +kernel
theorem dX3_isMark_28 : decode cX3_isMark 28 = .ok (.iadd, 1) := by decide +kernel
theorem dX3_isMark_29 : decode cX3_isMark 29 = .ok (.iaload, 1) := by decide +kernel
theorem dX3_isMark_30 : decode cX3_isMark 30 = .ok (.bipush 127, 2) := by decide +kernel
theorem dX3_isMark_32 : decode cX3_isMark 32 = .ok (.if_icmp .le 7, 3) := by decide +kernel
theorem dX3_isMark_35 : decode cX3_isMark 35 = .ok (.iconst 1, 1) := by decide +kernel
theorem dX3_isMark_36 : decode cX3_isMark 36 = .ok (.goto 4, 3) := by decide +kernel
theorem dX3_isMark_39 : decode cX3_isMark 39 = .ok (.iconst 0, 1) := by decide +kernel
theorem dX3_isMark_40 : decode cX3_isMark 40 = .ok (.ireturn, 1) := by decide +kernel
theorem dX3_find_0 : decode cX3_find 0 = .ok (.aload_n 0, 1) := by decide +kernel
theorem dX3_find_1 : decode cX3_find 1 = .ok (.iload_n 1, 1) := by decide +kernel
theorem dX3_find_2 : decode cX3_find 2 = .ok (.i2l, 1) := by decide +kernel
theorem dX3_find_3 : decode cX3_find 3 = .ok (.lconst 0, 1) := by decide +kernel
theorem dX3_find_4 : decode cX3_find 4 = .ok (.aload_n 0, 1) := by decide +kernel
theorem dX3_find_5 : decode cX3_find 5 = .ok (.getfield 76, 3) := by decide +kernel
theorem dX3_find_8 : decode cX3_find 8 = .ok (.i2l, 1) := by decide +kernel
theorem dX3_find_9 : decode cX3_find 9 = .ok (.invokestatic 53, 3) := by decide +kernel
theorem dX3_find_12 : decode cX3_find 12 = .ok (.ifCond .eq 7, 3) := by decide +kernel
theorem dX3_find_15 : decode cX3_find 15 = .ok (.iconst 0, 1) := by decide +kernel
theorem dX3_find_16 : decode cX3_find 16 = .ok (.goto 4, 3) := by decide +kernel
theorem dX3_find_19 : decode cX3_find 19 = .ok (.iconst 1, 1) := by decide +kernel
theorem dX3_find_20 : decode cX3_find 20 = .ok (.putfield 25, 3) := by decide +kernel
theorem dX3_find_23 : decode cX3_find 23 = .ok (.iload_n 1, 1) := by decide +kernel
theorem dX3_find_24 : decode cX3_find 24 = .ok (.istore_n 2, 1) := by decide +kernel
theorem dX3_find_25 : decode cX3_find 25 = .ok (.aload_n 0, 1) := by decide +kernel
theorem dX3_find_26 : decode cX3_find 26 = .ok (.getfield 25, 3) := by decide +kernel
theorem dX3_find_29 : decode cX3_find 29 = .ok (.ifCond .ne 27, 3) := by decide +kernel
theorem dX3_find_32 : decode cX3_find 32 = .ok (.iload_n 2, 1) := by decide +kernel
theorem dX3_find_33 : decode cX3_find 33 = .ok (.aload_n 0, 1) := by decide +kernel
theorem dX3_find_34 : decode cX3_find 34 = .ok (.getfield 76, 3) := by decide +kernel
theorem dX3_find_37 : decode cX3_find 37 = .ok (.if_icmp .ge 19, 3) := by decide +kernel
theorem dX3_find_40 : decode cX3_find 40 = .ok (.aload_n 0, 1) := by decide +kernel
theorem dX3_find_41 : decode cX3_find 41 = .ok (.iload_n 2, 1) := by decide +kernel
theorem dX3_find_42 : decode cX3_find 42 = .ok (.invokevirtual 128, 3) := by decide +kernel
theorem dX3_find_45 : decode cX3_find 45 = .ok (.ifCond .eq 5, 3) := by decide +kernel
theorem dX3_find_48 : decode cX3_find 48 = .ok (.iload_n 2, 1) := by decide +kernel
theorem dX3_find_49 : decode cX3_find 49 = .ok (.ireturn, 1) := by decide +kernel
theorem dX3_find_50 : decode cX3_find 50 = .ok (.iinc 2 1, 3) := by decide +kernel
theorem dX3_find_53 : decode cX3_find 53 = .ok (.goto (-28), 3) := by decide +kernel
theorem dX3_find_56 : decode cX3_find 56 = .ok (.aload_n 0, 1) := by decide +kernel
theorem dX3_find_57 : decode cX3_find 57 = .ok (.getfield 25, 3) := by decide +kernel
theorem dX3_find_60 : decode cX3_find 60 = .ok (.ifCond .le 7, 3) := by decide +kernel
theorem dX3_find_63 : decode cX3_find 63 = .ok (.iconst 0, 1) := by decide +kernel
theorem dX3_find_64 : decode cX3_find 64 = .ok (.goto 4, 3) := by decide +kernel
theorem dX3_find_67 : decode cX3_find 67 = .ok (.iconst (-1), 1) := by decide +kernel
theorem dX3_find_68 : decode cX3_find 68 = .ok (.ireturn, 1) := by decide +kernel
theorem dX3_sum_0 : decode cX3_sum 0 = .ok (.iload_n 1, 1) := by decide +kernel
theorem dX3_sum_1 : decode cX3_sum 1 = .ok (.ifCond .eq 10, 3) := by decide +kernel
theorem dX3_sum_4 : decode cX3_sum 4 = .ok (.aload_n 0, 1) := by decide +kernel
theorem dX3_sum_5 : decode cX3_sum 5 = .ok (.getfield 76, 3) := by decide +kernel
theorem dX3_sum_8 : decode cX3_sum 8 = .ok (.goto 7, 3) := by decide +kernel
theorem dX3_sum_11 : decode cX3_sum 11 = .ok (.aload_n 0, 1) := by decide +kernel
theorem dX3_sum_12 : decode cX3_sum 12 = .ok (.invokevirtual 73, 3) := by decide +kernel
theorem dX3_sum_15 : decode cX3_sum 15 = .ok (.istore 5, 2) := by decide +kernel
theorem dX3_sum_17 : decode cX3_sum 17 = .ok (.aload_n 0, 1) := by decide +kernel
theorem dX3_sum_18 : decode cX3_sum 18 = .ok (.iload_n 2, 1) := by decide +kernel
theorem dX3_sum_19 : decode cX3_sum 19 = .ok (.bipush 16, 2) := by decide +kernel
theorem dX3_sum_21 : decode cX3_sum 21 = .ok (.if_icmp .eq 13, 3) := by decide +kernel
theorem dX3_sum_24 : decode cX3_sum 24 = .ok (.iload_n 2, 1) := by decide +kernel
theorem dX3_sum_25 : decode cX3_sum 25 = .ok (.bipush 32, 2) := by decide +kernel
theorem dX3_sum_27 : decode cX3_sum 27 = .ok (.if_icmp .eq 7, 3) := by decide +kernel
theorem dX3_sum_30 : decode cX3_sum 30 = .ok (.iconst 1, 1) := by decide +kernel
theorem dX3_sum_31 : decode cX3_sum 31 = .ok (.goto 25, 3) := by decide +kernel
theorem dX3_sum_34 : decode cX3_sum 34 = .ok (.iload_n 3, 1) := by decide +kernel
theorem dX3_sum_35 : decode cX3_sum 35 = .ok (.ifCond .lt 16, 3) := by decide +kernel
theorem dX3_sum_38 : decode cX3_sum 38 = .ok (.iload_n 3, 1) := by decide +kernel
theorem dX3_sum_39 : decode cX3_sum 39 = .ok (.iload 4, 2) := by decide +kernel
theorem dX3_sum_41 : decode cX3_sum 41 = .ok (.if_icmp .gt 10, 3) := by decide +kernel
theorem dX3_sum_44 : decode cX3_sum 44 = .ok (.iload 4, 2) := by decide +kernel
theorem dX3_sum_46 : decode cX3_sum 46 = .ok (.iload 5, 2) := by decide +kernel
theorem dX3_sum_48 : decode cX3_sum 48 = .ok (.if_icmp .le 7, 3) := by decide +kernel
theorem dX3_sum_51 : decode cX3_sum 51 = .ok (.iconst 2, 1) := by decide +kernel
theorem dX3_sum_52 : decode cX3_sum 52 = .ok (.goto 4, 3) := by decide +kernel
theorem dX3_sum_55 : decode cX3_sum 55 = .ok (.iconst 0, 1) := by decide +kernel
theorem dX3_sum_56 : decode cX3_sum 56 = .ok (.putfield 25, 3) := by decide +kernel
theorem dX3_sum_59 : decode cX3_sum 59 = .ok (.aload_n 0, 1) := by decide +kernel
theorem dX3_sum_60 : decode cX3_sum 60 = .ok (.getfield 25, 3) := by decide +kernel
theorem dX3_sum_63 : decode cX3_sum 63 = .ok (.ifCond .le 5, 3) := by decide +kernel
theorem dX3_sum_66 : decode cX3_sum 66 = .ok (.iconst 0, 1) := by decide +kernel
theorem dX3_sum_67 : decode cX3_sum 67 = .ok (.ireturn, 1) := by decide +kernel
theorem dX3_sum_68 : decode cX3_sum 68 = .ok (.iload_n 2, 1) := by decide +kernel
theorem dX3_sum_69 : decode cX3_sum 69 = .ok (.bipush 16, 2) := by decide +kernel
theorem dX3_sum_71 : decode cX3_sum 71 = .ok (.if_icmp .ne 8, 3) := by decide +kernel
theorem dX3_sum_74 : decode cX3_sum 74 = .ok (.ldc 131, 2) := by decide +kernel
theorem dX3_sum_76 : decode cX3_sum 76 = .ok (.goto 4, 3) := by decide +kernel
theorem dX3_sum_79 : decode cX3_sum 79 = .ok (.iconst (-1), 1) := by decide +kernel
theorem dX3_sum_80 : decode cX3_sum 80 = .ok (.istore 6, 2) := by decide +kernel
theorem dX3_sum_82 : decode cX3_sum 82 = .ok (.iload_n 3, 1) := by decide +kernel
theorem dX3_sum_83 : decode cX3_sum 83 = .ok (.istore 7, 2) := by decide +kernel
theorem dX3_sum_85 : decode cX3_sum 85 = .ok (.iload 7, 2) := by decide +kernel
theorem dX3_sum_87 : decode cX3_sum 87 = .ok (.iload 4, 2) := by decide +kernel
theorem dX3_sum_89 : decode cX3_sum 89 = .ok (.if_icmp .ge 56, 3) := by decide +kernel
theorem dX3_sum_92 : decode cX3_sum 92 = .ok (.iload_n 1, 1) := by decide +kernel
theorem dX3_sum_93 : decode cX3_sum 93 = .ok (.ifCond .eq 13, 3) := by decide +kernel
theorem dX3_sum_96 : decode cX3_sum 96 = .ok (.aload_n 0, 1) := by decide +kernel
theorem dX3_sum_97 : decode cX3_sum 97 = .ok (.getfield 13, 3) := by decide +kernel
theorem dX3_sum_100 : decode cX3_sum 100 = .ok (.iload 7, 2) := by decide +kernel
theorem dX3_sum_102 : decode cX3_sum 102 = .ok (.iaload, 1) := by decide +kernel
theorem dX3_sum_103 : decode cX3_sum 103 = .ok (.goto 9, 3) := by decide +kernel
theorem dX3_sum_106 : decode cX3_sum 106 = .ok (.aload_n 0, 1) := by decide +kernel
theorem dX3_sum_107 : decode cX3_sum 107 = .ok (.iload 7, 2) := by decide +kernel
theorem dX3_sum_109 : decode cX3_sum 109 = .ok (.invokevirtual 31, 3) := by decide +kernel
theorem dX3_sum_112 : decode cX3_sum 112 = .ok (.istore 8, 2) := by decide +kernel
theorem dX3_sum_114 : decode cX3_sum 114 = .ok (.iload_n 2, 1) := by decide +kernel
theorem dX3_sum_115 : decode cX3_sum 115 = .ok (.bipush 16, 2) := by decide +kernel
theorem dX3_sum_117 : decode cX3_sum 117 = .ok (.if_icmp .ne 13, 3) := by decide +kernel
theorem dX3_sum_120 : decode cX3_sum 120 = .ok (.iload 6, 2) := by decide +kernel
theorem dX3_sum_122 : decode cX3_sum 122 = .ok (.iload 8, 2) := by decide +kernel
theorem dX3_sum_124 : decode cX3_sum 124 = .ok (.invokestatic 133, 3) := by decide +kernel
theorem dX3_sum_127 : decode cX3_sum 127 = .ok (.goto 10, 3) := by decide +kernel
theorem dX3_sum_130 : decode cX3_sum 130 = .ok (.iload 6, 2) := by decide +kernel
theorem dX3_sum_132 : decode cX3_sum 132 = .ok (.iload 8, 2) := by decide +kernel
theorem dX3_sum_134 : decode cX3_sum 134 = .ok (.invokestatic 137, 3) := by decide +kernel
theorem dX3_sum_137 : decode cX3_sum 137 = .ok (.istore 6, 2) := by decide +kernel
theorem dX3_sum_139 : decode cX3_sum 139 = .ok (.iinc 7 1, 3) := by decide +kernel
theorem dX3_sum_142 : decode cX3_sum 142 = .ok (.goto (-57), 3) := by decide +kernel
theorem dX3_sum_145 : decode cX3_sum 145 = .ok (.iload_n 2, 1) := by decide +kernel
theorem dX3_sum_146 : decode cX3_sum 146 = .ok (.bipush 16, 2) := by decide +kernel
theorem dX3_sum_148 : decode cX3_sum 148 = .ok (.if_icmp .ne 8, 3) := by decide +kernel
theorem dX3_sum_151 : decode cX3_sum 151 = .ok (.iload 6, 2) := by decide +kernel
theorem dX3_sum_153 : decode cX3_sum 153 = .ok (.goto 7, 3) := by decide +kernel
theorem dX3_sum_156 : decode cX3_sum 156 = .ok (.iload 6, 2) := by decide +kernel
theorem dX3_sum_158 : decode cX3_sum 158 = .ok (.iconst (-1), 1) := by decide +kernel
theorem dX3_sum_159 : decode cX3_sum 159 = .ok (.ixor, 1) := by decide +kernel
theorem dX3_sum_160 : decode cX3_sum 160 = .ok (.ireturn, 1) := by decide +kernel
theorem dX3_sum16_0 : decode cX3_sum16 0 = .ok (.iload_n 0, 1) := by decide +kernel
theorem dX3_sum16_1 : decode cX3_sum16 1 = .ok (.istore_n 2, 1) := by decide +kernel
theorem dX3_sum16_2 : decode cX3_sum16 2 = .ok (.bipush 7, 2) := by decide +kernel
theorem dX3_sum16_4 : decode cX3_sum16 4 = .ok (.istore_n 3, 1) := by decide +kernel
theorem dX3_sum16_5 : decode cX3_sum16 5 = .ok (.iload_n 3, 1) := by decide +kernel
theorem dX3_sum16_6 : decode cX3_sum16 6 = .ok (.ifCond .lt 44, 3) := by decide +kernel
theorem dX3_sum16_9 : decode cX3_sum16 9 = .ok (.iload_n 2, 1) := by decide +kernel
theorem dX3_sum16_10 : decode cX3_sum16 10 = .ok (.bipush 15, 2) := by decide +kernel
theorem dX3_sum16_12 : decode cX3_sum16 12 = .ok (.ishr, 1) := by decide +kernel
theorem dX3_sum16_13 : decode cX3_sum16 13 = .ok (.iconst 1, 1) := by decide +kernel
theorem dX3_sum16_14 : decode cX3_sum16 14 = .ok (.iand, 1) := by decide +kernel
theorem dX3_sum16_15 : decode cX3_sum16 15 = .ok (.istore 4, 2) := by decide +kernel
theorem dX3_sum16_17 : decode cX3_sum16 17 = .ok (.iload_n 2, 1) := by decide +kernel
theorem dX3_sum16_18 : decode cX3_sum16 18 = .ok (.iconst 1, 1) := by decide +kernel
theorem dX3_sum16_19 : decode cX3_sum16 19 = .ok (.ishl, 1) := by decide +kernel
theorem dX3_sum16_20 : decode cX3_sum16 20 = .ok (.ldc 131, 2) := by decide +kernel
theorem dX3_sum16_22 : decode cX3_sum16 22 = .ok (.iand, 1) := by decide +kernel
theorem dX3_sum16_23 : decode cX3_sum16 23 = .ok (.istore_n 2, 1) := by decide +kernel
theorem dX3_sum16_24 : decode cX3_sum16 24 = .ok (.iload 4, 2) := by decide +kernel
theorem dX3_sum16_26 : decode cX3_sum16 26 = .ok (.iload_n 1, 1) := by decide +kernel
theorem dX3_sum16_27 : decode cX3_sum16 27 = .ok (.iload_n 3, 1) := by decide +kernel
theorem dX3_sum16_28 : decode cX3_sum16 28 = .ok (.ishr, 1) := by decide +kernel
theorem dX3_sum16_29 : decode cX3_sum16 29 = .ok (.iconst 1, 1) := by decide +kernel
theorem dX3_sum16_30 : decode cX3_sum16 30 = .ok (.iand, 1) := by decide +kernel
theorem dX3_sum16_31 : decode cX3_sum16 31 = .ok (.if_icmp .eq 11, 3) := by decide +kernel
theorem dX3_sum16_34 : decode cX3_sum16 34 = .ok (.iload_n 2, 1) := by decide +kernel
theorem dX3_sum16_35 : decode cX3_sum16 35 = .ok (.sipush 4129, 3) := by decide +kernel
theorem dX3_sum16_38 : decode cX3_sum16 38 = .ok (.ixor, 1) := by decide +kernel
theorem dX3_sum16_39 : decode cX3_sum16 39 = .ok (.goto 4, 3) := by decide +kernel
theorem dX3_sum16_42 : decode cX3_sum16 42 = .ok (.iload_n 2, 1) := by decide +kernel
theorem dX3_sum16_43 : decode cX3_sum16 43 = .ok (.istore_n 2, 1) := by decide +kernel
theorem dX3_sum16_44 : decode cX3_sum16 44 = .ok (.iinc 3 (-1), 3) := by decide +kernel
theorem dX3_sum16_47 : decode cX3_sum16 47 = .ok (.goto (-42), 3) := by decide +kernel
theorem dX3_sum16_50 : decode cX3_sum16 50 = .ok (.iload_n 2, 1) := by decide +kernel
theorem dX3_sum16_51 : decode cX3_sum16 51 = .ok (.ireturn, 1) := by decide +kernel
theorem dX3_sum32_0 : decode cX3_sum32 0 = .ok (.iload_n 0, 1) := by decide +kernel
theorem dX3_sum32_1 : decode cX3_sum32 1 = .ok (.istore_n 2, 1) := by decide +kernel
theorem dX3_sum32_2 : decode cX3_sum32 2 = .ok (.iconst 0, 1) := by decide +kernel
theorem dX3_sum32_3 : decode cX3_sum32 3 = .ok (.istore_n 3, 1) := by decide +kernel
theorem dX3_sum32_4 : decode cX3_sum32 4 = .ok (.iload_n 3, 1) := by decide +kernel
theorem dX3_sum32_5 : decode cX3_sum32 5 = .ok (.bipush 8, 2) := by decide +kernel
theorem dX3_sum32_7 : decode cX3_sum32 7 = .ok (.if_icmp .ge 37, 3) := by decide +kernel
theorem dX3_sum32_10 : decode cX3_sum32 10 = .ok (.iload_n 2, 1) := by decide +kernel
theorem dX3_sum32_11 : decode cX3_sum32 11 = .ok (.iconst 1, 1) := by decide +kernel
theorem dX3_sum32_12 : decode cX3_sum32 12 = .ok (.iand, 1) := by decide +kernel
theorem dX3_sum32_13 : decode cX3_sum32 13 = .ok (.istore 4, 2) := by decide +kernel
theorem dX3_sum32_15 : decode cX3_sum32 15 = .ok (.iload_n 2, 1) := by decide +kernel
theorem dX3_sum32_16 : decode cX3_sum32 16 = .ok (.iconst 1, 1) := by decide +kernel
theorem dX3_sum32_17 : decode cX3_sum32 17 = .ok (.iushr, 1) := by decide +kernel
theorem dX3_sum32_18 : decode cX3_sum32 18 = .ok (.istore_n 2, 1) := by decide +kernel
theorem dX3_sum32_19 : decode cX3_sum32 19 = .ok (.iload 4, 2) := by decide +kernel
theorem dX3_sum32_21 : decode cX3_sum32 21 = .ok (.iload_n 1, 1) := by decide +kernel
theorem dX3_sum32_22 : decode cX3_sum32 22 = .ok (.iload_n 3, 1) := by decide +kernel
theorem dX3_sum32_23 : decode cX3_sum32 23 = .ok (.ishr, 1) := by decide +kernel
theorem dX3_sum32_24 : decode cX3_sum32 24 = .ok (.iconst 1, 1) := by decide +kernel
theorem dX3_sum32_25 : decode cX3_sum32 25 = .ok (.iand, 1) := by decide +kernel
theorem dX3_sum32_26 : decode cX3_sum32 26 = .ok (.if_icmp .eq 10, 3) := by decide +kernel
theorem dX3_sum32_29 : decode cX3_sum32 29 = .ok (.iload_n 2, 1) := by decide +kernel
theorem dX3_sum32_30 : decode cX3_sum32 30 = .ok (.ldc 132, 2) := by decide +kernel
theorem dX3_sum32_32 : decode cX3_sum32 32 = .ok (.ixor, 1) := by decide +kernel
theorem dX3_sum32_33 : decode cX3_sum32 33 = .ok (.goto 4, 3) := by decide +kernel
theorem dX3_sum32_36 : decode cX3_sum32 36 = .ok (.iload_n 2, 1) := by decide +kernel
theorem dX3_sum32_37 : decode cX3_sum32 37 = .ok (.istore_n 2, 1) := by decide +kernel
theorem dX3_sum32_38 : decode cX3_sum32 38 = .ok (.iinc 3 1, 3) := by decide +kernel
theorem dX3_sum32_41 : decode cX3_sum32 41 = .ok (.goto (-37), 3) := by decide +kernel
theorem dX3_sum32_44 : decode cX3_sum32 44 = .ok (.iload_n 2, 1) := by decide +kernel
theorem dX3_sum32_45 : decode cX3_sum32 45 = .ok (.ireturn, 1) := by decide +kernel
theorem dX3_told_0 : decode cX3_told 0 = .ok (.aload_n 0, 1) := by decide +kernel
theorem dX3_told_1 : decode cX3_told 1 = .ok (.iconst 0, 1) := by decide +kernel
theorem dX3_told_2 : decode cX3_told 2 = .ok (.putfield 25, 3) := by decide +kernel
theorem dX3_told_5 : decode cX3_told 5 = .ok (.iload_n 1, 1) := by decide +kernel
theorem dX3_told_6 : decode cX3_told 6 = .ok (.tableswitch 102 0 7 #[46, 51, 64, 69, 74, 79, 84, 89], 46) := by decide +kernel
theorem dX3_told_52 : decode cX3_told 52 = .ok (.aload_n 0, 1) := by decide +kernel
theorem dX3_told_53 : decode cX3_told 53 = .ok (.getfield 17, 3) := by decide +kernel
theorem dX3_told_56 : decode cX3_told 56 = .ok (.ireturn, 1) := by decide +kernel
theorem dX3_told_57 : decode cX3_told 57 = .ok (.aload_n 0, 1) := by decide +kernel
theorem dX3_told_58 : decode cX3_told 58 = .ok (.getfield 21, 3) := by decide +kernel
theorem dX3_told_61 : decode cX3_told 61 = .ok (.ifCond .eq 7, 3) := by decide +kernel
theorem dX3_told_64 : decode cX3_told 64 = .ok (.iconst 1, 1) := by decide +kernel
theorem dX3_told_65 : decode cX3_told 65 = .ok (.goto 4, 3) := by decide +kernel
theorem dX3_told_68 : decode cX3_told 68 = .ok (.iconst 0, 1) := by decide +kernel
theorem dX3_told_69 : decode cX3_told 69 = .ok (.ireturn, 1) := by decide +kernel
theorem dX3_told_70 : decode cX3_told 70 = .ok (.aload_n 0, 1) := by decide +kernel
theorem dX3_told_71 : decode cX3_told 71 = .ok (.getfield 28, 3) := by decide +kernel
theorem dX3_told_74 : decode cX3_told 74 = .ok (.ireturn, 1) := by decide +kernel
theorem dX3_told_75 : decode cX3_told 75 = .ok (.aload_n 0, 1) := by decide +kernel
theorem dX3_told_76 : decode cX3_told 76 = .ok (.getfield 38, 3) := by decide +kernel
theorem dX3_told_79 : decode cX3_told 79 = .ok (.ireturn, 1) := by decide +kernel
theorem dX3_told_80 : decode cX3_told 80 = .ok (.aload_n 0, 1) := by decide +kernel
theorem dX3_told_81 : decode cX3_told 81 = .ok (.getfield 76, 3) := by decide +kernel
theorem dX3_told_84 : decode cX3_told 84 = .ok (.ireturn, 1) := by decide +kernel
theorem dX3_told_85 : decode cX3_told 85 = .ok (.aload_n 0, 1) := by decide +kernel
theorem dX3_told_86 : decode cX3_told 86 = .ok (.getfield 100, 3) := by decide +kernel
theorem dX3_told_89 : decode cX3_told 89 = .ok (.ireturn, 1) := by decide +kernel
theorem dX3_told_90 : decode cX3_told 90 = .ok (.aload_n 0, 1) := by decide +kernel
theorem dX3_told_91 : decode cX3_told 91 = .ok (.getfield 103, 3) := by decide +kernel
theorem dX3_told_94 : decode cX3_told 94 = .ok (.ireturn, 1) := by decide +kernel
theorem dX3_told_95 : decode cX3_told 95 = .ok (.aload_n 0, 1) := by decide +kernel
theorem dX3_told_96 : decode cX3_told 96 = .ok (.getfield 112, 3) := by decide +kernel
theorem dX3_told_99 : decode cX3_told 99 = .ok (.ifCond .eq 7, 3) := by decide +kernel
theorem dX3_told_102 : decode cX3_told 102 = .ok (.iconst 1, 1) := by decide +kernel
theorem dX3_told_103 : decode cX3_told 103 = .ok (.goto 4, 3) := by decide +kernel
theorem dX3_told_106 : decode cX3_told 106 = .ok (.iconst 0, 1) := by decide +kernel
theorem dX3_told_107 : decode cX3_told 107 = .ok (.ireturn, 1) := by decide +kernel
theorem dX3_told_108 : decode cX3_told 108 = .ok (.iconst (-1), 1) := by decide +kernel
theorem dX3_told_109 : decode cX3_told 109 = .ok (.ireturn, 1) := by decide +kernel
theorem dX3_clear_0 : decode cX3_clear 0 = .ok (.aload_n 0, 1) := by decide +kernel
theorem dX3_clear_1 : decode cX3_clear 1 = .ok (.iconst 0, 1) := by decide +kernel
theorem dX3_clear_2 : decode cX3_clear 2 = .ok (.putfield 25, 3) := by decide +kernel
theorem dX3_clear_5 : decode cX3_clear 5 = .ok (.aload_n 0, 1) := by decide +kernel
theorem dX3_clear_6 : decode cX3_clear 6 = .ok (.iconst 0, 1) := by decide +kernel
theorem dX3_clear_7 : decode cX3_clear 7 = .ok (.putfield 28, 3) := by decide +kernel
theorem dX3_clear_10 : decode cX3_clear 10 = .ok (.aload_n 0, 1) := by decide +kernel
theorem dX3_clear_11 : decode cX3_clear 11 = .ok (.iconst 0, 1) := by decide +kernel
theorem dX3_clear_12 : decode cX3_clear 12 = .ok (.putfield 38, 3) := by decide +kernel
theorem dX3_clear_15 : decode cX3_clear 15 = .ok (.aload_n 0, 1) := by decide +kernel
theorem dX3_clear_16 : decode cX3_clear 16 = .ok (.iconst 0, 1) := by decide +kernel
theorem dX3_clear_17 : decode cX3_clear 17 = .ok (.putfield 48, 3) := by decide +kernel
theorem dX3_clear_20 : decode cX3_clear 20 = .ok (.aload_n 0, 1) := by decide +kernel
theorem dX3_clear_21 : decode cX3_clear 21 = .ok (.iconst 0, 1) := by decide +kernel
theorem dX3_clear_22 : decode cX3_clear 22 = .ok (.putfield 35, 3) := by decide +kernel
theorem dX3_clear_25 : decode cX3_clear 25 = .ok (.aload_n 0, 1) := by decide +kernel
theorem dX3_clear_26 : decode cX3_clear 26 = .ok (.iconst 0, 1) := by decide +kernel
theorem dX3_clear_27 : decode cX3_clear 27 = .ok (.putfield 76, 3) := by decide +kernel
theorem dX3_clear_30 : decode cX3_clear 30 = .ok (.aload_n 0, 1) := by decide +kernel
theorem dX3_clear_31 : decode cX3_clear 31 = .ok (.iconst 0, 1) := by decide +kernel
theorem dX3_clear_32 : decode cX3_clear 32 = .ok (.putfield 100, 3) := by decide +kernel
theorem dX3_clear_35 : decode cX3_clear 35 = .ok (.aload_n 0, 1) := by decide +kernel
theorem dX3_clear_36 : decode cX3_clear 36 = .ok (.iconst 0, 1) := by decide +kernel
theorem dX3_clear_37 : decode cX3_clear 37 = .ok (.putfield 103, 3) := by decide +kernel
theorem dX3_clear_40 : decode cX3_clear 40 = .ok (.aload_n 0, 1) := by decide +kernel
theorem dX3_clear_41 : decode cX3_clear 41 = .ok (.iconst 0, 1) := by decide +kernel
theorem dX3_clear_42 : decode cX3_clear 42 = .ok (.putfield 106, 3) := by decide +kernel
theorem dX3_clear_45 : decode cX3_clear 45 = .ok (.aload_n 0, 1) := by decide +kernel
theorem dX3_clear_46 : decode cX3_clear 46 = .ok (.iconst 0, 1) := by decide +kernel
theorem dX3_clear_47 : decode cX3_clear 47 = .ok (.putfield 109, 3) := by decide +kernel
theorem dX3_clear_50 : decode cX3_clear 50 = .ok (.aload_n 0, 1) := by decide +kernel
theorem dX3_clear_51 : decode cX3_clear 51 = .ok (.iconst 0, 1) := by decide +kernel
theorem dX3_clear_52 : decode cX3_clear 52 = .ok (.putfield 112, 3) := by decide +kernel
theorem dX3_clear_55 : decode cX3_clear 55 = .ok (.return_, 1) := by decide +kernel
theorem dL_law_0 : decode cL_law 0 = .ok (.new 8, 3) := by decide +kernel
theorem dL_law_3 : decode cL_law 3 = .ok (.dup, 1) := by decide +kernel
theorem dL_law_4 : decode cL_law 4 = .ok (.aload_n 0, 1) := by decide +kernel
theorem dL_law_5 : decode cL_law 5 = .ok (.iconst 0, 1) := by decide +kernel
theorem dL_law_6 : decode cL_law 6 = .ok (.invokestatic 53, 3) := by decide +kernel
theorem dL_law_9 : decode cL_law 9 = .ok (.aload_n 0, 1) := by decide +kernel
theorem dL_law_10 : decode cL_law 10 = .ok (.iconst 1, 1) := by decide +kernel
theorem dL_law_11 : decode cL_law 11 = .ok (.invokestatic 53, 3) := by decide +kernel
theorem dL_law_14 : decode cL_law 14 = .ok (.invokespecial 59, 3) := by decide +kernel
theorem dL_law_17 : decode cL_law 17 = .ok (.astore_n 1, 1) := by decide +kernel
theorem dL_law_18 : decode cL_law 18 = .ok (.new 62, 3) := by decide +kernel
theorem dL_law_21 : decode cL_law 21 = .ok (.dup, 1) := by decide +kernel
theorem dL_law_22 : decode cL_law 22 = .ok (.aload_n 0, 1) := by decide +kernel
theorem dL_law_23 : decode cL_law 23 = .ok (.iconst 0, 1) := by decide +kernel
theorem dL_law_24 : decode cL_law 24 = .ok (.invokestatic 53, 3) := by decide +kernel
theorem dL_law_27 : decode cL_law 27 = .ok (.aload_n 0, 1) := by decide +kernel
theorem dL_law_28 : decode cL_law 28 = .ok (.iconst 1, 1) := by decide +kernel
theorem dL_law_29 : decode cL_law 29 = .ok (.invokestatic 53, 3) := by decide +kernel
end
section
theorem dL_law_32 : decode cL_law 32 = .ok (.invokespecial 64, 3) := by decide +kernel
theorem dL_law_35 : decode cL_law 35 = .ok (.astore_n 2, 1) := by decide +kernel
theorem dL_law_36 : decode cL_law 36 = .ok (.iconst 1, 1) := by decide +kernel
theorem dL_law_37 : decode cL_law 37 = .ok (.newarray .long, 2) := by decide +kernel
theorem dL_law_39 : decode cL_law 39 = .ok (.astore_n 3, 1) := by decide +kernel
theorem dL_law_40 : decode cL_law 40 = .ok (.iconst 2, 1) := by decide +kernel
theorem dL_law_41 : decode cL_law 41 = .ok (.istore 4, 2) := by decide +kernel
theorem dL_law_43 : decode cL_law 43 = .ok (.iload 4, 2) := by decide +kernel
theorem dL_law_45 : decode cL_law 45 = .ok (.aload_n 0, 1) := by decide +kernel
theorem dL_law_46 : decode cL_law 46 = .ok (.arraylength, 1) := by decide +kernel
theorem dL_law_47 : decode cL_law 47 = .ok (.iconst 5, 1) := by decide +kernel
theorem dL_law_48 : decode cL_law 48 = .ok (.isub, 1) := by decide +kernel
theorem dL_law_49 : decode cL_law 49 = .ok (.if_icmp .gt 794, 3) := by decide +kernel
theorem dL_law_52 : decode cL_law 52 = .ok (.aload_n 0, 1) := by decide +kernel
theorem dL_law_53 : decode cL_law 53 = .ok (.iload 4, 2) := by decide +kernel
theorem dL_law_55 : decode cL_law 55 = .ok (.iaload, 1) := by decide +kernel
theorem dL_law_56 : decode cL_law 56 = .ok (.bipush 15, 2) := by decide +kernel
theorem dL_law_58 : decode cL_law 58 = .ok (.iand, 1) := by decide +kernel
theorem dL_law_59 : decode cL_law 59 = .ok (.tableswitch 778 0 13 #[69, 137, 181, 237, 317, 373, 429, 497, 552, 565, 578, 634, 742, 767], 69) := by decide +kernel
theorem dL_law_128 : decode cL_law 128 = .ok (.aload_n 1, 1) := by decide +kernel
theorem dL_law_129 : decode cL_law 129 = .ok (.aload_n 0, 1) := by decide +kernel
theorem dL_law_130 : decode cL_law 130 = .ok (.iload 4, 2) := by decide +kernel
theorem dL_law_132 : decode cL_law 132 = .ok (.iconst 1, 1) := by decide +kernel
theorem dL_law_133 : decode cL_law 133 = .ok (.iadd, 1) := by decide +kernel
theorem dL_law_134 : decode cL_law 134 = .ok (.iaload, 1) := by decide +kernel
theorem dL_law_135 : decode cL_law 135 = .ok (.aload_n 0, 1) := by decide +kernel
theorem dL_law_136 : decode cL_law 136 = .ok (.iload 4, 2) := by decide +kernel
theorem dL_law_138 : decode cL_law 138 = .ok (.iconst 2, 1) := by decide +kernel
theorem dL_law_139 : decode cL_law 139 = .ok (.iadd, 1) := by decide +kernel
theorem dL_law_140 : decode cL_law 140 = .ok (.iaload, 1) := by decide +kernel
theorem dL_law_141 : decode cL_law 141 = .ok (.aload_n 3, 1) := by decide +kernel
theorem dL_law_142 : decode cL_law 142 = .ok (.invokestatic 65, 3) := by decide +kernel
theorem dL_law_145 : decode cL_law 145 = .ok (.istore 5, 2) := by decide +kernel
theorem dL_law_147 : decode cL_law 147 = .ok (.aload_n 2, 1) := by decide +kernel
theorem dL_law_148 : decode cL_law 148 = .ok (.aload_n 0, 1) := by decide +kernel
theorem dL_law_149 : decode cL_law 149 = .ok (.iload 4, 2) := by decide +kernel
theorem dL_law_151 : decode cL_law 151 = .ok (.iconst 1, 1) := by decide +kernel
theorem dL_law_152 : decode cL_law 152 = .ok (.iadd, 1) := by decide +kernel
theorem dL_law_153 : decode cL_law 153 = .ok (.iaload, 1) := by decide +kernel
theorem dL_law_154 : decode cL_law 154 = .ok (.aload_n 0, 1) := by decide +kernel
theorem dL_law_155 : decode cL_law 155 = .ok (.iload 4, 2) := by decide +kernel
theorem dL_law_157 : decode cL_law 157 = .ok (.iconst 2, 1) := by decide +kernel
theorem dL_law_158 : decode cL_law 158 = .ok (.iadd, 1) := by decide +kernel
theorem dL_law_159 : decode cL_law 159 = .ok (.iaload, 1) := by decide +kernel
theorem dL_law_160 : decode cL_law 160 = .ok (.invokevirtual 68, 3) := by decide +kernel
theorem dL_law_163 : decode cL_law 163 = .ok (.istore 6, 2) := by decide +kernel
theorem dL_law_165 : decode cL_law 165 = .ok (.aload_n 2, 1) := by decide +kernel
theorem dL_law_166 : decode cL_law 166 = .ok (.invokevirtual 69, 3) := by decide +kernel
theorem dL_law_169 : decode cL_law 169 = .ok (.iload 5, 2) := by decide +kernel
theorem dL_law_171 : decode cL_law 171 = .ok (.if_icmp .eq 5, 3) := by decide +kernel
theorem dL_law_174 : decode cL_law 174 = .ok (.iconst 0, 1) := by decide +kernel
theorem dL_law_175 : decode cL_law 175 = .ok (.ireturn, 1) := by decide +kernel
theorem dL_law_176 : decode cL_law 176 = .ok (.iload 5, 2) := by decide +kernel
theorem dL_law_178 : decode cL_law 178 = .ok (.ifCond .ne 15, 3) := by decide +kernel
theorem dL_law_181 : decode cL_law 181 = .ok (.aload_n 3, 1) := by decide +kernel
theorem dL_law_182 : decode cL_law 182 = .ok (.iconst 0, 1) := by decide +kernel
theorem dL_law_183 : decode cL_law 183 = .ok (.laload, 1) := by decide +kernel
theorem dL_law_184 : decode cL_law 184 = .ok (.iload 6, 2) := by decide +kernel
theorem dL_law_186 : decode cL_law 186 = .ok (.i2l, 1) := by decide +kernel
theorem dL_law_187 : decode cL_law 187 = .ok (.lcmp, 1) := by decide +kernel
theorem dL_law_188 : decode cL_law 188 = .ok (.ifCond .eq 5, 3) := by decide +kernel
theorem dL_law_191 : decode cL_law 191 = .ok (.iconst 0, 1) := by decide +kernel
theorem dL_law_192 : decode cL_law 192 = .ok (.ireturn, 1) := by decide +kernel
theorem dL_law_193 : decode cL_law 193 = .ok (.goto 644, 3) := by decide +kernel
theorem dL_law_196 : decode cL_law 196 = .ok (.aload_n 1, 1) := by decide +kernel
theorem dL_law_197 : decode cL_law 197 = .ok (.aload_n 3, 1) := by decide +kernel
theorem dL_law_198 : decode cL_law 198 = .ok (.invokestatic 72, 3) := by decide +kernel
theorem dL_law_201 : decode cL_law 201 = .ok (.istore 5, 2) := by decide +kernel
theorem dL_law_203 : decode cL_law 203 = .ok (.aload_n 2, 1) := by decide +kernel
theorem dL_law_204 : decode cL_law 204 = .ok (.invokevirtual 75, 3) := by decide +kernel
theorem dL_law_207 : decode cL_law 207 = .ok (.istore 6, 2) := by decide +kernel
theorem dL_law_209 : decode cL_law 209 = .ok (.aload_n 2, 1) := by decide +kernel
theorem dL_law_210 : decode cL_law 210 = .ok (.invokevirtual 69, 3) := by decide +kernel
theorem dL_law_213 : decode cL_law 213 = .ok (.iload 5, 2) := by decide +kernel
theorem dL_law_215 : decode cL_law 215 = .ok (.if_icmp .eq 5, 3) := by decide +kernel
theorem dL_law_218 : decode cL_law 218 = .ok (.iconst 0, 1) := by decide +kernel
theorem dL_law_219 : decode cL_law 219 = .ok (.ireturn, 1) := by decide +kernel
theorem dL_law_220 : decode cL_law 220 = .ok (.iload 5, 2) := by decide +kernel
theorem dL_law_222 : decode cL_law 222 = .ok (.ifCond .ne 15, 3) := by decide +kernel
theorem dL_law_225 : decode cL_law 225 = .ok (.aload_n 3, 1) := by decide +kernel
theorem dL_law_226 : decode cL_law 226 = .ok (.iconst 0, 1) := by decide +kernel
theorem dL_law_227 : decode cL_law 227 = .ok (.laload, 1) := by decide +kernel
theorem dL_law_228 : decode cL_law 228 = .ok (.iload 6, 2) := by decide +kernel
theorem dL_law_230 : decode cL_law 230 = .ok (.i2l, 1) := by decide +kernel
theorem dL_law_231 : decode cL_law 231 = .ok (.lcmp, 1) := by decide +kernel
theorem dL_law_232 : decode cL_law 232 = .ok (.ifCond .eq 5, 3) := by decide +kernel
theorem dL_law_235 : decode cL_law 235 = .ok (.iconst 0, 1) := by decide +kernel
theorem dL_law_236 : decode cL_law 236 = .ok (.ireturn, 1) := by decide +kernel
theorem dL_law_237 : decode cL_law 237 = .ok (.goto 600, 3) := by decide +kernel
theorem dL_law_240 : decode cL_law 240 = .ok (.aload_n 1, 1) := by decide +kernel
theorem dL_law_241 : decode cL_law 241 = .ok (.aload_n 0, 1) := by decide +kernel
theorem dL_law_242 : decode cL_law 242 = .ok (.iload 4, 2) := by decide +kernel
theorem dL_law_244 : decode cL_law 244 = .ok (.iconst 1, 1) := by decide +kernel
theorem dL_law_245 : decode cL_law 245 = .ok (.iadd, 1) := by decide +kernel
theorem dL_law_246 : decode cL_law 246 = .ok (.iaload, 1) := by decide +kernel
theorem dL_law_247 : decode cL_law 247 = .ok (.aload_n 3, 1) := by decide +kernel
theorem dL_law_248 : decode cL_law 248 = .ok (.invokestatic 76, 3) := by decide +kernel
theorem dL_law_251 : decode cL_law 251 = .ok (.istore 5, 2) := by decide +kernel
theorem dL_law_253 : decode cL_law 253 = .ok (.aload_n 2, 1) := by decide +kernel
theorem dL_law_254 : decode cL_law 254 = .ok (.aload_n 0, 1) := by decide +kernel
theorem dL_law_255 : decode cL_law 255 = .ok (.iload 4, 2) := by decide +kernel
theorem dL_law_257 : decode cL_law 257 = .ok (.iconst 1, 1) := by decide +kernel
theorem dL_law_258 : decode cL_law 258 = .ok (.iadd, 1) := by decide +kernel
theorem dL_law_259 : decode cL_law 259 = .ok (.iaload, 1) := by decide +kernel
theorem dL_law_260 : decode cL_law 260 = .ok (.invokevirtual 79, 3) := by decide +kernel
theorem dL_law_263 : decode cL_law 263 = .ok (.istore 6, 2) := by decide +kernel
theorem dL_law_265 : decode cL_law 265 = .ok (.aload_n 2, 1) := by decide +kernel
theorem dL_law_266 : decode cL_law 266 = .ok (.invokevirtual 69, 3) := by decide +kernel
theorem dL_law_269 : decode cL_law 269 = .ok (.iload 5, 2) := by decide +kernel
theorem dL_law_271 : decode cL_law 271 = .ok (.if_icmp .eq 5, 3) := by decide +kernel
theorem dL_law_274 : decode cL_law 274 = .ok (.iconst 0, 1) := by decide +kernel
theorem dL_law_275 : decode cL_law 275 = .ok (.ireturn, 1) := by decide +kernel
theorem dL_law_276 : decode cL_law 276 = .ok (.iload 5, 2) := by decide +kernel
theorem dL_law_278 : decode cL_law 278 = .ok (.ifCond .ne 15, 3) := by decide +kernel
theorem dL_law_281 : decode cL_law 281 = .ok (.aload_n 3, 1) := by decide +kernel
theorem dL_law_282 : decode cL_law 282 = .ok (.iconst 0, 1) := by decide +kernel
theorem dL_law_283 : decode cL_law 283 = .ok (.laload, 1) := by decide +kernel
theorem dL_law_284 : decode cL_law 284 = .ok (.iload 6, 2) := by decide +kernel
theorem dL_law_286 : decode cL_law 286 = .ok (.i2l, 1) := by decide +kernel
theorem dL_law_287 : decode cL_law 287 = .ok (.lcmp, 1) := by decide +kernel
theorem dL_law_288 : decode cL_law 288 = .ok (.ifCond .eq 5, 3) := by decide +kernel
theorem dL_law_291 : decode cL_law 291 = .ok (.iconst 0, 1) := by decide +kernel
theorem dL_law_292 : decode cL_law 292 = .ok (.ireturn, 1) := by decide +kernel
theorem dL_law_293 : decode cL_law 293 = .ok (.goto 544, 3) := by decide +kernel
theorem dL_law_296 : decode cL_law 296 = .ok (.aload_n 1, 1) := by decide +kernel
theorem dL_law_297 : decode cL_law 297 = .ok (.aload_n 0, 1) := by decide +kernel
theorem dL_law_298 : decode cL_law 298 = .ok (.iload 4, 2) := by decide +kernel
theorem dL_law_300 : decode cL_law 300 = .ok (.iconst 1, 1) := by decide +kernel
theorem dL_law_301 : decode cL_law 301 = .ok (.iadd, 1) := by decide +kernel
theorem dL_law_302 : decode cL_law 302 = .ok (.iaload, 1) := by decide +kernel
theorem dL_law_303 : decode cL_law 303 = .ok (.aload_n 0, 1) := by decide +kernel
theorem dL_law_304 : decode cL_law 304 = .ok (.iload 4, 2) := by decide +kernel
theorem dL_law_306 : decode cL_law 306 = .ok (.iconst 2, 1) := by decide +kernel
theorem dL_law_307 : decode cL_law 307 = .ok (.iadd, 1) := by decide +kernel
theorem dL_law_308 : decode cL_law 308 = .ok (.iaload, 1) := by decide +kernel
theorem dL_law_309 : decode cL_law 309 = .ok (.aload_n 0, 1) := by decide +kernel
theorem dL_law_310 : decode cL_law 310 = .ok (.iload 4, 2) := by decide +kernel
theorem dL_law_312 : decode cL_law 312 = .ok (.iconst 3, 1) := by decide +kernel
theorem dL_law_313 : decode cL_law 313 = .ok (.iadd, 1) := by decide +kernel
theorem dL_law_314 : decode cL_law 314 = .ok (.iaload, 1) := by decide +kernel
theorem dL_law_315 : decode cL_law 315 = .ok (.aload_n 3, 1) := by decide +kernel
theorem dL_law_316 : decode cL_law 316 = .ok (.invokestatic 80, 3) := by decide +kernel
theorem dL_law_319 : decode cL_law 319 = .ok (.istore 5, 2) := by decide +kernel
theorem dL_law_321 : decode cL_law 321 = .ok (.aload_n 2, 1) := by decide +kernel
theorem dL_law_322 : decode cL_law 322 = .ok (.aload_n 0, 1) := by decide +kernel
theorem dL_law_323 : decode cL_law 323 = .ok (.iload 4, 2) := by decide +kernel
theorem dL_law_325 : decode cL_law 325 = .ok (.iconst 1, 1) := by decide +kernel
theorem dL_law_326 : decode cL_law 326 = .ok (.iadd, 1) := by decide +kernel
theorem dL_law_327 : decode cL_law 327 = .ok (.iaload, 1) := by decide +kernel
theorem dL_law_328 : decode cL_law 328 = .ok (.aload_n 0, 1) := by decide +kernel
theorem dL_law_329 : decode cL_law 329 = .ok (.iload 4, 2) := by decide +kernel
theorem dL_law_331 : decode cL_law 331 = .ok (.iconst 2, 1) := by decide +kernel
theorem dL_law_332 : decode cL_law 332 = .ok (.iadd, 1) := by decide +kernel
theorem dL_law_333 : decode cL_law 333 = .ok (.iaload, 1) := by decide +kernel
theorem dL_law_334 : decode cL_law 334 = .ok (.aload_n 0, 1) := by decide +kernel
theorem dL_law_335 : decode cL_law 335 = .ok (.iload 4, 2) := by decide +kernel
theorem dL_law_337 : decode cL_law 337 = .ok (.iconst 3, 1) := by decide +kernel
theorem dL_law_338 : decode cL_law 338 = .ok (.iadd, 1) := by decide +kernel
theorem dL_law_339 : decode cL_law 339 = .ok (.iaload, 1) := by decide +kernel
theorem dL_law_340 : decode cL_law 340 = .ok (.invokevirtual 83, 3) := by decide +kernel
theorem dL_law_343 : decode cL_law 343 = .ok (.istore 6, 2) := by decide +kernel
theorem dL_law_345 : decode cL_law 345 = .ok (.aload_n 2, 1) := by decide +kernel
theorem dL_law_346 : decode cL_law 346 = .ok (.invokevirtual 69, 3) := by decide +kernel
theorem dL_law_349 : decode cL_law 349 = .ok (.iload 5, 2) := by decide +kernel
theorem dL_law_351 : decode cL_law 351 = .ok (.if_icmp .eq 5, 3) := by decide +kernel
theorem dL_law_354 : decode cL_law 354 = .ok (.iconst 0, 1) := by decide +kernel
theorem dL_law_355 : decode cL_law 355 = .ok (.ireturn, 1) := by decide +kernel
theorem dL_law_356 : decode cL_law 356 = .ok (.iload 5, 2) := by decide +kernel
theorem dL_law_358 : decode cL_law 358 = .ok (.ifCond .ne 15, 3) := by decide +kernel
theorem dL_law_361 : decode cL_law 361 = .ok (.aload_n 3, 1) := by decide +kernel
theorem dL_law_362 : decode cL_law 362 = .ok (.iconst 0, 1) := by decide +kernel
theorem dL_law_363 : decode cL_law 363 = .ok (.laload, 1) := by decide +kernel
theorem dL_law_364 : decode cL_law 364 = .ok (.iload 6, 2) := by decide +kernel
theorem dL_law_366 : decode cL_law 366 = .ok (.i2l, 1) := by decide +kernel
theorem dL_law_367 : decode cL_law 367 = .ok (.lcmp, 1) := by decide +kernel
theorem dL_law_368 : decode cL_law 368 = .ok (.ifCond .eq 5, 3) := by decide +kernel
theorem dL_law_371 : decode cL_law 371 = .ok (.iconst 0, 1) := by decide +kernel
theorem dL_law_372 : decode cL_law 372 = .ok (.ireturn, 1) := by decide +kernel
theorem dL_law_373 : decode cL_law 373 = .ok (.goto 464, 3) := by decide +kernel
theorem dL_law_376 : decode cL_law 376 = .ok (.aload_n 1, 1) := by decide +kernel
theorem dL_law_377 : decode cL_law 377 = .ok (.aload_n 0, 1) := by decide +kernel
theorem dL_law_378 : decode cL_law 378 = .ok (.iload 4, 2) := by decide +kernel
theorem dL_law_380 : decode cL_law 380 = .ok (.iconst 1, 1) := by decide +kernel
theorem dL_law_381 : decode cL_law 381 = .ok (.iadd, 1) := by decide +kernel
theorem dL_law_382 : decode cL_law 382 = .ok (.iaload, 1) := by decide +kernel
theorem dL_law_383 : decode cL_law 383 = .ok (.aload_n 3, 1) := by decide +kernel
theorem dL_law_384 : decode cL_law 384 = .ok (.invokestatic 84, 3) := by decide +kernel
theorem dL_law_387 : decode cL_law 387 = .ok (.istore 5, 2) := by decide +kernel
theorem dL_law_389 : decode cL_law 389 = .ok (.aload_n 2, 1) := by decide +kernel
theorem dL_law_390 : decode cL_law 390 = .ok (.aload_n 0, 1) := by decide +kernel
theorem dL_law_391 : decode cL_law 391 = .ok (.iload 4, 2) := by decide +kernel
theorem dL_law_393 : decode cL_law 393 = .ok (.iconst 1, 1) := by decide +kernel
theorem dL_law_394 : decode cL_law 394 = .ok (.iadd, 1) := by decide +kernel
theorem dL_law_395 : decode cL_law 395 = .ok (.iaload, 1) := by decide +kernel
theorem dL_law_396 : decode cL_law 396 = .ok (.invokevirtual 86, 3) := by decide +kernel
theorem dL_law_399 : decode cL_law 399 = .ok (.istore 6, 2) := by decide +kernel
theorem dL_law_401 : decode cL_law 401 = .ok (.aload_n 2, 1) := by decide +kernel
theorem dL_law_402 : decode cL_law 402 = .ok (.invokevirtual 69, 3) := by decide +kernel
theorem dL_law_405 : decode cL_law 405 = .ok (.iload 5, 2) := by decide +kernel
theorem dL_law_407 : decode cL_law 407 = .ok (.if_icmp .eq 5, 3) := by decide +kernel
theorem dL_law_410 : decode cL_law 410 = .ok (.iconst 0, 1) := by decide +kernel
theorem dL_law_411 : decode cL_law 411 = .ok (.ireturn, 1) := by decide +kernel
theorem dL_law_412 : decode cL_law 412 = .ok (.iload 5, 2) := by decide +kernel
theorem dL_law_414 : decode cL_law 414 = .ok (.ifCond .ne 15, 3) := by decide +kernel
theorem dL_law_417 : decode cL_law 417 = .ok (.aload_n 3, 1) := by decide +kernel
theorem dL_law_418 : decode cL_law 418 = .ok (.iconst 0, 1) := by decide +kernel
theorem dL_law_419 : decode cL_law 419 = .ok (.laload, 1) := by decide +kernel
theorem dL_law_420 : decode cL_law 420 = .ok (.iload 6, 2) := by decide +kernel
theorem dL_law_422 : decode cL_law 422 = .ok (.i2l, 1) := by decide +kernel
theorem dL_law_423 : decode cL_law 423 = .ok (.lcmp, 1) := by decide +kernel
theorem dL_law_424 : decode cL_law 424 = .ok (.ifCond .eq 5, 3) := by decide +kernel
theorem dL_law_427 : decode cL_law 427 = .ok (.iconst 0, 1) := by decide +kernel
theorem dL_law_428 : decode cL_law 428 = .ok (.ireturn, 1) := by decide +kernel
theorem dL_law_429 : decode cL_law 429 = .ok (.goto 408, 3) := by decide +kernel
theorem dL_law_432 : decode cL_law 432 = .ok (.aload_n 1, 1) := by decide +kernel
theorem dL_law_433 : decode cL_law 433 = .ok (.aload_n 0, 1) := by decide +kernel
theorem dL_law_434 : decode cL_law 434 = .ok (.iload 4, 2) := by decide +kernel
theorem dL_law_436 : decode cL_law 436 = .ok (.iconst 1, 1) := by decide +kernel
theorem dL_law_437 : decode cL_law 437 = .ok (.iadd, 1) := by decide +kernel
theorem dL_law_438 : decode cL_law 438 = .ok (.iaload, 1) := by decide +kernel
theorem dL_law_439 : decode cL_law 439 = .ok (.aload_n 3, 1) := by decide +kernel
theorem dL_law_440 : decode cL_law 440 = .ok (.invokestatic 87, 3) := by decide +kernel
theorem dL_law_443 : decode cL_law 443 = .ok (.istore 5, 2) := by decide +kernel
theorem dL_law_445 : decode cL_law 445 = .ok (.aload_n 2, 1) := by decide +kernel
theorem dL_law_446 : decode cL_law 446 = .ok (.aload_n 0, 1) := by decide +kernel
theorem dL_law_447 : decode cL_law 447 = .ok (.iload 4, 2) := by decide +kernel
theorem dL_law_449 : decode cL_law 449 = .ok (.iconst 1, 1) := by decide +kernel
theorem dL_law_450 : decode cL_law 450 = .ok (.iadd, 1) := by decide +kernel
theorem dL_law_451 : decode cL_law 451 = .ok (.iaload, 1) := by decide +kernel
theorem dL_law_452 : decode cL_law 452 = .ok (.invokevirtual 89, 3) := by decide +kernel
theorem dL_law_455 : decode cL_law 455 = .ok (.istore 6, 2) := by decide +kernel
theorem dL_law_457 : decode cL_law 457 = .ok (.aload_n 2, 1) := by decide +kernel
theorem dL_law_458 : decode cL_law 458 = .ok (.invokevirtual 69, 3) := by decide +kernel
theorem dL_law_461 : decode cL_law 461 = .ok (.iload 5, 2) := by decide +kernel
theorem dL_law_463 : decode cL_law 463 = .ok (.if_icmp .eq 5, 3) := by decide +kernel
theorem dL_law_466 : decode cL_law 466 = .ok (.iconst 0, 1) := by decide +kernel
theorem dL_law_467 : decode cL_law 467 = .ok (.ireturn, 1) := by decide +kernel
theorem dL_law_468 : decode cL_law 468 = .ok (.iload 5, 2) := by decide +kernel
theorem dL_law_470 : decode cL_law 470 = .ok (.ifCond .ne 15, 3) := by decide +kernel
theorem dL_law_473 : decode cL_law 473 = .ok (.aload_n 3, 1) := by decide +kernel
theorem dL_law_474 : decode cL_law 474 = .ok (.iconst 0, 1) := by decide +kernel
theorem dL_law_475 : decode cL_law 475 = .ok (.laload, 1) := by decide +kernel
theorem dL_law_476 : decode cL_law 476 = .ok (.iload 6, 2) := by decide +kernel
theorem dL_law_478 : decode cL_law 478 = .ok (.i2l, 1) := by decide +kernel
theorem dL_law_479 : decode cL_law 479 = .ok (.lcmp, 1) := by decide +kernel
theorem dL_law_480 : decode cL_law 480 = .ok (.ifCond .eq 5, 3) := by decide +kernel
theorem dL_law_483 : decode cL_law 483 = .ok (.iconst 0, 1) := by decide +kernel
theorem dL_law_484 : decode cL_law 484 = .ok (.ireturn, 1) := by decide +kernel
theorem dL_law_485 : decode cL_law 485 = .ok (.goto 352, 3) := by decide +kernel
theorem dL_law_488 : decode cL_law 488 = .ok (.aload_n 1, 1) := by decide +kernel
theorem dL_law_489 : decode cL_law 489 = .ok (.aload_n 0, 1) := by decide +kernel
theorem dL_law_490 : decode cL_law 490 = .ok (.iload 4, 2) := by decide +kernel
theorem dL_law_492 : decode cL_law 492 = .ok (.iconst 1, 1) := by decide +kernel
theorem dL_law_493 : decode cL_law 493 = .ok (.iadd, 1) := by decide +kernel
theorem dL_law_494 : decode cL_law 494 = .ok (.iaload, 1) := by decide +kernel
theorem dL_law_495 : decode cL_law 495 = .ok (.aload_n 0, 1) := by decide +kernel
theorem dL_law_496 : decode cL_law 496 = .ok (.iload 4, 2) := by decide +kernel
theorem dL_law_498 : decode cL_law 498 = .ok (.iconst 2, 1) := by decide +kernel
theorem dL_law_499 : decode cL_law 499 = .ok (.iadd, 1) := by decide +kernel
theorem dL_law_500 : decode cL_law 500 = .ok (.iaload, 1) := by decide +kernel
theorem dL_law_501 : decode cL_law 501 = .ok (.aload_n 3, 1) := by decide +kernel
theorem dL_law_502 : decode cL_law 502 = .ok (.invokestatic 90, 3) := by decide +kernel
theorem dL_law_505 : decode cL_law 505 = .ok (.istore 5, 2) := by decide +kernel
theorem dL_law_507 : decode cL_law 507 = .ok (.aload_n 2, 1) := by decide +kernel
theorem dL_law_508 : decode cL_law 508 = .ok (.aload_n 0, 1) := by decide +kernel
theorem dL_law_509 : decode cL_law 509 = .ok (.iload 4, 2) := by decide +kernel
theorem dL_law_511 : decode cL_law 511 = .ok (.iconst 1, 1) := by decide +kernel
theorem dL_law_512 : decode cL_law 512 = .ok (.iadd, 1) := by decide +kernel
theorem dL_law_513 : decode cL_law 513 = .ok (.iaload, 1) := by decide +kernel
theorem dL_law_514 : decode cL_law 514 = .ok (.aload_n 0, 1) := by decide +kernel
theorem dL_law_515 : decode cL_law 515 = .ok (.iload 4, 2) := by decide +kernel
theorem dL_law_517 : decode cL_law 517 = .ok (.iconst 2, 1) := by decide +kernel
theorem dL_law_518 : decode cL_law 518 = .ok (.iadd, 1) := by decide +kernel
theorem dL_law_519 : decode cL_law 519 = .ok (.iaload, 1) := by decide +kernel
theorem dL_law_520 : decode cL_law 520 = .ok (.invokevirtual 92, 3) := by decide +kernel
theorem dL_law_523 : decode cL_law 523 = .ok (.istore 6, 2) := by decide +kernel
theorem dL_law_525 : decode cL_law 525 = .ok (.aload_n 2, 1) := by decide +kernel
theorem dL_law_526 : decode cL_law 526 = .ok (.invokevirtual 69, 3) := by decide +kernel
theorem dL_law_529 : decode cL_law 529 = .ok (.iload 5, 2) := by decide +kernel
theorem dL_law_531 : decode cL_law 531 = .ok (.if_icmp .eq 5, 3) := by decide +kernel
theorem dL_law_534 : decode cL_law 534 = .ok (.iconst 0, 1) := by decide +kernel
theorem dL_law_535 : decode cL_law 535 = .ok (.ireturn, 1) := by decide +kernel
theorem dL_law_536 : decode cL_law 536 = .ok (.iload 5, 2) := by decide +kernel
theorem dL_law_538 : decode cL_law 538 = .ok (.ifCond .ne 15, 3) := by decide +kernel
theorem dL_law_541 : decode cL_law 541 = .ok (.aload_n 3, 1) := by decide +kernel
theorem dL_law_542 : decode cL_law 542 = .ok (.iconst 0, 1) := by decide +kernel
theorem dL_law_543 : decode cL_law 543 = .ok (.laload, 1) := by decide +kernel
theorem dL_law_544 : decode cL_law 544 = .ok (.iload 6, 2) := by decide +kernel
theorem dL_law_546 : decode cL_law 546 = .ok (.i2l, 1) := by decide +kernel
theorem dL_law_547 : decode cL_law 547 = .ok (.lcmp, 1) := by decide +kernel
theorem dL_law_548 : decode cL_law 548 = .ok (.ifCond .eq 5, 3) := by decide +kernel
theorem dL_law_551 : decode cL_law 551 = .ok (.iconst 0, 1) := by decide +kernel
theorem dL_law_552 : decode cL_law 552 = .ok (.ireturn, 1) := by decide +kernel
theorem dL_law_553 : decode cL_law 553 = .ok (.goto 284, 3) := by decide +kernel
theorem dL_law_556 : decode cL_law 556 = .ok (.aload_n 1, 1) := by decide +kernel
theorem dL_law_557 : decode cL_law 557 = .ok (.aload_n 0, 1) := by decide +kernel
theorem dL_law_558 : decode cL_law 558 = .ok (.iload 4, 2) := by decide +kernel
theorem dL_law_560 : decode cL_law 560 = .ok (.iconst 1, 1) := by decide +kernel
theorem dL_law_561 : decode cL_law 561 = .ok (.iadd, 1) := by decide +kernel
theorem dL_law_562 : decode cL_law 562 = .ok (.iaload, 1) := by decide +kernel
theorem dL_law_563 : decode cL_law 563 = .ok (.aload_n 3, 1) := by decide +kernel
theorem dL_law_564 : decode cL_law 564 = .ok (.invokestatic 93, 3) := by decide +kernel
theorem dL_law_567 : decode cL_law 567 = .ok (.istore 5, 2) := by decide +kernel
theorem dL_law_569 : decode cL_law 569 = .ok (.aload_n 2, 1) := by decide +kernel
theorem dL_law_570 : decode cL_law 570 = .ok (.aload_n 0, 1) := by decide +kernel
theorem dL_law_571 : decode cL_law 571 = .ok (.iload 4, 2) := by decide +kernel
theorem dL_law_573 : decode cL_law 573 = .ok (.iconst 1, 1) := by decide +kernel
theorem dL_law_574 : decode cL_law 574 = .ok (.iadd, 1) := by decide +kernel
theorem dL_law_575 : decode cL_law 575 = .ok (.iaload, 1) := by decide +kernel
theorem dL_law_576 : decode cL_law 576 = .ok (.invokevirtual 95, 3) := by decide +kernel
theorem dL_law_579 : decode cL_law 579 = .ok (.lstore 6, 2) := by decide +kernel
theorem dL_law_581 : decode cL_law 581 = .ok (.aload_n 2, 1) := by decide +kernel
theorem dL_law_582 : decode cL_law 582 = .ok (.invokevirtual 69, 3) := by decide +kernel
theorem dL_law_585 : decode cL_law 585 = .ok (.iload 5, 2) := by decide +kernel
theorem dL_law_587 : decode cL_law 587 = .ok (.if_icmp .eq 5, 3) := by decide +kernel
theorem dL_law_590 : decode cL_law 590 = .ok (.iconst 0, 1) := by decide +kernel
theorem dL_law_591 : decode cL_law 591 = .ok (.ireturn, 1) := by decide +kernel
theorem dL_law_592 : decode cL_law 592 = .ok (.iload 5, 2) := by decide +kernel
theorem dL_law_594 : decode cL_law 594 = .ok (.ifCond .ne 14, 3) := by decide +kernel
theorem dL_law_597 : decode cL_law 597 = .ok (.aload_n 3, 1) := by decide +kernel
theorem dL_law_598 : decode cL_law 598 = .ok (.iconst 0, 1) := by decide +kernel
theorem dL_law_599 : decode cL_law 599 = .ok (.laload, 1) := by decide +kernel
theorem dL_law_600 : decode cL_law 600 = .ok (.lload 6, 2) := by decide +kernel
theorem dL_law_602 : decode cL_law 602 = .ok (.lcmp, 1) := by decide +kernel
theorem dL_law_603 : decode cL_law 603 = .ok (.ifCond .eq 5, 3) := by decide +kernel
theorem dL_law_606 : decode cL_law 606 = .ok (.iconst 0, 1) := by decide +kernel
theorem dL_law_607 : decode cL_law 607 = .ok (.ireturn, 1) := by decide +kernel
theorem dL_law_608 : decode cL_law 608 = .ok (.goto 229, 3) := by decide +kernel
theorem dL_law_611 : decode cL_law 611 = .ok (.aload_n 1, 1) := by decide +kernel
theorem dL_law_612 : decode cL_law 612 = .ok (.invokevirtual 96, 3) := by decide +kernel
theorem dL_law_615 : decode cL_law 615 = .ok (.aload_n 2, 1) := by decide +kernel
theorem dL_law_616 : decode cL_law 616 = .ok (.invokevirtual 99, 3) := by decide +kernel
theorem dL_law_619 : decode cL_law 619 = .ok (.if_icmp .eq 218, 3) := by decide +kernel
theorem dL_law_622 : decode cL_law 622 = .ok (.iconst 0, 1) := by decide +kernel
theorem dL_law_623 : decode cL_law 623 = .ok (.ireturn, 1) := by decide +kernel
theorem dL_law_624 : decode cL_law 624 = .ok (.aload_n 1, 1) := by decide +kernel
theorem dL_law_625 : decode cL_law 625 = .ok (.invokevirtual 100, 3) := by decide +kernel
theorem dL_law_628 : decode cL_law 628 = .ok (.aload_n 2, 1) := by decide +kernel
theorem dL_law_629 : decode cL_law 629 = .ok (.invokevirtual 103, 3) := by decide +kernel
theorem dL_law_632 : decode cL_law 632 = .ok (.if_icmp .eq 205, 3) := by decide +kernel
theorem dL_law_635 : decode cL_law 635 = .ok (.iconst 0, 1) := by decide +kernel
theorem dL_law_636 : decode cL_law 636 = .ok (.ireturn, 1) := by decide +kernel
theorem dL_law_637 : decode cL_law 637 = .ok (.aload_n 1, 1) := by decide +kernel
theorem dL_law_638 : decode cL_law 638 = .ok (.aload_n 0, 1) := by decide +kernel
theorem dL_law_639 : decode cL_law 639 = .ok (.iload 4, 2) := by decide +kernel
theorem dL_law_641 : decode cL_law 641 = .ok (.iconst 1, 1) := by decide +kernel
theorem dL_law_642 : decode cL_law 642 = .ok (.iadd, 1) := by decide +kernel
theorem dL_law_643 : decode cL_law 643 = .ok (.iaload, 1) := by decide +kernel
theorem dL_law_644 : decode cL_law 644 = .ok (.aload_n 3, 1) := by decide +kernel
theorem dL_law_645 : decode cL_law 645 = .ok (.invokestatic 104, 3) := by decide +kernel
theorem dL_law_648 : decode cL_law 648 = .ok (.istore 5, 2) := by decide +kernel
theorem dL_law_650 : decode cL_law 650 = .ok (.aload_n 2, 1) := by decide +kernel
theorem dL_law_651 : decode cL_law 651 = .ok (.aload_n 0, 1) := by decide +kernel
theorem dL_law_652 : decode cL_law 652 = .ok (.iload 4, 2) := by decide +kernel
theorem dL_law_654 : decode cL_law 654 = .ok (.iconst 1, 1) := by decide +kernel
theorem dL_law_655 : decode cL_law 655 = .ok (.iadd, 1) := by decide +kernel
theorem dL_law_656 : decode cL_law 656 = .ok (.iaload, 1) := by decide +kernel
theorem dL_law_657 : decode cL_law 657 = .ok (.invokevirtual 106, 3) := by decide +kernel
theorem dL_law_660 : decode cL_law 660 = .ok (.istore 6, 2) := by decide +kernel
theorem dL_law_662 : decode cL_law 662 = .ok (.aload_n 2, 1) := by decide +kernel
theorem dL_law_663 : decode cL_law 663 = .ok (.invokevirtual 69, 3) := by decide +kernel
theorem dL_law_666 : decode cL_law 666 = .ok (.iload 5, 2) := by decide +kernel
theorem dL_law_668 : decode cL_law 668 = .ok (.if_icmp .eq 5, 3) := by decide +kernel
theorem dL_law_671 : decode cL_law 671 = .ok (.iconst 0, 1) := by decide +kernel
theorem dL_law_672 : decode cL_law 672 = .ok (.ireturn, 1) := by decide +kernel
theorem dL_law_673 : decode cL_law 673 = .ok (.iload 5, 2) := by decide +kernel
theorem dL_law_675 : decode cL_law 675 = .ok (.ifCond .ne 15, 3) := by decide +kernel
theorem dL_law_678 : decode cL_law 678 = .ok (.aload_n 3, 1) := by decide +kernel
theorem dL_law_679 : decode cL_law 679 = .ok (.iconst 0, 1) := by decide +kernel
theorem dL_law_680 : decode cL_law 680 = .ok (.laload, 1) := by decide +kernel
theorem dL_law_681 : decode cL_law 681 = .ok (.iload 6, 2) := by decide +kernel
theorem dL_law_683 : decode cL_law 683 = .ok (.i2l, 1) := by decide +kernel
theorem dL_law_684 : decode cL_law 684 = .ok (.lcmp, 1) := by decide +kernel
theorem dL_law_685 : decode cL_law 685 = .ok (.ifCond .eq 5, 3) := by decide +kernel
theorem dL_law_688 : decode cL_law 688 = .ok (.iconst 0, 1) := by decide +kernel
theorem dL_law_689 : decode cL_law 689 = .ok (.ireturn, 1) := by decide +kernel
theorem dL_law_690 : decode cL_law 690 = .ok (.goto 147, 3) := by decide +kernel
theorem dL_law_693 : decode cL_law 693 = .ok (.aload_n 1, 1) := by decide +kernel
theorem dL_law_694 : decode cL_law 694 = .ok (.aload_n 0, 1) := by decide +kernel
theorem dL_law_695 : decode cL_law 695 = .ok (.iload 4, 2) := by decide +kernel
theorem dL_law_697 : decode cL_law 697 = .ok (.iconst 1, 1) := by decide +kernel
theorem dL_law_698 : decode cL_law 698 = .ok (.iadd, 1) := by decide +kernel
theorem dL_law_699 : decode cL_law 699 = .ok (.iaload, 1) := by decide +kernel
theorem dL_law_700 : decode cL_law 700 = .ok (.ifCond .eq 7, 3) := by decide +kernel
theorem dL_law_703 : decode cL_law 703 = .ok (.iconst 1, 1) := by decide +kernel
theorem dL_law_704 : decode cL_law 704 = .ok (.goto 4, 3) := by decide +kernel
theorem dL_law_707 : decode cL_law 707 = .ok (.iconst 0, 1) := by decide +kernel
theorem dL_law_708 : decode cL_law 708 = .ok (.aload_n 0, 1) := by decide +kernel
theorem dL_law_709 : decode cL_law 709 = .ok (.iload 4, 2) := by decide +kernel
theorem dL_law_711 : decode cL_law 711 = .ok (.iconst 2, 1) := by decide +kernel
theorem dL_law_712 : decode cL_law 712 = .ok (.iadd, 1) := by decide +kernel
theorem dL_law_713 : decode cL_law 713 = .ok (.iaload, 1) := by decide +kernel
theorem dL_law_714 : decode cL_law 714 = .ok (.aload_n 0, 1) := by decide +kernel
theorem dL_law_715 : decode cL_law 715 = .ok (.iload 4, 2) := by decide +kernel
theorem dL_law_717 : decode cL_law 717 = .ok (.iconst 3, 1) := by decide +kernel
theorem dL_law_718 : decode cL_law 718 = .ok (.iadd, 1) := by decide +kernel
theorem dL_law_719 : decode cL_law 719 = .ok (.iaload, 1) := by decide +kernel
theorem dL_law_720 : decode cL_law 720 = .ok (.aload_n 0, 1) := by decide +kernel
theorem dL_law_721 : decode cL_law 721 = .ok (.iload 4, 2) := by decide +kernel
theorem dL_law_723 : decode cL_law 723 = .ok (.iconst 4, 1) := by decide +kernel
end
section
theorem dL_law_724 : decode cL_law 724 = .ok (.iadd, 1) := by decide +kernel
theorem dL_law_725 : decode cL_law 725 = .ok (.iaload, 1) := by decide +kernel
theorem dL_law_726 : decode cL_law 726 = .ok (.aload_n 3, 1) := by decide +kernel
theorem dL_law_727 : decode cL_law 727 = .ok (.invokestatic 107, 3) := by decide +kernel
theorem dL_law_730 : decode cL_law 730 = .ok (.istore 5, 2) := by decide +kernel
theorem dL_law_732 : decode cL_law 732 = .ok (.aload_n 2, 1) := by decide +kernel
theorem dL_law_733 : decode cL_law 733 = .ok (.aload_n 0, 1) := by decide +kernel
theorem dL_law_734 : decode cL_law 734 = .ok (.iload 4, 2) := by decide +kernel
theorem dL_law_736 : decode cL_law 736 = .ok (.iconst 1, 1) := by decide +kernel
theorem dL_law_737 : decode cL_law 737 = .ok (.iadd, 1) := by decide +kernel
theorem dL_law_738 : decode cL_law 738 = .ok (.iaload, 1) := by decide +kernel
theorem dL_law_739 : decode cL_law 739 = .ok (.ifCond .eq 7, 3) := by decide +kernel
theorem dL_law_742 : decode cL_law 742 = .ok (.iconst 1, 1) := by decide +kernel
theorem dL_law_743 : decode cL_law 743 = .ok (.goto 4, 3) := by decide +kernel
theorem dL_law_746 : decode cL_law 746 = .ok (.iconst 0, 1) := by decide +kernel
theorem dL_law_747 : decode cL_law 747 = .ok (.aload_n 0, 1) := by decide +kernel
theorem dL_law_748 : decode cL_law 748 = .ok (.iload 4, 2) := by decide +kernel
theorem dL_law_750 : decode cL_law 750 = .ok (.iconst 2, 1) := by decide +kernel
theorem dL_law_751 : decode cL_law 751 = .ok (.iadd, 1) := by decide +kernel
theorem dL_law_752 : decode cL_law 752 = .ok (.iaload, 1) := by decide +kernel
theorem dL_law_753 : decode cL_law 753 = .ok (.aload_n 0, 1) := by decide +kernel
theorem dL_law_754 : decode cL_law 754 = .ok (.iload 4, 2) := by decide +kernel
theorem dL_law_756 : decode cL_law 756 = .ok (.iconst 3, 1) := by decide +kernel
theorem dL_law_757 : decode cL_law 757 = .ok (.iadd, 1) := by decide +kernel
theorem dL_law_758 : decode cL_law 758 = .ok (.iaload, 1) := by decide +kernel
theorem dL_law_759 : decode cL_law 759 = .ok (.aload_n 0, 1) := by decide +kernel
theorem dL_law_760 : decode cL_law 760 = .ok (.iload 4, 2) := by decide +kernel
theorem dL_law_762 : decode cL_law 762 = .ok (.iconst 4, 1) := by decide +kernel
theorem dL_law_763 : decode cL_law 763 = .ok (.iadd, 1) := by decide +kernel
theorem dL_law_764 : decode cL_law 764 = .ok (.iaload, 1) := by decide +kernel
theorem dL_law_765 : decode cL_law 765 = .ok (.invokevirtual 110, 3) := by decide +kernel
theorem dL_law_768 : decode cL_law 768 = .ok (.istore 6, 2) := by decide +kernel
theorem dL_law_770 : decode cL_law 770 = .ok (.aload_n 2, 1) := by decide +kernel
theorem dL_law_771 : decode cL_law 771 = .ok (.invokevirtual 69, 3) := by decide +kernel
theorem dL_law_774 : decode cL_law 774 = .ok (.iload 5, 2) := by decide +kernel
theorem dL_law_776 : decode cL_law 776 = .ok (.if_icmp .eq 5, 3) := by decide +kernel
theorem dL_law_779 : decode cL_law 779 = .ok (.iconst 0, 1) := by decide +kernel
theorem dL_law_780 : decode cL_law 780 = .ok (.ireturn, 1) := by decide +kernel
theorem dL_law_781 : decode cL_law 781 = .ok (.iload 5, 2) := by decide +kernel
theorem dL_law_783 : decode cL_law 783 = .ok (.ifCond .ne 15, 3) := by decide +kernel
theorem dL_law_786 : decode cL_law 786 = .ok (.aload_n 3, 1) := by decide +kernel
theorem dL_law_787 : decode cL_law 787 = .ok (.iconst 0, 1) := by decide +kernel
theorem dL_law_788 : decode cL_law 788 = .ok (.laload, 1) := by decide +kernel
theorem dL_law_789 : decode cL_law 789 = .ok (.iload 6, 2) := by decide +kernel
theorem dL_law_791 : decode cL_law 791 = .ok (.i2l, 1) := by decide +kernel
theorem dL_law_792 : decode cL_law 792 = .ok (.lcmp, 1) := by decide +kernel
theorem dL_law_793 : decode cL_law 793 = .ok (.ifCond .eq 5, 3) := by decide +kernel
theorem dL_law_796 : decode cL_law 796 = .ok (.iconst 0, 1) := by decide +kernel
theorem dL_law_797 : decode cL_law 797 = .ok (.ireturn, 1) := by decide +kernel
theorem dL_law_798 : decode cL_law 798 = .ok (.goto 39, 3) := by decide +kernel
theorem dL_law_801 : decode cL_law 801 = .ok (.aload_n 1, 1) := by decide +kernel
theorem dL_law_802 : decode cL_law 802 = .ok (.aload_n 0, 1) := by decide +kernel
theorem dL_law_803 : decode cL_law 803 = .ok (.iload 4, 2) := by decide +kernel
theorem dL_law_805 : decode cL_law 805 = .ok (.iconst 1, 1) := by decide +kernel
theorem dL_law_806 : decode cL_law 806 = .ok (.iadd, 1) := by decide +kernel
theorem dL_law_807 : decode cL_law 807 = .ok (.iaload, 1) := by decide +kernel
theorem dL_law_808 : decode cL_law 808 = .ok (.invokevirtual 111, 3) := by decide +kernel
theorem dL_law_811 : decode cL_law 811 = .ok (.aload_n 2, 1) := by decide +kernel
theorem dL_law_812 : decode cL_law 812 = .ok (.aload_n 0, 1) := by decide +kernel
theorem dL_law_813 : decode cL_law 813 = .ok (.iload 4, 2) := by decide +kernel
theorem dL_law_815 : decode cL_law 815 = .ok (.iconst 1, 1) := by decide +kernel
theorem dL_law_816 : decode cL_law 816 = .ok (.iadd, 1) := by decide +kernel
theorem dL_law_817 : decode cL_law 817 = .ok (.iaload, 1) := by decide +kernel
theorem dL_law_818 : decode cL_law 818 = .ok (.invokevirtual 114, 3) := by decide +kernel
theorem dL_law_821 : decode cL_law 821 = .ok (.if_icmp .eq 16, 3) := by decide +kernel
theorem dL_law_824 : decode cL_law 824 = .ok (.iconst 0, 1) := by decide +kernel
theorem dL_law_825 : decode cL_law 825 = .ok (.ireturn, 1) := by decide +kernel
theorem dL_law_826 : decode cL_law 826 = .ok (.aload_n 1, 1) := by decide +kernel
theorem dL_law_827 : decode cL_law 827 = .ok (.invokevirtual 115, 3) := by decide +kernel
theorem dL_law_830 : decode cL_law 830 = .ok (.aload_n 2, 1) := by decide +kernel
theorem dL_law_831 : decode cL_law 831 = .ok (.invokevirtual 118, 3) := by decide +kernel
theorem dL_law_834 : decode cL_law 834 = .ok (.goto 3, 3) := by decide +kernel
theorem dL_law_837 : decode cL_law 837 = .ok (.iinc 4 5, 3) := by decide +kernel
theorem dL_law_840 : decode cL_law 840 = .ok (.goto (-797), 3) := by decide +kernel
theorem dL_law_843 : decode cL_law 843 = .ok (.iconst 1, 1) := by decide +kernel
theorem dL_law_844 : decode cL_law 844 = .ok (.ireturn, 1) := by decide +kernel
end
section
/-! All contracts stand on one list of words, G: a method's words are its own code, and G. -/
theorem g_goodIn {y : MethodName} {bytes : ByteArray} {maxL : Nat} {ret : Option FieldType} (h5 : Cond.code y bytes maxL ret ∈ G) : GoodIn G (Cond.code y bytes maxL ret :: G) := by
  intro w hw
  rcases List.mem_cons.mp hw with rfl | h
  · exact ⟨h5, good_of_word (G_good _ h5)⟩
  · exact ⟨h, good_of_word (G_good _ h)⟩
theorem g_goodInW {y : MethodName} {bytes : ByteArray} {maxL : Nat} {ret : Option FieldType} {hh : List (Nat × Nat × Nat × Nat)} (h5 : Cond.codeWith y bytes maxL ret hh ∈ G) : GoodIn G (Cond.codeWith y bytes maxL ret hh :: G) := by
  intro w hw
  rcases List.mem_cons.mp hw with rfl | h
  · exact ⟨h5, good_of_word (G_good _ h5)⟩
  · exact ⟨h, good_of_word (G_good _ h)⟩
theorem gV {own : String} {idx : Nat} {C : String} {y : MethodName} {bytes : ByteArray} {maxL : Nat} {ret : Option FieldType} (h1 : Cond.methodLink own idx y ∈ G) (h2 : Cond.instanceMethod y ∈ G) (h3 : Cond.selects C y y ∈ G) (h4 : Cond.initialized C ∈ G) (h5 : Cond.code y bytes maxL ret ∈ G) : GoodIn G (wsV own idx C y (Cond.code y bytes maxL ret :: G)) := by
  intro w hw
  unfold wsV at hw
  rcases List.mem_append.mp hw with h | h
  · have hG : w ∈ G := by
      rcases List.mem_cons.mp h with rfl | h
      · exact h1
      rcases List.mem_cons.mp h with rfl | h
      · exact h2
      rcases List.mem_cons.mp h with rfl | h
      · exact h3
      rcases List.mem_cons.mp h with rfl | h
      · exact h4
      exact absurd h List.not_mem_nil
    exact ⟨hG, good_of_word (G_good _ hG)⟩
  · exact g_goodIn h5 w h
theorem gS {own : String} {idx : Nat} {y : MethodName} {bytes : ByteArray} {maxL : Nat} {ret : Option FieldType} (h1 : Cond.methodLink own idx y ∈ G) (h2 : Cond.static y ∈ G) (h4 : Cond.initialized y.cls ∈ G) (h5 : Cond.code y bytes maxL ret ∈ G) : GoodIn G (va_wsS own idx y (Cond.code y bytes maxL ret :: G)) := by
  intro w hw
  unfold va_wsS at hw
  rcases List.mem_append.mp hw with h | h
  · have hG : w ∈ G := by
      rcases List.mem_cons.mp h with rfl | h
      · exact h1
      rcases List.mem_cons.mp h with rfl | h
      · exact h2
      rcases List.mem_cons.mp h with rfl | h
      · exact h4
      exact absurd h List.not_mem_nil
    exact ⟨hG, good_of_word (G_good _ hG)⟩
  · exact g_goodIn h5 w h
theorem gSW {own : String} {idx : Nat} {y : MethodName} {bytes : ByteArray} {maxL : Nat} {ret : Option FieldType} {hh : List (Nat × Nat × Nat × Nat)} (h1 : Cond.methodLink own idx y ∈ G) (h2 : Cond.static y ∈ G) (h4 : Cond.initialized y.cls ∈ G) (h5 : Cond.codeWith y bytes maxL ret hh ∈ G) : GoodIn G (va_wsS own idx y (Cond.codeWith y bytes maxL ret hh :: G)) := by
  intro w hw
  unfold va_wsS at hw
  rcases List.mem_append.mp hw with h | h
  · have hG : w ∈ G := by
      rcases List.mem_cons.mp h with rfl | h
      · exact h1
      rcases List.mem_cons.mp h with rfl | h
      · exact h2
      rcases List.mem_cons.mp h with rfl | h
      · exact h4
      exact absurd h List.not_mem_nil
    exact ⟨hG, good_of_word (G_good _ hG)⟩
  · exact g_goodInW h5 w h
/-- what the contracts take of the tables beside G: links across the nest, declared methods, castable classes -/
def zOk (U : State) : Prop := ∀ w ∈ Zw, va_Nw w U
theorem Zw_kind : ∀ w ∈ Zw, (∃ a i b n d h, w = .fieldLinkNest a i b n d h) ∨ (∃ x, w = .declares x) ∨ (∃ a b, w = .castable a b) := by
  intro w hw
  simp only [Zw, List.mem_cons, List.not_mem_nil, or_false] at hw
  rcases hw with rfl | rfl | rfl | rfl | rfl | rfl | rfl | rfl | rfl | rfl | rfl | rfl | rfl | rfl | rfl <;> first | exact Or.inl ⟨_, _, _, _, _, _, rfl⟩ | exact Or.inr (Or.inl ⟨_, rfl⟩) | exact Or.inr (Or.inr ⟨_, _, rfl⟩)
theorem zOk.warm {s U : State} (h : zOk s) (hW : s.WarmedH U.vm) : zOk U := by
  intro w hw
  rcases Zw_kind w hw with ⟨a, i, b, n, d, q, rfl⟩ | ⟨x, rfl⟩ | ⟨a, b, rfl⟩
  · exact va_Nw.warmF hW (h _ hw)
  · exact va_Nw.warmD hW (h _ hw)
  · exact va_Nw.warmC hW (h _ hw)
theorem zOk.same {u U : State} (h : zOk u) (e : u.vm = U.vm) : zOk U := by
  intro w hw
  rcases Zw_kind w hw with ⟨a, i, b, n, d, q, rfl⟩ | ⟨x, rfl⟩ | ⟨a, b, rfl⟩ <;> exact va_Nw.same rfl e (h _ hw)
theorem zOk.use {s : State} (h : zOk s) {args : Array Value} {w : Cond} (hw : w ∈ Zw) (ht : w.onTables = true) : w.before args s = true := va_Nw.use ht (h w hw)
/-- an index that was looked at -/
theorem vin2 {i : Int32} {n : Nat} (h0 : ¬ i < 0) (h1 : ¬ nI n ≤ i) (hn : n < 2 ^ 31) : vp_in i n := by
  rw [vp_in_iff]
  have a : ¬ i.toInt < 0 := fun q => h0 (Int32.lt_iff_toInt_lt.mpr q)
  have b : ¬ ((n : Int) ≤ i.toInt) := fun q => h1 (Int32.le_iff_toInt_le.mpr (by rw [nI_toInt hn]; exact q))
  omega
/-- a loop's measure -/
def fuel (n : Nat) (i b : Int32) : Prop := 0 < n ∧ b.toInt - i.toInt < n
theorem i1 {i b : Int32} (h : i < b) : (i + 1).toInt = i.toInt + 1 := by
  have h1 : i.toInt < b.toInt := Int32.lt_iff_toInt_lt.mp h
  have h2 : b.toInt < 2 ^ 31 := Int32.toInt_lt b
  have h3 := Int32.le_toInt i
  rw [Int32.toInt_add, Int.bmod_eq_of_le] <;> simp <;> omega
theorem fuel_step {n : Nat} {i b : Int32} (h : fuel (n + 1) i b) (hi : i < b) : fuel n (i + 1) b := by
  have h1 : i.toInt < b.toInt := Int32.lt_iff_toInt_lt.mp hi
  refine ⟨?_, ?_⟩
  · have := h.2; omega
  · rw [i1 hi]; have := h.2; push_cast at this; omega
theorem nle_lt {i b : Int32} (h : ¬ b ≤ i) : i < b := by
  rw [Int32.lt_iff_toInt_lt]; rw [Int32.le_iff_toInt_le] at h; omega
theorem fuel_of {n : Nat} {i b : Int32} (h0 : 0 < n) (h : b.toInt - i.toInt < n) : fuel n i b := ⟨h0, h⟩
theorem inGX0 : ∀ w ∈ u_ws RX0 TX0 3, w ∈ G := by decide +kernel
theorem inGX1 : ∀ w ∈ u_ws RX1 TX1 7, w ∈ G := by decide +kernel
theorem inGX2 : ∀ w ∈ u_ws RX2 TX2 8, w ∈ G := by decide +kernel
theorem inGX3 : ∀ w ∈ u_ws RX3 TX3 19, w ∈ G := by decide +kernel
/-- the starts of contracts: what a caller gives -/
theorem fb_ro {av : List Value} {D : va_G} {cl : List vw_C} {ws : va_W} {tys : List (ClassId × FieldType)} : FrameBlind (va_Pc av (fun U => va_P D cl ws U.heap ∧ va_K D cl tys U ∧ zOk U)) := fun a U g mk q => by
  obtain ⟨q0, qP, qK, qZ⟩ := q
  exact ⟨q0, qP, va_K.moved (u := U) (U := U.calling g mk a) (Vm.Alike.refl U.vm) qK, qZ.same rfl⟩
theorem fb_nw {av : List Value} : FrameBlind (va_Pc av zOk) := fun a U g mk q => ⟨q.1, q.2.same rfl⟩
theorem fb_rw {av : List Value} {sz : Nat} {D : va_G} {cl : List vw_C} {ws : va_W} {tys : List (ClassId × FieldType)} : FrameBlind (va_Pc av (fun U => U.heap.size = sz ∧ va_P D cl ws U.heap ∧ va_K D cl tys U ∧ va_D (fun _ => True) ws ∧ zOk U)) := fun a U g mk q => by
  obtain ⟨q0, q1, qP, qK, qD, qZ⟩ := q
  exact ⟨q0, q1, qP, va_K.moved (u := U) (U := U.calling g mk a) (Vm.Alike.refl U.vm) qK, qD, qZ.same rfl⟩
theorem pre_ro {s : State} {H : Heap} {av : List Value} {D : va_G} {cl : List vw_C} {ws : va_W} {tys : List (ClassId × FieldType)} (hP : va_P D cl ws H) (hK : va_K D cl tys s) (hZ : zOk s) : ∀ U : State, U.heap = H → s.WarmedH U.vm → va_Pc av (fun U => va_P D cl ws U.heap ∧ va_K D cl tys U ∧ zOk U) av.toArray U := fun U hU hW => ⟨rfl, by rw [hU]; exact hP, va_K.moved hW.alike hK, hZ.warm hW⟩
theorem pre_nw {s : State} {H : Heap} {av : List Value} (hZ : zOk s) : ∀ U : State, U.heap = H → s.WarmedH U.vm → va_Pc av zOk av.toArray U := fun U hU hW => ⟨rfl, hZ.warm hW⟩
theorem pre_rw {s : State} {H : Heap} {av : List Value} {A : Nat → Prop} {D : va_G} {cl : List vw_C} {ws : va_W} {tys : List (ClassId × FieldType)} (hP : va_P D cl ws H) (hK : va_K D cl tys s) (hD : va_D A ws) (hZ : zOk s) : ∀ U : State, U.heap = H → s.WarmedH U.vm → va_Pc av (fun U => U.heap.size = H.size ∧ va_P D cl ws U.heap ∧ va_K D cl tys U ∧ va_D (fun _ => True) ws ∧ zOk U) av.toArray U := fun U hU hW => ⟨rfl, by rw [hU], by rw [hU]; exact hP, va_K.moved hW.alike hK, hD.weaken (fun _ _ _ _ => trivial), hZ.warm hW⟩
end
section
abbrev Rw : Type := (Nat → Int32) × Int32
abbrev Tk : Type := Int32 × Int32 × Int32 × Int32
abbrev Bm : Type := (Nat → Int32) × Int32 × Int32 × Int32 × Int32
theorem nlt2 {i b : Int32} (h : i < b) : ¬ b ≤ i := by
  rw [Int32.lt_iff_toInt_lt] at h; rw [Int32.le_iff_toInt_le]; omega
def FX0_shiftInByte (lf : Int32) (rs : Rw) (p0 : Int32) : Int32 :=
  if lf = 0 then
    7 - (p0 &&& 7)
  else
    p0 &&& 7
set_option maxRecDepth 100000 in
theorem plX0_shiftInByte_0 (lf : Int32) (rs : Rw) (p0 : Int32) (c_4 : lf = 0) : 7 - (p0 &&& 7) = FX0_shiftInByte lf rs p0 := by
  exact (if_pos c_4).symm
set_option maxRecDepth 100000 in
theorem plX0_shiftInByte_1 (lf : Int32) (rs : Rw) (p0 : Int32) (c_4 : ¬ (lf = 0)) : p0 &&& 7 = FX0_shiftInByte lf rs p0 := by
  exact (if_neg c_4).symm
set_option maxHeartbeats 4000000 in
set_option maxRecDepth 100000 in
theorem mX0_shiftInByte (l : Launch) (dC : Nat → ClassId) (dI : Nat → Nat → Nat) (cI : ClassId) (o oa : Nat) (lf : Int32) (rs : Rw) (p0 : Int32) : Met l yX0_shiftInByte (Cond.code yX0_shiftInByte cX0_shiftInByte 2 (some .int) :: G) ({ frames := 0, cells := 0, slots := 0, locals := 0 } : Room) (va_Pc [.ref o, .int p0] (fun U => va_P (dC, dI) vwCl [(o, .inr (0, [.int lf, .ref oa, .int rs.2])), (oa, .inl (cI, 600, .inl rs.1))] U.heap ∧ va_K (dC, dI) vwCl [(cI, .int)] U ∧ zOk U)) (vp_Si (fun r => r = (FX0_shiftInByte lf rs p0))) 0 0 (fun _ => False) := by
  refine Met.ofW (cc := cX0_shiftInByte) (maxL := 2) (ret := (some .int)) (by decide) rfl ?_
  intro p e s m args below meth c s₁ B hml hv
  obtain ⟨rfl, hP, hK, hZ⟩ := hv
  have hx := B.exec
  have hb := B.bytes
  have hr := B.returns
  have hts : ∀ w ∈ G, w.before [.ref o, .int p0].toArray s = true := fun w h => atoms_spec (ws := (Cond.code yX0_shiftInByte cX0_shiftInByte 2 (some .int) :: G)) B.pre w (List.mem_cons_of_mem _ h)
  have hown : s.vm.findClass RX0 = some m.cls := findClass_of_methodNamed B.named
  have hlocks := B.notSynchronized
  have hl := lv_entry ([.ref o, .int p0]) (n := 2) (Nat.le_of_ble_eq_true rfl)
  rw [lg_entry_eq]
  generalize (lg_sl ([.ref o, .int p0]) ++ List.replicate (2 - (lg_sl ([.ref o, .int p0])).length) Slot.unset).toArray = ls at hl ⊢
  have hl : lv_has ls 2 [(0, .ref o), (1, .int p0)] := hl
  refine lv_aload_n hx hb dX0_shiftInByte_0 rfl (lv_at hl 0 rfl) ?_
  refine va_get (D := (dC, dI)) (ci := 0) (v := .int lf) (C := RX0) (T := TX0) (N := 3) hx hb hts inGX0 hown hK hP 0 rfl rfl 0 (by decide) (hts _ wd59) (fun _ h9 => h9) rfl dX0_shiftInByte_1 ?_
  refine lv_if_eq (tgt := 14) hx hb dX0_shiftInByte_4 (by decide) (fun c_4 => ?_) (fun c_4 => ?_)
  · refine lv_bipush (v := 7) hx hb dX0_shiftInByte_14 (by decide) ?_
    refine lv_iload_n hx hb dX0_shiftInByte_16 rfl (lv_at hl 1 rfl) ?_
    refine lv_bipush (v := 7) hx hb dX0_shiftInByte_17 (by decide) ?_
    refine lv_iand hx hb dX0_shiftInByte_19 ?_
    refine lv_isub hx hb dX0_shiftInByte_20 ?_
    exact W.iret (v := 7 - (p0 &&& 7)) hx hb hr (fun t ht hW => ⟨7 - (p0 &&& 7), rfl, (plX0_shiftInByte_0 lf rs p0 c_4), ht⟩) (fun q h => nomatch h) dX0_shiftInByte_21
  · refine lv_iload_n hx hb dX0_shiftInByte_7 rfl (lv_at hl 1 rfl) ?_
    refine lv_bipush (v := 7) hx hb dX0_shiftInByte_8 (by decide) ?_
    refine lv_iand hx hb dX0_shiftInByte_10 ?_
    refine lv_goto (tgt := 21) hx hb dX0_shiftInByte_11 (by decide) ?_
    exact W.iret (v := p0 &&& 7) hx hb hr (fun t ht hW => ⟨p0 &&& 7, rfl, (plX0_shiftInByte_1 lf rs p0 c_4), ht⟩) (fun q h => nomatch h) dX0_shiftInByte_21
def FX0_byteOf (lf : Int32) (rs : Rw) (p0 : Int32) : Int32 :=
  if p0 < 0 then
    0
  else
    if 600 ≤ p0 then
      0
    else
      rs.1 p0.toNatClampNeg
set_option maxRecDepth 100000 in
theorem plX0_byteOf_0 (lf : Int32) (rs : Rw) (p0 : Int32) (c_1 : p0 < 0) : 0 = FX0_byteOf lf rs p0 := by
  exact (if_pos c_1).symm
set_option maxRecDepth 100000 in
theorem plX0_byteOf_1 (lf : Int32) (rs : Rw) (p0 : Int32) (c_1 : ¬ (p0 < 0)) (c_10 : 600 ≤ p0) : 0 = FX0_byteOf lf rs p0 := by
  exact ((if_neg c_1).trans (if_pos c_10)).symm
set_option maxRecDepth 100000 in
theorem plX0_byteOf_2 (lf : Int32) (rs : Rw) (p0 : Int32) (c_1 : ¬ (p0 < 0)) (c_10 : ¬ (600 ≤ p0)) : rs.1 p0.toNatClampNeg = FX0_byteOf lf rs p0 := by
  exact ((if_neg c_1).trans (if_neg c_10)).symm
set_option maxHeartbeats 4000000 in
set_option maxRecDepth 100000 in
theorem mX0_byteOf (l : Launch) (dC : Nat → ClassId) (dI : Nat → Nat → Nat) (cI : ClassId) (o oa : Nat) (lf : Int32) (rs : Rw) (p0 : Int32) : Met l yX0_byteOf (Cond.code yX0_byteOf cX0_byteOf 2 (some .int) :: G) ({ frames := 0, cells := 0, slots := 0, locals := 0 } : Room) (va_Pc [.ref o, .int p0] (fun U => va_P (dC, dI) vwCl [(o, .inr (0, [.int lf, .ref oa, .int rs.2])), (oa, .inl (cI, 600, .inl rs.1))] U.heap ∧ va_K (dC, dI) vwCl [(cI, .int)] U ∧ zOk U)) (vp_Si (fun r => r = (FX0_byteOf lf rs p0))) 0 0 (fun _ => False) := by
  refine Met.ofW (cc := cX0_byteOf) (maxL := 2) (ret := (some .int)) (by decide) rfl ?_
  intro p e s m args below meth c s₁ B hml hv
  obtain ⟨rfl, hP, hK, hZ⟩ := hv
  have hx := B.exec
  have hb := B.bytes
  have hr := B.returns
  have hts : ∀ w ∈ G, w.before [.ref o, .int p0].toArray s = true := fun w h => atoms_spec (ws := (Cond.code yX0_byteOf cX0_byteOf 2 (some .int) :: G)) B.pre w (List.mem_cons_of_mem _ h)
  have hown : s.vm.findClass RX0 = some m.cls := findClass_of_methodNamed B.named
  have hlocks := B.notSynchronized
  have hl := lv_entry ([.ref o, .int p0]) (n := 2) (Nat.le_of_ble_eq_true rfl)
  rw [lg_entry_eq]
  generalize (lg_sl ([.ref o, .int p0]) ++ List.replicate (2 - (lg_sl ([.ref o, .int p0])).length) Slot.unset).toArray = ls at hl ⊢
  have hl : lv_has ls 2 [(0, .ref o), (1, .int p0)] := hl
  refine lv_iload_n hx hb dX0_byteOf_0 rfl (lv_at hl 1 rfl) ?_
  refine lv_if_lt (tgt := 22) hx hb dX0_byteOf_1 (by decide) (fun c_1 => ?_) (fun c_1 => ?_)
  · refine lv_iconst (v := 0) hx hb dX0_byteOf_22 (by decide) ?_
    exact W.iret (v := 0) hx hb hr (fun t ht hW => ⟨0, rfl, (plX0_byteOf_0 lf rs p0 c_1), ht⟩) (fun q h => nomatch h) dX0_byteOf_23
  · refine lv_iload_n hx hb dX0_byteOf_4 rfl (lv_at hl 1 rfl) ?_
    refine lv_aload_n hx hb dX0_byteOf_5 rfl (lv_at hl 0 rfl) ?_
    refine va_get (D := (dC, dI)) (ci := 0) (v := .ref oa) (C := RX0) (T := TX0) (N := 3) hx hb hts inGX0 hown hK hP 0 rfl rfl 1 (by decide) (hts _ wd60) (fun _ h9 => h9) rfl dX0_byteOf_6 ?_
    refine va_alen (v := 600) hx hb hK hP 1 0 rfl rfl rfl dX0_byteOf_9 ?_
    refine lv_icmp_ge (tgt := 22) hx hb dX0_byteOf_10 (by decide) (fun c_10 => ?_) (fun c_10 => ?_)
    · refine lv_iconst (v := 0) hx hb dX0_byteOf_22 (by decide) ?_
      exact W.iret (v := 0) hx hb hr (fun t ht hW => ⟨0, rfl, (plX0_byteOf_1 lf rs p0 c_1 c_10), ht⟩) (fun q h => nomatch h) dX0_byteOf_23
    · refine lv_aload_n hx hb dX0_byteOf_13 rfl (lv_at hl 0 rfl) ?_
      refine va_get (D := (dC, dI)) (ci := 0) (v := .ref oa) (C := RX0) (T := TX0) (N := 3) hx hb hts inGX0 hown hK hP 0 rfl rfl 1 (by decide) (hts _ wd60) (fun _ h9 => h9) rfl dX0_byteOf_14 ?_
      refine lv_iload_n hx hb dX0_byteOf_17 rfl (lv_at hl 1 rfl) ?_
      refine va_iald hx hb hK hP 1 0 rfl rfl (vin2 c_1 c_10 (by decide)) dX0_byteOf_18 ?_
      refine lv_goto (tgt := 23) hx hb dX0_byteOf_19 (by decide) ?_
      exact W.iret (v := rs.1 p0.toNatClampNeg) hx hb hr (fun t ht hW => ⟨rs.1 p0.toNatClampNeg, rfl, (plX0_byteOf_2 lf rs p0 c_1 c_10), ht⟩) (fun q h => nomatch h) dX0_byteOf_23
def FX0_bitOf (lf : Int32) (rs : Rw) (p0 : Int32) : Int32 :=
  let r_1 := FX0_byteOf lf rs (p0 >>> (3 &&& 31))
  let r_3 := FX0_shiftInByte lf rs p0
  (r_1 >>> (r_3 &&& 31)) &&& 1
set_option maxRecDepth 100000 in
theorem plX0_bitOf_0 (lf : Int32) (rs : Rw) (p0 : Int32) (r_1 : Int32) (hw_2 : r_1 = FX0_byteOf lf rs (p0 >>> (3 &&& 31))) (r_3 : Int32) (hw_4 : r_3 = FX0_shiftInByte lf rs p0) : (r_1 >>> (r_3 &&& 31)) &&& 1 = FX0_bitOf lf rs p0 := by
  subst hw_2
  subst hw_4
  exact rfl
set_option maxHeartbeats 4000000 in
set_option maxRecDepth 100000 in
theorem mX0_bitOf (l : Launch) (dC : Nat → ClassId) (dI : Nat → Nat → Nat) (cI : ClassId) (o oa : Nat) (lf : Int32) (rs : Rw) (p0 : Int32) : Met l yX0_bitOf (Cond.code yX0_bitOf cX0_bitOf 2 (some .int) :: G) ({ frames := 1, cells := 0, slots := 0, locals := 21 } : Room) (va_Pc [.ref o, .int p0] (fun U => va_P (dC, dI) vwCl [(o, .inr (0, [.int lf, .ref oa, .int rs.2])), (oa, .inl (cI, 600, .inl rs.1))] U.heap ∧ va_K (dC, dI) vwCl [(cI, .int)] U ∧ zOk U)) (vp_Si (fun r => r = (FX0_bitOf lf rs p0))) 0 0 (fun _ => False) := by
  refine Met.ofW (cc := cX0_bitOf) (maxL := 2) (ret := (some .int)) (by decide) rfl ?_
  intro p e s m args below meth c s₁ B hml hv
  obtain ⟨rfl, hP, hK, hZ⟩ := hv
  have hx := B.exec
  have hb := B.bytes
  have hr := B.returns
  have hts : ∀ w ∈ G, w.before [.ref o, .int p0].toArray s = true := fun w h => atoms_spec (ws := (Cond.code yX0_bitOf cX0_bitOf 2 (some .int) :: G)) B.pre w (List.mem_cons_of_mem _ h)
  have hown : s.vm.findClass RX0 = some m.cls := findClass_of_methodNamed B.named
  have hlocks := B.notSynchronized
  have hl := lv_entry ([.ref o, .int p0]) (n := 2) (Nat.le_of_ble_eq_true rfl)
  rw [lg_entry_eq]
  generalize (lg_sl ([.ref o, .int p0]) ++ List.replicate (2 - (lg_sl ([.ref o, .int p0])).length) Slot.unset).toArray = ls at hl ⊢
  have hl : lv_has ls 2 [(0, .ref o), (1, .int p0)] := hl
  refine lv_aload_n hx hb dX0_bitOf_0 rfl (lv_at hl 0 rfl) ?_
  refine lv_iload_n hx hb dX0_bitOf_1 rfl (lv_at hl 1 rfl) ?_
  refine lv_iconst (v := 3) hx hb dX0_bitOf_2 (by decide) ?_
  refine lv_ishr hx hb dX0_bitOf_3 ?_
  have hPc := hP.sub (ws' := [(o, .inr (0, [.int lf, .ref oa, .int rs.2])), (oa, .inl (cI, 600, .inl rs.1))]) [0, 1] rfl
  have hKc := hK.sub (tys' := [(cI, .int)]) [0] rfl
  refine vp_callSi (va_Run.run (va_runV (As := [.int (p0 >>> (3 &&& 31))]) (rest := []) ⟨hx, hb, hml, hown, hts⟩ (mX0_byteOf l dC dI cI o oa lf rs (p0 >>> (3 &&& 31))) (cwV 1 hts (gV wd154 wd139 wd140 wd28 wd141) rfl rfl rfl (by decide +kernel) ⟨Nat.le_of_ble_eq_true rfl, Nat.le_of_ble_eq_true rfl⟩) ⟨fb_ro, va_recv hKc hPc (ci := 0) (q0 := 0) rfl rfl, pre_ro hPc hKc hZ⟩ rfl rfl hl.1 rfl (lv_room (Nat.le_of_ble_eq_true rfl)) dX0_bitOf_4 ⟨Nat.le_of_ble_eq_true rfl, Nat.le_of_ble_eq_true rfl⟩)) (fun r_1 hw_2 => ?_)
  refine lv_aload_n hx hb dX0_bitOf_7 rfl (lv_at hl 0 rfl) ?_
  refine lv_iload_n hx hb dX0_bitOf_8 rfl (lv_at hl 1 rfl) ?_
  have hPc := hP.sub (ws' := [(o, .inr (0, [.int lf, .ref oa, .int rs.2])), (oa, .inl (cI, 600, .inl rs.1))]) [0, 1] rfl
  have hKc := hK.sub (tys' := [(cI, .int)]) [0] rfl
  refine vp_callSi (va_Run.run (va_runV (As := [.int p0]) (rest := [.int r_1]) ⟨hx, hb, hml, hown, hts⟩ (mX0_shiftInByte l dC dI cI o oa lf rs p0) (cwV 1 hts (gV wd155 wd156 wd1 wd28 wd157) rfl rfl rfl (by decide +kernel) ⟨Nat.le_of_ble_eq_true rfl, Nat.le_of_ble_eq_true rfl⟩) ⟨fb_ro, va_recv hKc hPc (ci := 0) (q0 := 0) rfl rfl, pre_ro hPc hKc hZ⟩ rfl rfl hl.1 rfl (lv_room (Nat.le_of_ble_eq_true rfl)) dX0_bitOf_9 ⟨Nat.le_of_ble_eq_true rfl, Nat.le_of_ble_eq_true rfl⟩)) (fun r_3 hw_4 => ?_)
  refine lv_ishr hx hb dX0_bitOf_12 ?_
  refine lv_iconst (v := 1) hx hb dX0_bitOf_13 (by decide) ?_
  refine lv_iand hx hb dX0_bitOf_14 ?_
  exact W.iret (v := (r_1 >>> (r_3 &&& 31)) &&& 1) hx hb hr (fun t ht hW => ⟨(r_1 >>> (r_3 &&& 31)) &&& 1, rfl, (plX0_bitOf_0 lf rs p0 _ hw_2 _ hw_4), ht⟩) (fun q h => nomatch h) dX0_bitOf_15
def FX0_isMarkAt (lf : Int32) (rs : Rw) (p0 : Int32) : Int32 :=
  if rs.2 ≤ (p0 + 1) then
    0
  else
    let r_1 := FX0_byteOf lf rs p0
    if r_1 = 255 then
      let r_3 := FX0_byteOf lf rs (p0 + 1)
      if r_3 < 128 then
        0
      else
        1
    else
      0
set_option maxRecDepth 100000 in
theorem plX0_isMarkAt_0 (lf : Int32) (rs : Rw) (p0 : Int32) (c_7 : rs.2 ≤ (p0 + 1)) : 0 = FX0_isMarkAt lf rs p0 := by
  exact (if_pos c_7).symm
set_option maxRecDepth 100000 in
theorem plX0_isMarkAt_1 (lf : Int32) (rs : Rw) (p0 : Int32) (c_7 : ¬ (rs.2 ≤ (p0 + 1))) (r_1 : Int32) (hw_2 : r_1 = FX0_byteOf lf rs p0) (c_18 : ¬ (r_1 = 255)) : 0 = FX0_isMarkAt lf rs p0 := by
  subst hw_2
  exact ((if_neg c_7).trans (if_neg c_18)).symm
set_option maxRecDepth 100000 in
theorem plX0_isMarkAt_2 (lf : Int32) (rs : Rw) (p0 : Int32) (c_7 : ¬ (rs.2 ≤ (p0 + 1))) (r_1 : Int32) (hw_2 : r_1 = FX0_byteOf lf rs p0) (c_18 : r_1 = 255) (r_3 : Int32) (hw_4 : r_3 = FX0_byteOf lf rs (p0 + 1)) (c_31 : r_3 < 128) : 0 = FX0_isMarkAt lf rs p0 := by
  subst hw_2
  subst hw_4
  exact (((if_neg c_7).trans (if_pos c_18)).trans (if_pos c_31)).symm
set_option maxRecDepth 100000 in
theorem plX0_isMarkAt_3 (lf : Int32) (rs : Rw) (p0 : Int32) (c_7 : ¬ (rs.2 ≤ (p0 + 1))) (r_1 : Int32) (hw_2 : r_1 = FX0_byteOf lf rs p0) (c_18 : r_1 = 255) (r_3 : Int32) (hw_4 : r_3 = FX0_byteOf lf rs (p0 + 1)) (c_31 : ¬ (r_3 < 128)) : 1 = FX0_isMarkAt lf rs p0 := by
  subst hw_2
  subst hw_4
  exact (((if_neg c_7).trans (if_pos c_18)).trans (if_neg c_31)).symm
set_option maxHeartbeats 4000000 in
set_option maxRecDepth 100000 in
theorem mX0_isMarkAt (l : Launch) (dC : Nat → ClassId) (dI : Nat → Nat → Nat) (cI : ClassId) (o oa : Nat) (lf : Int32) (rs : Rw) (p0 : Int32) : Met l yX0_isMarkAt (Cond.code yX0_isMarkAt cX0_isMarkAt 2 (some .boolean) :: G) ({ frames := 1, cells := 0, slots := 0, locals := 21 } : Room) (va_Pc [.ref o, .int p0] (fun U => va_P (dC, dI) vwCl [(o, .inr (0, [.int lf, .ref oa, .int rs.2])), (oa, .inl (cI, 600, .inl rs.1))] U.heap ∧ va_K (dC, dI) vwCl [(cI, .int)] U ∧ zOk U)) (vp_Si (fun r => r = (FX0_isMarkAt lf rs p0))) 0 0 (fun _ => False) := by
  refine Met.ofW (cc := cX0_isMarkAt) (maxL := 2) (ret := (some .boolean)) (by decide) rfl ?_
  intro p e s m args below meth c s₁ B hml hv
  obtain ⟨rfl, hP, hK, hZ⟩ := hv
  have hx := B.exec
  have hb := B.bytes
  have hr := B.returns
  have hts : ∀ w ∈ G, w.before [.ref o, .int p0].toArray s = true := fun w h => atoms_spec (ws := (Cond.code yX0_isMarkAt cX0_isMarkAt 2 (some .boolean) :: G)) B.pre w (List.mem_cons_of_mem _ h)
  have hown : s.vm.findClass RX0 = some m.cls := findClass_of_methodNamed B.named
  have hlocks := B.notSynchronized
  have hl := lv_entry ([.ref o, .int p0]) (n := 2) (Nat.le_of_ble_eq_true rfl)
  rw [lg_entry_eq]
  generalize (lg_sl ([.ref o, .int p0]) ++ List.replicate (2 - (lg_sl ([.ref o, .int p0])).length) Slot.unset).toArray = ls at hl ⊢
  have hl : lv_has ls 2 [(0, .ref o), (1, .int p0)] := hl
  refine lv_iload_n hx hb dX0_isMarkAt_0 rfl (lv_at hl 1 rfl) ?_
  refine lv_iconst (v := 1) hx hb dX0_isMarkAt_1 (by decide) ?_
  refine lv_iadd hx hb dX0_isMarkAt_2 ?_
  refine lv_aload_n hx hb dX0_isMarkAt_3 rfl (lv_at hl 0 rfl) ?_
  refine va_get (D := (dC, dI)) (ci := 0) (v := .int rs.2) (C := RX0) (T := TX0) (N := 3) hx hb hts inGX0 hown hK hP 0 rfl rfl 2 (by decide) (hts _ wd61) (fun _ h9 => h9) rfl dX0_isMarkAt_4 ?_
  refine lv_icmp_ge (tgt := 38) hx hb dX0_isMarkAt_7 (by decide) (fun c_7 => ?_) (fun c_7 => ?_)
  · refine lv_iconst (v := 0) hx hb dX0_isMarkAt_38 (by decide) ?_
    exact W.zret (v := 0) (ty := .boolean) hx hb hr rfl (fun t ht hW => ⟨0, rfl, (plX0_isMarkAt_0 lf rs p0 c_7), ht⟩) (fun q h => nomatch h) dX0_isMarkAt_39
  · refine lv_aload_n hx hb dX0_isMarkAt_10 rfl (lv_at hl 0 rfl) ?_
    refine lv_iload_n hx hb dX0_isMarkAt_11 rfl (lv_at hl 1 rfl) ?_
    have hPc := hP.sub (ws' := [(o, .inr (0, [.int lf, .ref oa, .int rs.2])), (oa, .inl (cI, 600, .inl rs.1))]) [0, 1] rfl
    have hKc := hK.sub (tys' := [(cI, .int)]) [0] rfl
    refine vp_callSi (va_Run.run (va_runV (As := [.int p0]) (rest := []) ⟨hx, hb, hml, hown, hts⟩ (mX0_byteOf l dC dI cI o oa lf rs p0) (cwV 1 hts (gV wd154 wd139 wd140 wd28 wd141) rfl rfl rfl (by decide +kernel) ⟨Nat.le_of_ble_eq_true rfl, Nat.le_of_ble_eq_true rfl⟩) ⟨fb_ro, va_recv hKc hPc (ci := 0) (q0 := 0) rfl rfl, pre_ro hPc hKc hZ⟩ rfl rfl hl.1 rfl (lv_room (Nat.le_of_ble_eq_true rfl)) dX0_isMarkAt_12 ⟨Nat.le_of_ble_eq_true rfl, Nat.le_of_ble_eq_true rfl⟩)) (fun r_1 hw_2 => ?_)
    refine lv_sipush (v := 255) hx hb dX0_isMarkAt_15 (by decide) ?_
    refine lv_icmp_ne (tgt := 38) hx hb dX0_isMarkAt_18 (by decide) (fun c_18 => ?_) (fun c_18 => ?_)
    · refine lv_iconst (v := 0) hx hb dX0_isMarkAt_38 (by decide) ?_
      exact W.zret (v := 0) (ty := .boolean) hx hb hr rfl (fun t ht hW => ⟨0, rfl, (plX0_isMarkAt_1 lf rs p0 c_7 _ hw_2 c_18), ht⟩) (fun q h => nomatch h) dX0_isMarkAt_39
    · refine lv_aload_n hx hb dX0_isMarkAt_21 rfl (lv_at hl 0 rfl) ?_
      refine lv_iload_n hx hb dX0_isMarkAt_22 rfl (lv_at hl 1 rfl) ?_
      refine lv_iconst (v := 1) hx hb dX0_isMarkAt_23 (by decide) ?_
      refine lv_iadd hx hb dX0_isMarkAt_24 ?_
      have hPc := hP.sub (ws' := [(o, .inr (0, [.int lf, .ref oa, .int rs.2])), (oa, .inl (cI, 600, .inl rs.1))]) [0, 1] rfl
      have hKc := hK.sub (tys' := [(cI, .int)]) [0] rfl
      refine vp_callSi (va_Run.run (va_runV (As := [.int (p0 + 1)]) (rest := []) ⟨hx, hb, hml, hown, hts⟩ (mX0_byteOf l dC dI cI o oa lf rs (p0 + 1)) (cwV 1 hts (gV wd154 wd139 wd140 wd28 wd141) rfl rfl rfl (by decide +kernel) ⟨Nat.le_of_ble_eq_true rfl, Nat.le_of_ble_eq_true rfl⟩) ⟨fb_ro, va_recv hKc hPc (ci := 0) (q0 := 0) rfl rfl, pre_ro hPc hKc hZ⟩ rfl rfl hl.1 rfl (lv_room (Nat.le_of_ble_eq_true rfl)) dX0_isMarkAt_25 ⟨Nat.le_of_ble_eq_true rfl, Nat.le_of_ble_eq_true rfl⟩)) (fun r_3 hw_4 => ?_)
      refine lv_sipush (v := 128) hx hb dX0_isMarkAt_28 (by decide) ?_
      refine lv_icmp_lt (tgt := 38) hx hb dX0_isMarkAt_31 (by decide) (fun c_31 => ?_) (fun c_31 => ?_)
      · refine lv_iconst (v := 0) hx hb dX0_isMarkAt_38 (by decide) ?_
        exact W.zret (v := 0) (ty := .boolean) hx hb hr rfl (fun t ht hW => ⟨0, rfl, (plX0_isMarkAt_2 lf rs p0 c_7 _ hw_2 c_18 _ hw_4 c_31), ht⟩) (fun q h => nomatch h) dX0_isMarkAt_39
      · refine lv_iconst (v := 1) hx hb dX0_isMarkAt_34 (by decide) ?_
        refine lv_goto (tgt := 39) hx hb dX0_isMarkAt_35 (by decide) ?_
        exact W.zret (v := 1) (ty := .boolean) hx hb hr rfl (fun t ht hW => ⟨1, rfl, (plX0_isMarkAt_3 lf rs p0 c_7 _ hw_2 c_18 _ hw_4 c_31), ht⟩) (fun q h => nomatch h) dX0_isMarkAt_39
def FX0_setBit (lf : Int32) (rs : Rw) (p0 : Int32) (p1 : Int32) : Rw :=
  let x_1 := p0 >>> (3 &&& 31)
  if x_1 < 0 then
    rs
  else
    if x_1 < 600 then
      let r_2 := FX0_shiftInByte lf rs p0
      let f_4 := ((rs.1 x_1.toNatClampNeg) &&& ((1 <<< (r_2 &&& 31)) ^^^ (-1))) ||| (p1 <<< (r_2 &&& 31))
      let x_5 := if rs.2 < x_1 + 1 then x_1 + 1 else rs.2
      (upd rs.1 x_1.toNatClampNeg f_4, x_5)
    else
      rs
set_option maxRecDepth 100000 in
theorem plX0_setBit_0 (lf : Int32) (rs : Rw) (p0 : Int32) (p1 : Int32) (x_1 : Int32) (ex_1 : x_1 = p0 >>> (3 &&& 31)) (c_5 : x_1 < 0) : rs = FX0_setBit lf rs p0 p1 := by
  subst ex_1
  exact (if_pos c_5).symm
set_option maxRecDepth 100000 in
theorem plX0_setBit_1 (lf : Int32) (rs : Rw) (p0 : Int32) (p1 : Int32) (x_1 : Int32) (ex_1 : x_1 = p0 >>> (3 &&& 31)) (c_5 : ¬ (x_1 < 0)) (c_14 : x_1 < 600) (r_2 : Int32) (hw_3 : r_2 = FX0_shiftInByte lf rs p0) (f_4 : Int32) (ef_4 : f_4 = ((rs.1 x_1.toNatClampNeg) &&& ((1 <<< (r_2 &&& 31)) ^^^ (-1))) ||| (p1 <<< (r_2 &&& 31))) (x_5 : Int32) (ex_5 : x_5 = if rs.2 < x_1 + 1 then x_1 + 1 else rs.2) : (upd rs.1 x_1.toNatClampNeg f_4, x_5) = FX0_setBit lf rs p0 p1 := by
  subst ex_1
  subst hw_3
  subst ef_4
  subst ex_5
  exact ((if_neg c_5).trans (if_pos c_14)).symm
set_option maxRecDepth 100000 in
theorem plX0_setBit_2 (lf : Int32) (rs : Rw) (p0 : Int32) (p1 : Int32) (x_1 : Int32) (ex_1 : x_1 = p0 >>> (3 &&& 31)) (c_5 : ¬ (x_1 < 0)) (c_14 : ¬ (x_1 < 600)) : rs = FX0_setBit lf rs p0 p1 := by
  subst ex_1
  exact ((if_neg c_5).trans (if_neg c_14)).symm
set_option maxHeartbeats 4000000 in
set_option maxRecDepth 100000 in
theorem mX0_setBit (l : Launch) (dC : Nat → ClassId) (dI : Nat → Nat → Nat) (cI : ClassId) (o oa : Nat) (sz : Nat) (lf : Int32) (rs : Rw) (p0 : Int32) (p1 : Int32) : Met l yX0_setBit (Cond.code yX0_setBit cX0_setBit 5 none :: G) ({ frames := 1, cells := 0, slots := 0, locals := 21 } : Room) (va_Pc [.ref o, .int p0, .int p1] (fun U => U.heap.size = sz ∧ va_P (dC, dI) vwCl [(o, .inr (0, [.int lf, .ref oa, .int rs.2])), (oa, .inl (cI, 600, .inl rs.1))] U.heap ∧ va_K (dC, dI) vwCl [(cI, .int)] U ∧ va_D (fun _ => True) [(o, .inr (0, [.int lf, .ref oa, .int rs.2])), (oa, .inl (cI, 600, .inl rs.1))] ∧ zOk U)) (va_Qv (fun (u : Rw) => u = (FX0_setBit lf rs p0 p1)) (fun (u : Rw) t => va_P (dC, dI) vwCl [(o, .inr (0, [.int lf, .ref oa, .int u.2])), (oa, .inl (cI, 600, .inl u.1))] t.heap ∧ va_D (va_A [(o, .inr (0, [.int lf, .ref oa, .int rs.2])), (oa, .inl (cI, 600, .inl rs.1))] sz) [(o, .inr (0, [.int lf, .ref oa, .int u.2])), (oa, .inl (cI, 600, .inl u.1))]) (va_A [(o, .inr (0, [.int lf, .ref oa, .int rs.2])), (oa, .inl (cI, 600, .inl rs.1))] sz)) 0 0 (va_A [(o, .inr (0, [.int lf, .ref oa, .int rs.2])), (oa, .inl (cI, 600, .inl rs.1))] sz) := by
  refine Met.ofW (cc := cX0_setBit) (maxL := 5) (ret := none) (by decide) rfl ?_
  intro p e s m args below meth c s₁ B hml hv
  obtain ⟨rfl, hsz, hP, hK, hD0, hZ⟩ := hv
  have hx := B.exec
  have hb := B.bytes
  have hr := B.returns
  have hts : ∀ w ∈ G, w.before [.ref o, .int p0, .int p1].toArray s = true := fun w h => atoms_spec (ws := (Cond.code yX0_setBit cX0_setBit 5 none :: G)) B.pre w (List.mem_cons_of_mem _ h)
  have hown : s.vm.findClass RX0 = some m.cls := findClass_of_methodNamed B.named
  have hlocks := B.notSynchronized
  subst hsz
  have hD := hD0.self (sz := s.heap.size)
  generalize hAe : va_A [(o, .inr (0, [.int lf, .ref oa, .int rs.2])), (oa, .inl (cI, 600, .inl rs.1))] s.heap.size = A at hD ⊢
  have hA : ∀ q : Nat, s.heap.size ≤ q → A q := fun q h => by rw [← hAe]; exact Or.inr h
  have hS : va_S A s.heap s.heap [] := va_S.rf
  have hP : va_P (dC, dI) vwCl [(o, .inr (0, [.int lf, .ref oa, .int rs.2])), (oa, .inl (cI, 600, .inl rs.1))] s.heap := hP
  have hl := lv_entry ([.ref o, .int p0, .int p1]) (n := 5) (Nat.le_of_ble_eq_true rfl)
  rw [lg_entry_eq]
  generalize (lg_sl ([.ref o, .int p0, .int p1]) ++ List.replicate (5 - (lg_sl ([.ref o, .int p0, .int p1])).length) Slot.unset).toArray = ls at hl ⊢
  have hl : lv_has ls 5 [(0, .ref o), (1, .int p0), (2, .int p1)] := hl
  refine lv_iload_n hx hb dX0_setBit_0 rfl (lv_at hl 1 rfl) ?_
  refine lv_iconst (v := 3) hx hb dX0_setBit_1 (by decide) ?_
  refine lv_ishr hx hb dX0_setBit_2 ?_
  refine lv_topi (fun x_1 ex_1 => ?_)
  refine lv_istore_n (lv' := [(3, .int x_1), (0, .ref o), (1, .int p0), (2, .int p1)]) hx hb dX0_setBit_3 rfl hl (by decide) rfl (fun ls hl => ?_)
  refine lv_iload_n hx hb dX0_setBit_4 rfl (lv_at hl 0 rfl) ?_
  refine lv_if_lt (tgt := 17) hx hb dX0_setBit_5 (by decide) (fun c_5 => ?_) (fun c_5 => ?_)
  · have hP9 := hP.sub (ws' := [(o, .inr (0, [.int lf, .ref oa, .int rs.2])), (oa, .inl (cI, 600, .inl rs.1))]) [0, 1] rfl
    have hD9 := hD.sub (ws' := [(o, .inr (0, [.int lf, .ref oa, .int rs.2])), (oa, .inl (cI, 600, .inl rs.1))]) [0, 1] (by decide) rfl
    exact W.vret hx hb hr (fun t ht hW => ⟨⟨rs, rfl, (plX0_setBit_0 lf rs p0 p1 _ ex_1 c_5), by rw [ht]; exact hP9, hD9⟩, hS.F ht⟩) hS.2.2 dX0_setBit_17
  · refine lv_iload_n hx hb dX0_setBit_8 rfl (lv_at hl 0 rfl) ?_
    refine lv_aload_n hx hb dX0_setBit_9 rfl (lv_at hl 1 rfl) ?_
    refine va_get (D := (dC, dI)) (ci := 0) (v := .ref oa) (C := RX0) (T := TX0) (N := 3) hx hb hts inGX0 hown hK hP 0 rfl rfl 1 (by decide) (hts _ wd60) (fun _ h9 => h9) rfl dX0_setBit_10 ?_
    refine va_alen (v := 600) hx hb hK hP 1 0 rfl rfl rfl dX0_setBit_13 ?_
    refine lv_icmp_lt (tgt := 18) hx hb dX0_setBit_14 (by decide) (fun c_14 => ?_) (fun c_14 => ?_)
    · refine lv_aload_n hx hb dX0_setBit_18 rfl (lv_at hl 1 rfl) ?_
      refine lv_iload_n hx hb dX0_setBit_19 rfl (lv_at hl 2 rfl) ?_
      have hPc := hP.sub (ws' := [(o, .inr (0, [.int lf, .ref oa, .int rs.2])), (oa, .inl (cI, 600, .inl rs.1))]) [0, 1] rfl
      have hKc := hK.sub (tys' := [(cI, .int)]) [0] rfl
      refine vp_callSi (va_Run.run (va_runV (As := [.int p0]) (rest := []) ⟨hx, hb, hml, hown, hts⟩ (mX0_shiftInByte l dC dI cI o oa lf rs p0) (cwV 1 hts (gV wd155 wd156 wd1 wd28 wd157) rfl rfl rfl (by decide +kernel) ⟨Nat.le_of_ble_eq_true rfl, Nat.le_of_ble_eq_true rfl⟩) ⟨fb_ro, va_recv hKc hPc (ci := 0) (q0 := 0) rfl rfl, pre_ro hPc hKc hZ⟩ rfl rfl hl.1 rfl (lv_room (Nat.le_of_ble_eq_true rfl)) dX0_setBit_20 ⟨Nat.le_of_ble_eq_true rfl, Nat.le_of_ble_eq_true rfl⟩)) (fun r_2 hw_3 => ?_)
      refine lv_istore (lv' := [(4, .int r_2), (3, .int x_1), (0, .ref o), (1, .int p0), (2, .int p1)]) hx hb dX0_setBit_23 hl (by decide) rfl (fun ls hl => ?_)
      refine lv_aload_n hx hb dX0_setBit_25 rfl (lv_at hl 2 rfl) ?_
      refine va_get (D := (dC, dI)) (ci := 0) (v := .ref oa) (C := RX0) (T := TX0) (N := 3) hx hb hts inGX0 hown hK hP 0 rfl rfl 1 (by decide) (hts _ wd60) (fun _ h9 => h9) rfl dX0_setBit_26 ?_
      refine lv_iload_n hx hb dX0_setBit_29 rfl (lv_at hl 1 rfl) ?_
      refine lv_aload_n hx hb dX0_setBit_30 rfl (lv_at hl 2 rfl) ?_
      refine va_get (D := (dC, dI)) (ci := 0) (v := .ref oa) (C := RX0) (T := TX0) (N := 3) hx hb hts inGX0 hown hK hP 0 rfl rfl 1 (by decide) (hts _ wd60) (fun _ h9 => h9) rfl dX0_setBit_31 ?_
      refine lv_iload_n hx hb dX0_setBit_34 rfl (lv_at hl 1 rfl) ?_
      refine va_iald hx hb hK hP 1 0 rfl rfl (vin2 c_5 (nlt2 c_14) (by decide)) dX0_setBit_35 ?_
      refine lv_iconst (v := 1) hx hb dX0_setBit_36 (by decide) ?_
      refine lv_iload hx hb dX0_setBit_37 (lv_at hl 0 rfl) ?_
      refine lv_ishl hx hb dX0_setBit_39 ?_
      refine lv_iconst (v := (-1)) hx hb dX0_setBit_40 (by decide) ?_
      refine lv_ixor hx hb dX0_setBit_41 ?_
      refine lv_iand hx hb dX0_setBit_42 ?_
      refine lv_iload_n hx hb dX0_setBit_43 rfl (lv_at hl 4 rfl) ?_
      refine lv_iload hx hb dX0_setBit_44 (lv_at hl 0 rfl) ?_
      refine lv_ishl hx hb dX0_setBit_46 ?_
      refine lv_ior hx hb dX0_setBit_47 ?_
      refine lv_topi (fun f_4 ef_4 => ?_)
      refine va_iast hx hb hK hP hD hS 1 0 rfl rfl (vin2 c_5 (nlt2 c_14) (by decide)) dX0_setBit_48 (fun H locs hP hD hS => ?_)
      have hP : va_P (dC, dI) vwCl [(o, .inr (0, [.int lf, .ref oa, .int rs.2])), (oa, .inl (cI, 600, .inl (upd rs.1 x_1.toNatClampNeg f_4)))] H := hP
      have hD : va_D A [(o, .inr (0, [.int lf, .ref oa, .int rs.2])), (oa, .inl (cI, 600, .inl (upd rs.1 x_1.toNatClampNeg f_4)))] := hD
      refine lv_aload_n hx hb dX0_setBit_49 rfl (lv_at hl 2 rfl) ?_
      refine lv_aload_n hx hb dX0_setBit_50 rfl (lv_at hl 2 rfl) ?_
      refine va_get (D := (dC, dI)) (ci := 0) (v := .int rs.2) (C := RX0) (T := TX0) (N := 3) hx hb hts inGX0 hown hK hP 0 rfl rfl 2 (by decide) (hts _ wd61) (fun _ h9 => h9) rfl dX0_setBit_51 ?_
      refine lv_iload_n hx hb dX0_setBit_54 rfl (lv_at hl 1 rfl) ?_
      refine lv_iconst (v := 1) hx hb dX0_setBit_55 (by decide) ?_
      refine lv_iadd hx hb dX0_setBit_56 ?_
      refine va_mmax hx hb (hml.trans hl.1.symm) hown (hts _ wd295) (hts _ wd51) (hts _ wd27) (hts _ wd52) (Nat.le_of_ble_eq_true rfl) (Nat.le_of_ble_eq_true rfl) (Nat.le_of_ble_eq_true rfl) (Nat.le_of_ble_eq_true rfl) dX0_setBit_57 ?_
      refine lv_topi (fun x_5 ex_5 => ?_)
      refine va_put (D := (dC, dI)) (ci := 0) (v := .int x_5) (ty := .int) (C := RX0) (T := TX0) (N := 3) hx hb hts inGX0 tyX0 tyX0_ok nmX0 hown hK hP hD hS 0 rfl rfl 2 (by decide) (hts _ wd61) (fun _ h9 => h9) rfl (by decide +kernel) rfl rfl (Nat.le_of_ble_eq_true rfl) dX0_setBit_60 (fun H locs hP hD hS => ?_)
      have hP : va_P (dC, dI) vwCl [(o, .inr (0, [.int lf, .ref oa, .int x_5])), (oa, .inl (cI, 600, .inl (upd rs.1 x_1.toNatClampNeg f_4)))] H := hP
      have hD : va_D A [(o, .inr (0, [.int lf, .ref oa, .int x_5])), (oa, .inl (cI, 600, .inl (upd rs.1 x_1.toNatClampNeg f_4)))] := hD
      have hP9 := hP.sub (ws' := [(o, .inr (0, [.int lf, .ref oa, .int x_5])), (oa, .inl (cI, 600, .inl (upd rs.1 x_1.toNatClampNeg f_4)))]) [0, 1] rfl
      have hD9 := hD.sub (ws' := [(o, .inr (0, [.int lf, .ref oa, .int x_5])), (oa, .inl (cI, 600, .inl (upd rs.1 x_1.toNatClampNeg f_4)))]) [0, 1] (by decide) rfl
      exact W.vret hx hb hr (fun t ht hW => ⟨⟨(upd rs.1 x_1.toNatClampNeg f_4, x_5), rfl, (plX0_setBit_1 lf rs p0 p1 _ ex_1 c_5 c_14 _ hw_3 _ ef_4 _ ex_5), by rw [ht]; exact hP9, hD9⟩, hS.F ht⟩) hS.2.2 dX0_setBit_63
    · have hP9 := hP.sub (ws' := [(o, .inr (0, [.int lf, .ref oa, .int rs.2])), (oa, .inl (cI, 600, .inl rs.1))]) [0, 1] rfl
      have hD9 := hD.sub (ws' := [(o, .inr (0, [.int lf, .ref oa, .int rs.2])), (oa, .inl (cI, 600, .inl rs.1))]) [0, 1] (by decide) rfl
      exact W.vret hx hb hr (fun t ht hW => ⟨⟨rs, rfl, (plX0_setBit_2 lf rs p0 p1 _ ex_1 c_5 c_14), by rw [ht]; exact hP9, hD9⟩, hS.F ht⟩) hS.2.2 dX0_setBit_17
def FX0_addByte (lf : Int32) (rs : Rw) (p0 : Int32) : Rw :=
  if rs.2 < 0 then
    rs
  else
    if 600 ≤ rs.2 then
      rs
    else
      let f_1 := rs.2 + 1
      (upd rs.1 rs.2.toNatClampNeg p0, f_1)
set_option maxRecDepth 100000 in
theorem plX0_addByte_0 (lf : Int32) (rs : Rw) (p0 : Int32) (c_4 : rs.2 < 0) : rs = FX0_addByte lf rs p0 := by
  exact (if_pos c_4).symm
set_option maxRecDepth 100000 in
theorem plX0_addByte_1 (lf : Int32) (rs : Rw) (p0 : Int32) (c_4 : ¬ (rs.2 < 0)) (c_16 : 600 ≤ rs.2) : rs = FX0_addByte lf rs p0 := by
  exact ((if_neg c_4).trans (if_pos c_16)).symm
set_option maxRecDepth 100000 in
theorem plX0_addByte_2 (lf : Int32) (rs : Rw) (p0 : Int32) (c_4 : ¬ (rs.2 < 0)) (c_16 : ¬ (600 ≤ rs.2)) (f_1 : Int32) (ef_1 : f_1 = rs.2 + 1) : (upd rs.1 rs.2.toNatClampNeg p0, f_1) = FX0_addByte lf rs p0 := by
  subst ef_1
  exact ((if_neg c_4).trans (if_neg c_16)).symm
set_option maxHeartbeats 4000000 in
set_option maxRecDepth 100000 in
theorem mX0_addByte (l : Launch) (dC : Nat → ClassId) (dI : Nat → Nat → Nat) (cI : ClassId) (o oa : Nat) (sz : Nat) (lf : Int32) (rs : Rw) (p0 : Int32) : Met l yX0_addByte (Cond.code yX0_addByte cX0_addByte 2 none :: G) ({ frames := 0, cells := 0, slots := 0, locals := 0 } : Room) (va_Pc [.ref o, .int p0] (fun U => U.heap.size = sz ∧ va_P (dC, dI) vwCl [(o, .inr (0, [.int lf, .ref oa, .int rs.2])), (oa, .inl (cI, 600, .inl rs.1))] U.heap ∧ va_K (dC, dI) vwCl [(cI, .int)] U ∧ va_D (fun _ => True) [(o, .inr (0, [.int lf, .ref oa, .int rs.2])), (oa, .inl (cI, 600, .inl rs.1))] ∧ zOk U)) (va_Qv (fun (u : Rw) => u = (FX0_addByte lf rs p0)) (fun (u : Rw) t => va_P (dC, dI) vwCl [(o, .inr (0, [.int lf, .ref oa, .int u.2])), (oa, .inl (cI, 600, .inl u.1))] t.heap ∧ va_D (va_A [(o, .inr (0, [.int lf, .ref oa, .int rs.2])), (oa, .inl (cI, 600, .inl rs.1))] sz) [(o, .inr (0, [.int lf, .ref oa, .int u.2])), (oa, .inl (cI, 600, .inl u.1))]) (va_A [(o, .inr (0, [.int lf, .ref oa, .int rs.2])), (oa, .inl (cI, 600, .inl rs.1))] sz)) 0 0 (va_A [(o, .inr (0, [.int lf, .ref oa, .int rs.2])), (oa, .inl (cI, 600, .inl rs.1))] sz) := by
  refine Met.ofW (cc := cX0_addByte) (maxL := 2) (ret := none) (by decide) rfl ?_
  intro p e s m args below meth c s₁ B hml hv
  obtain ⟨rfl, hsz, hP, hK, hD0, hZ⟩ := hv
  have hx := B.exec
  have hb := B.bytes
  have hr := B.returns
  have hts : ∀ w ∈ G, w.before [.ref o, .int p0].toArray s = true := fun w h => atoms_spec (ws := (Cond.code yX0_addByte cX0_addByte 2 none :: G)) B.pre w (List.mem_cons_of_mem _ h)
  have hown : s.vm.findClass RX0 = some m.cls := findClass_of_methodNamed B.named
  have hlocks := B.notSynchronized
  subst hsz
  have hD := hD0.self (sz := s.heap.size)
  generalize hAe : va_A [(o, .inr (0, [.int lf, .ref oa, .int rs.2])), (oa, .inl (cI, 600, .inl rs.1))] s.heap.size = A at hD ⊢
  have hA : ∀ q : Nat, s.heap.size ≤ q → A q := fun q h => by rw [← hAe]; exact Or.inr h
  have hS : va_S A s.heap s.heap [] := va_S.rf
  have hP : va_P (dC, dI) vwCl [(o, .inr (0, [.int lf, .ref oa, .int rs.2])), (oa, .inl (cI, 600, .inl rs.1))] s.heap := hP
  have hl := lv_entry ([.ref o, .int p0]) (n := 2) (Nat.le_of_ble_eq_true rfl)
  rw [lg_entry_eq]
  generalize (lg_sl ([.ref o, .int p0]) ++ List.replicate (2 - (lg_sl ([.ref o, .int p0])).length) Slot.unset).toArray = ls at hl ⊢
  have hl : lv_has ls 2 [(0, .ref o), (1, .int p0)] := hl
  refine lv_aload_n hx hb dX0_addByte_0 rfl (lv_at hl 0 rfl) ?_
  refine va_get (D := (dC, dI)) (ci := 0) (v := .int rs.2) (C := RX0) (T := TX0) (N := 3) hx hb hts inGX0 hown hK hP 0 rfl rfl 2 (by decide) (hts _ wd61) (fun _ h9 => h9) rfl dX0_addByte_1 ?_
  refine lv_if_lt (tgt := 39) hx hb dX0_addByte_4 (by decide) (fun c_4 => ?_) (fun c_4 => ?_)
  · have hP9 := hP.sub (ws' := [(o, .inr (0, [.int lf, .ref oa, .int rs.2])), (oa, .inl (cI, 600, .inl rs.1))]) [0, 1] rfl
    have hD9 := hD.sub (ws' := [(o, .inr (0, [.int lf, .ref oa, .int rs.2])), (oa, .inl (cI, 600, .inl rs.1))]) [0, 1] (by decide) rfl
    exact W.vret hx hb hr (fun t ht hW => ⟨⟨rs, rfl, (plX0_addByte_0 lf rs p0 c_4), by rw [ht]; exact hP9, hD9⟩, hS.F ht⟩) hS.2.2 dX0_addByte_39
  · refine lv_aload_n hx hb dX0_addByte_7 rfl (lv_at hl 0 rfl) ?_
    refine va_get (D := (dC, dI)) (ci := 0) (v := .int rs.2) (C := RX0) (T := TX0) (N := 3) hx hb hts inGX0 hown hK hP 0 rfl rfl 2 (by decide) (hts _ wd61) (fun _ h9 => h9) rfl dX0_addByte_8 ?_
    refine lv_aload_n hx hb dX0_addByte_11 rfl (lv_at hl 0 rfl) ?_
    refine va_get (D := (dC, dI)) (ci := 0) (v := .ref oa) (C := RX0) (T := TX0) (N := 3) hx hb hts inGX0 hown hK hP 0 rfl rfl 1 (by decide) (hts _ wd60) (fun _ h9 => h9) rfl dX0_addByte_12 ?_
    refine va_alen (v := 600) hx hb hK hP 1 0 rfl rfl rfl dX0_addByte_15 ?_
    refine lv_icmp_ge (tgt := 39) hx hb dX0_addByte_16 (by decide) (fun c_16 => ?_) (fun c_16 => ?_)
    · have hP9 := hP.sub (ws' := [(o, .inr (0, [.int lf, .ref oa, .int rs.2])), (oa, .inl (cI, 600, .inl rs.1))]) [0, 1] rfl
      have hD9 := hD.sub (ws' := [(o, .inr (0, [.int lf, .ref oa, .int rs.2])), (oa, .inl (cI, 600, .inl rs.1))]) [0, 1] (by decide) rfl
      exact W.vret hx hb hr (fun t ht hW => ⟨⟨rs, rfl, (plX0_addByte_1 lf rs p0 c_4 c_16), by rw [ht]; exact hP9, hD9⟩, hS.F ht⟩) hS.2.2 dX0_addByte_39
    · refine lv_aload_n hx hb dX0_addByte_19 rfl (lv_at hl 0 rfl) ?_
      refine va_get (D := (dC, dI)) (ci := 0) (v := .ref oa) (C := RX0) (T := TX0) (N := 3) hx hb hts inGX0 hown hK hP 0 rfl rfl 1 (by decide) (hts _ wd60) (fun _ h9 => h9) rfl dX0_addByte_20 ?_
      refine lv_aload_n hx hb dX0_addByte_23 rfl (lv_at hl 0 rfl) ?_
      refine va_get (D := (dC, dI)) (ci := 0) (v := .int rs.2) (C := RX0) (T := TX0) (N := 3) hx hb hts inGX0 hown hK hP 0 rfl rfl 2 (by decide) (hts _ wd61) (fun _ h9 => h9) rfl dX0_addByte_24 ?_
      refine lv_iload_n hx hb dX0_addByte_27 rfl (lv_at hl 1 rfl) ?_
      refine va_iast hx hb hK hP hD hS 1 0 rfl rfl (vin2 c_4 c_16 (by decide)) dX0_addByte_28 (fun H locs hP hD hS => ?_)
      have hP : va_P (dC, dI) vwCl [(o, .inr (0, [.int lf, .ref oa, .int rs.2])), (oa, .inl (cI, 600, .inl (upd rs.1 rs.2.toNatClampNeg p0)))] H := hP
      have hD : va_D A [(o, .inr (0, [.int lf, .ref oa, .int rs.2])), (oa, .inl (cI, 600, .inl (upd rs.1 rs.2.toNatClampNeg p0)))] := hD
      refine lv_aload_n hx hb dX0_addByte_29 rfl (lv_at hl 0 rfl) ?_
      refine lv_dup hx hb dX0_addByte_30 rfl ?_
      refine va_get (D := (dC, dI)) (ci := 0) (v := .int rs.2) (C := RX0) (T := TX0) (N := 3) hx hb hts inGX0 hown hK hP 0 rfl rfl 2 (by decide) (hts _ wd61) (fun _ h9 => h9) rfl dX0_addByte_31 ?_
      refine lv_iconst (v := 1) hx hb dX0_addByte_34 (by decide) ?_
      refine lv_iadd hx hb dX0_addByte_35 ?_
      refine lv_topi (fun f_1 ef_1 => ?_)
      refine va_put (D := (dC, dI)) (ci := 0) (v := .int f_1) (ty := .int) (C := RX0) (T := TX0) (N := 3) hx hb hts inGX0 tyX0 tyX0_ok nmX0 hown hK hP hD hS 0 rfl rfl 2 (by decide) (hts _ wd61) (fun _ h9 => h9) rfl (by decide +kernel) rfl rfl (Nat.le_of_ble_eq_true rfl) dX0_addByte_36 (fun H locs hP hD hS => ?_)
      have hP : va_P (dC, dI) vwCl [(o, .inr (0, [.int lf, .ref oa, .int f_1])), (oa, .inl (cI, 600, .inl (upd rs.1 rs.2.toNatClampNeg p0)))] H := hP
      have hD : va_D A [(o, .inr (0, [.int lf, .ref oa, .int f_1])), (oa, .inl (cI, 600, .inl (upd rs.1 rs.2.toNatClampNeg p0)))] := hD
      have hP9 := hP.sub (ws' := [(o, .inr (0, [.int lf, .ref oa, .int f_1])), (oa, .inl (cI, 600, .inl (upd rs.1 rs.2.toNatClampNeg p0)))]) [0, 1] rfl
      have hD9 := hD.sub (ws' := [(o, .inr (0, [.int lf, .ref oa, .int f_1])), (oa, .inl (cI, 600, .inl (upd rs.1 rs.2.toNatClampNeg p0)))]) [0, 1] (by decide) rfl
      exact W.vret hx hb hr (fun t ht hW => ⟨⟨(upd rs.1 rs.2.toNatClampNeg p0, f_1), rfl, (plX0_addByte_2 lf rs p0 c_4 c_16 _ ef_1), by rw [ht]; exact hP9, hD9⟩, hS.F ht⟩) hS.2.2 dX0_addByte_39
end
section
def FX1_isWithin (st : Int32) (sib : Int32) (lf : Int32) (ts : Tk) (rs : Rw) : Int32 :=
  if (8 * rs.2) ≤ ts.1 then
    0
  else
    1
set_option maxRecDepth 100000 in
theorem plX1_isWithin_0 (st : Int32) (sib : Int32) (lf : Int32) (ts : Tk) (rs : Rw) (c_14 : (8 * rs.2) ≤ ts.1) : 0 = FX1_isWithin st sib lf ts rs := by
  exact (if_pos c_14).symm
set_option maxRecDepth 100000 in
theorem plX1_isWithin_1 (st : Int32) (sib : Int32) (lf : Int32) (ts : Tk) (rs : Rw) (c_14 : ¬ ((8 * rs.2) ≤ ts.1)) : 1 = FX1_isWithin st sib lf ts rs := by
  exact (if_neg c_14).symm
set_option maxHeartbeats 4000000 in
set_option maxRecDepth 100000 in
theorem mX1_isWithin (l : Launch) (dC : Nat → ClassId) (dI : Nat → Nat → Nat) (cI : ClassId) (o oR oa : Nat) (st : Int32) (sib : Int32) (lf : Int32) (ts : Tk) (rs : Rw) : Met l yX1_isWithin (Cond.code yX1_isWithin cX1_isWithin 1 (some .boolean) :: G) ({ frames := 0, cells := 0, slots := 0, locals := 0 } : Room) (va_Pc [.ref o] (fun U => va_P (dC, dI) vwCl [(o, .inr (1, [.ref oR, .int st, .int sib, .int ts.1, .int ts.2.1, .int ts.2.2.1, .int ts.2.2.2])), (oR, .inr (0, [.int lf, .ref oa, .int rs.2])), (oa, .inl (cI, 600, .inl rs.1))] U.heap ∧ va_K (dC, dI) vwCl [(cI, .int)] U ∧ zOk U)) (vp_Si (fun r => r = (FX1_isWithin st sib lf ts rs))) 0 0 (fun _ => False) := by
  refine Met.ofW (cc := cX1_isWithin) (maxL := 1) (ret := (some .boolean)) (by decide) rfl ?_
  intro p e s m args below meth c s₁ B hml hv
  obtain ⟨rfl, hP, hK, hZ⟩ := hv
  have hx := B.exec
  have hb := B.bytes
  have hr := B.returns
  have hts : ∀ w ∈ G, w.before [.ref o].toArray s = true := fun w h => atoms_spec (ws := (Cond.code yX1_isWithin cX1_isWithin 1 (some .boolean) :: G)) B.pre w (List.mem_cons_of_mem _ h)
  have hown : s.vm.findClass RX1 = some m.cls := findClass_of_methodNamed B.named
  have hlocks := B.notSynchronized
  have hl := lv_entry ([.ref o]) (n := 1) (Nat.le_of_ble_eq_true rfl)
  rw [lg_entry_eq]
  generalize (lg_sl ([.ref o]) ++ List.replicate (1 - (lg_sl ([.ref o])).length) Slot.unset).toArray = ls at hl ⊢
  have hl : lv_has ls 1 [(0, .ref o)] := hl
  refine lv_aload_n hx hb dX1_isWithin_0 rfl (lv_at hl 0 rfl) ?_
  refine va_get (D := (dC, dI)) (ci := 1) (v := .int ts.1) (C := RX1) (T := TX1) (N := 7) hx hb hts inGX1 hown hK hP 0 rfl rfl 3 (by decide) (hts _ wd79) (fun _ h9 => h9) rfl dX1_isWithin_1 ?_
  refine lv_bipush (v := 8) hx hb dX1_isWithin_4 (by decide) ?_
  refine lv_aload_n hx hb dX1_isWithin_6 rfl (lv_at hl 0 rfl) ?_
  refine va_get (D := (dC, dI)) (ci := 1) (v := .ref oR) (C := RX1) (T := TX1) (N := 7) hx hb hts inGX1 hown hK hP 0 rfl rfl 0 (by decide) (hts _ wd76) (fun _ h9 => h9) rfl dX1_isWithin_7 ?_
  refine va_getN (D := (dC, dI)) (ci := 0) (v := .int rs.2) (C := RX0) (T := TX0) (N := 3) hx hb hts inGX0 hown hK hP 1 rfl rfl 2 (by decide) (hZ.use zw0 rfl) (fun _ h9 => h9) rfl dX1_isWithin_10 ?_
  refine lv_imul hx hb dX1_isWithin_13 ?_
  refine lv_icmp_ge (tgt := 21) hx hb dX1_isWithin_14 (by decide) (fun c_14 => ?_) (fun c_14 => ?_)
  · refine lv_iconst (v := 0) hx hb dX1_isWithin_21 (by decide) ?_
    exact W.zret (v := 0) (ty := .boolean) hx hb hr rfl (fun t ht hW => ⟨0, rfl, (plX1_isWithin_0 st sib lf ts rs c_14), ht⟩) (fun q h => nomatch h) dX1_isWithin_22
  · refine lv_iconst (v := 1) hx hb dX1_isWithin_17 (by decide) ?_
    refine lv_goto (tgt := 22) hx hb dX1_isWithin_18 (by decide) ?_
    exact W.zret (v := 1) (ty := .boolean) hx hb hr rfl (fun t ht hW => ⟨1, rfl, (plX1_isWithin_1 st sib lf ts rs c_14), ht⟩) (fun q h => nomatch h) dX1_isWithin_22
def FX1_isAtByte (st : Int32) (sib : Int32) (lf : Int32) (ts : Tk) (rs : Rw) : Int32 :=
  if (ts.1 &&& 7) = 0 then
    1
  else
    0
set_option maxRecDepth 100000 in
theorem plX1_isAtByte_0 (st : Int32) (sib : Int32) (lf : Int32) (ts : Tk) (rs : Rw) (c_7 : ¬ ((ts.1 &&& 7) = 0)) : 0 = FX1_isAtByte st sib lf ts rs := by
  exact (if_neg c_7).symm
set_option maxRecDepth 100000 in
theorem plX1_isAtByte_1 (st : Int32) (sib : Int32) (lf : Int32) (ts : Tk) (rs : Rw) (c_7 : (ts.1 &&& 7) = 0) : 1 = FX1_isAtByte st sib lf ts rs := by
  exact (if_pos c_7).symm
set_option maxHeartbeats 4000000 in
set_option maxRecDepth 100000 in
theorem mX1_isAtByte (l : Launch) (dC : Nat → ClassId) (dI : Nat → Nat → Nat) (cI : ClassId) (o oR oa : Nat) (st : Int32) (sib : Int32) (lf : Int32) (ts : Tk) (rs : Rw) : Met l yX1_isAtByte (Cond.code yX1_isAtByte cX1_isAtByte 1 (some .boolean) :: G) ({ frames := 0, cells := 0, slots := 0, locals := 0 } : Room) (va_Pc [.ref o] (fun U => va_P (dC, dI) vwCl [(o, .inr (1, [.ref oR, .int st, .int sib, .int ts.1, .int ts.2.1, .int ts.2.2.1, .int ts.2.2.2])), (oR, .inr (0, [.int lf, .ref oa, .int rs.2])), (oa, .inl (cI, 600, .inl rs.1))] U.heap ∧ va_K (dC, dI) vwCl [(cI, .int)] U ∧ zOk U)) (vp_Si (fun r => r = (FX1_isAtByte st sib lf ts rs))) 0 0 (fun _ => False) := by
  refine Met.ofW (cc := cX1_isAtByte) (maxL := 1) (ret := (some .boolean)) (by decide) rfl ?_
  intro p e s m args below meth c s₁ B hml hv
  obtain ⟨rfl, hP, hK, hZ⟩ := hv
  have hx := B.exec
  have hb := B.bytes
  have hr := B.returns
  have hts : ∀ w ∈ G, w.before [.ref o].toArray s = true := fun w h => atoms_spec (ws := (Cond.code yX1_isAtByte cX1_isAtByte 1 (some .boolean) :: G)) B.pre w (List.mem_cons_of_mem _ h)
  have hown : s.vm.findClass RX1 = some m.cls := findClass_of_methodNamed B.named
  have hlocks := B.notSynchronized
  have hl := lv_entry ([.ref o]) (n := 1) (Nat.le_of_ble_eq_true rfl)
  rw [lg_entry_eq]
  generalize (lg_sl ([.ref o]) ++ List.replicate (1 - (lg_sl ([.ref o])).length) Slot.unset).toArray = ls at hl ⊢
  have hl : lv_has ls 1 [(0, .ref o)] := hl
  refine lv_aload_n hx hb dX1_isAtByte_0 rfl (lv_at hl 0 rfl) ?_
  refine va_get (D := (dC, dI)) (ci := 1) (v := .int ts.1) (C := RX1) (T := TX1) (N := 7) hx hb hts inGX1 hown hK hP 0 rfl rfl 3 (by decide) (hts _ wd79) (fun _ h9 => h9) rfl dX1_isAtByte_1 ?_
  refine lv_bipush (v := 7) hx hb dX1_isAtByte_4 (by decide) ?_
  refine lv_iand hx hb dX1_isAtByte_6 ?_
  refine lv_if_ne (tgt := 14) hx hb dX1_isAtByte_7 (by decide) (fun c_7 => ?_) (fun c_7 => ?_)
  · refine lv_iconst (v := 0) hx hb dX1_isAtByte_14 (by decide) ?_
    exact W.zret (v := 0) (ty := .boolean) hx hb hr rfl (fun t ht hW => ⟨0, rfl, (plX1_isAtByte_0 st sib lf ts rs c_7), ht⟩) (fun q h => nomatch h) dX1_isAtByte_15
  · refine lv_iconst (v := 1) hx hb dX1_isAtByte_10 (by decide) ?_
    refine lv_goto (tgt := 15) hx hb dX1_isAtByte_11 (by decide) ?_
    exact W.zret (v := 1) (ty := .boolean) hx hb hr rfl (fun t ht hW => ⟨1, rfl, (plX1_isAtByte_1 st sib lf ts rs c_7), ht⟩) (fun q h => nomatch h) dX1_isAtByte_15
def FX1_isBehindFullByte (st : Int32) (sib : Int32) (lf : Int32) (ts : Tk) (rs : Rw) : Int32 :=
  let x_1 := ts.1 >>> (3 &&& 31)
  if x_1 ≤ 0 then
    0
  else
    if x_1 = ts.2.2.2 then
      0
    else
      let r_2 := FX0_byteOf lf rs (x_1 - 1)
      if r_2 = 255 then
        1
      else
        0
set_option maxRecDepth 100000 in
theorem plX1_isBehindFullByte_0 (st : Int32) (sib : Int32) (lf : Int32) (ts : Tk) (rs : Rw) (x_1 : Int32) (ex_1 : x_1 = ts.1 >>> (3 &&& 31)) (c_8 : x_1 ≤ 0) : 0 = FX1_isBehindFullByte st sib lf ts rs := by
  subst ex_1
  exact (if_pos c_8).symm
set_option maxRecDepth 100000 in
theorem plX1_isBehindFullByte_1 (st : Int32) (sib : Int32) (lf : Int32) (ts : Tk) (rs : Rw) (x_1 : Int32) (ex_1 : x_1 = ts.1 >>> (3 &&& 31)) (c_8 : ¬ (x_1 ≤ 0)) (c_16 : x_1 = ts.2.2.2) : 0 = FX1_isBehindFullByte st sib lf ts rs := by
  subst ex_1
  exact ((if_neg c_8).trans (if_pos c_16)).symm
set_option maxRecDepth 100000 in
theorem plX1_isBehindFullByte_2 (st : Int32) (sib : Int32) (lf : Int32) (ts : Tk) (rs : Rw) (x_1 : Int32) (ex_1 : x_1 = ts.1 >>> (3 &&& 31)) (c_8 : ¬ (x_1 ≤ 0)) (c_16 : ¬ (x_1 = ts.2.2.2)) (r_2 : Int32) (hw_3 : r_2 = FX0_byteOf lf rs (x_1 - 1)) (c_32 : ¬ (r_2 = 255)) : 0 = FX1_isBehindFullByte st sib lf ts rs := by
  subst ex_1
  subst hw_3
  exact (((if_neg c_8).trans (if_neg c_16)).trans (if_neg c_32)).symm
set_option maxRecDepth 100000 in
theorem plX1_isBehindFullByte_3 (st : Int32) (sib : Int32) (lf : Int32) (ts : Tk) (rs : Rw) (x_1 : Int32) (ex_1 : x_1 = ts.1 >>> (3 &&& 31)) (c_8 : ¬ (x_1 ≤ 0)) (c_16 : ¬ (x_1 = ts.2.2.2)) (r_2 : Int32) (hw_3 : r_2 = FX0_byteOf lf rs (x_1 - 1)) (c_32 : r_2 = 255) : 1 = FX1_isBehindFullByte st sib lf ts rs := by
  subst ex_1
  subst hw_3
  exact (((if_neg c_8).trans (if_neg c_16)).trans (if_pos c_32)).symm
set_option maxHeartbeats 4000000 in
set_option maxRecDepth 100000 in
theorem mX1_isBehindFullByte (l : Launch) (dC : Nat → ClassId) (dI : Nat → Nat → Nat) (cI : ClassId) (o oR oa : Nat) (st : Int32) (sib : Int32) (lf : Int32) (ts : Tk) (rs : Rw) : Met l yX1_isBehindFullByte (Cond.code yX1_isBehindFullByte cX1_isBehindFullByte 2 (some .boolean) :: G) ({ frames := 1, cells := 0, slots := 0, locals := 21 } : Room) (va_Pc [.ref o] (fun U => va_P (dC, dI) vwCl [(o, .inr (1, [.ref oR, .int st, .int sib, .int ts.1, .int ts.2.1, .int ts.2.2.1, .int ts.2.2.2])), (oR, .inr (0, [.int lf, .ref oa, .int rs.2])), (oa, .inl (cI, 600, .inl rs.1))] U.heap ∧ va_K (dC, dI) vwCl [(cI, .int)] U ∧ zOk U)) (vp_Si (fun r => r = (FX1_isBehindFullByte st sib lf ts rs))) 0 0 (fun _ => False) := by
  refine Met.ofW (cc := cX1_isBehindFullByte) (maxL := 2) (ret := (some .boolean)) (by decide) rfl ?_
  intro p e s m args below meth c s₁ B hml hv
  obtain ⟨rfl, hP, hK, hZ⟩ := hv
  have hx := B.exec
  have hb := B.bytes
  have hr := B.returns
  have hts : ∀ w ∈ G, w.before [.ref o].toArray s = true := fun w h => atoms_spec (ws := (Cond.code yX1_isBehindFullByte cX1_isBehindFullByte 2 (some .boolean) :: G)) B.pre w (List.mem_cons_of_mem _ h)
  have hown : s.vm.findClass RX1 = some m.cls := findClass_of_methodNamed B.named
  have hlocks := B.notSynchronized
  have hl := lv_entry ([.ref o]) (n := 2) (Nat.le_of_ble_eq_true rfl)
  rw [lg_entry_eq]
  generalize (lg_sl ([.ref o]) ++ List.replicate (2 - (lg_sl ([.ref o])).length) Slot.unset).toArray = ls at hl ⊢
  have hl : lv_has ls 2 [(0, .ref o)] := hl
  refine lv_aload_n hx hb dX1_isBehindFullByte_0 rfl (lv_at hl 0 rfl) ?_
  refine va_get (D := (dC, dI)) (ci := 1) (v := .int ts.1) (C := RX1) (T := TX1) (N := 7) hx hb hts inGX1 hown hK hP 0 rfl rfl 3 (by decide) (hts _ wd79) (fun _ h9 => h9) rfl dX1_isBehindFullByte_1 ?_
  refine lv_iconst (v := 3) hx hb dX1_isBehindFullByte_4 (by decide) ?_
  refine lv_ishr hx hb dX1_isBehindFullByte_5 ?_
  refine lv_topi (fun x_1 ex_1 => ?_)
  refine lv_istore_n (lv' := [(1, .int x_1), (0, .ref o)]) hx hb dX1_isBehindFullByte_6 rfl hl (by decide) rfl (fun ls hl => ?_)
  refine lv_iload_n hx hb dX1_isBehindFullByte_7 rfl (lv_at hl 0 rfl) ?_
  refine lv_if_le (tgt := 39) hx hb dX1_isBehindFullByte_8 (by decide) (fun c_8 => ?_) (fun c_8 => ?_)
  · refine lv_iconst (v := 0) hx hb dX1_isBehindFullByte_39 (by decide) ?_
    exact W.zret (v := 0) (ty := .boolean) hx hb hr rfl (fun t ht hW => ⟨0, rfl, (plX1_isBehindFullByte_0 st sib lf ts rs _ ex_1 c_8), ht⟩) (fun q h => nomatch h) dX1_isBehindFullByte_40
  · refine lv_iload_n hx hb dX1_isBehindFullByte_11 rfl (lv_at hl 0 rfl) ?_
    refine lv_aload_n hx hb dX1_isBehindFullByte_12 rfl (lv_at hl 1 rfl) ?_
    refine va_get (D := (dC, dI)) (ci := 1) (v := .int ts.2.2.2) (C := RX1) (T := TX1) (N := 7) hx hb hts inGX1 hown hK hP 0 rfl rfl 6 (by decide) (hts _ wd82) (fun _ h9 => h9) rfl dX1_isBehindFullByte_13 ?_
    refine lv_icmp_eq (tgt := 39) hx hb dX1_isBehindFullByte_16 (by decide) (fun c_16 => ?_) (fun c_16 => ?_)
    · refine lv_iconst (v := 0) hx hb dX1_isBehindFullByte_39 (by decide) ?_
      exact W.zret (v := 0) (ty := .boolean) hx hb hr rfl (fun t ht hW => ⟨0, rfl, (plX1_isBehindFullByte_1 st sib lf ts rs _ ex_1 c_8 c_16), ht⟩) (fun q h => nomatch h) dX1_isBehindFullByte_40
    · refine lv_aload_n hx hb dX1_isBehindFullByte_19 rfl (lv_at hl 1 rfl) ?_
      refine va_get (D := (dC, dI)) (ci := 1) (v := .ref oR) (C := RX1) (T := TX1) (N := 7) hx hb hts inGX1 hown hK hP 0 rfl rfl 0 (by decide) (hts _ wd76) (fun _ h9 => h9) rfl dX1_isBehindFullByte_20 ?_
      refine lv_iload_n hx hb dX1_isBehindFullByte_23 rfl (lv_at hl 0 rfl) ?_
      refine lv_iconst (v := 1) hx hb dX1_isBehindFullByte_24 (by decide) ?_
      refine lv_isub hx hb dX1_isBehindFullByte_25 ?_
      have hPc := hP.sub (ws' := [(oR, .inr (0, [.int lf, .ref oa, .int rs.2])), (oa, .inl (cI, 600, .inl rs.1))]) [1, 2] rfl
      have hKc := hK.sub (tys' := [(cI, .int)]) [0] rfl
      refine vp_callSi (va_Run.run (va_runV (As := [.int (x_1 - 1)]) (rest := []) ⟨hx, hb, hml, hown, hts⟩ (mX0_byteOf l dC dI cI oR oa lf rs (x_1 - 1)) (cwV 1 hts (gV wd138 wd139 wd140 wd28 wd141) rfl rfl rfl (by decide +kernel) ⟨Nat.le_of_ble_eq_true rfl, Nat.le_of_ble_eq_true rfl⟩) ⟨fb_ro, va_recv hKc hPc (ci := 0) (q0 := 0) rfl rfl, pre_ro hPc hKc hZ⟩ rfl rfl hl.1 rfl (lv_room (Nat.le_of_ble_eq_true rfl)) dX1_isBehindFullByte_26 ⟨Nat.le_of_ble_eq_true rfl, Nat.le_of_ble_eq_true rfl⟩)) (fun r_2 hw_3 => ?_)
      refine lv_sipush (v := 255) hx hb dX1_isBehindFullByte_29 (by decide) ?_
      refine lv_icmp_ne (tgt := 39) hx hb dX1_isBehindFullByte_32 (by decide) (fun c_32 => ?_) (fun c_32 => ?_)
      · refine lv_iconst (v := 0) hx hb dX1_isBehindFullByte_39 (by decide) ?_
        exact W.zret (v := 0) (ty := .boolean) hx hb hr rfl (fun t ht hW => ⟨0, rfl, (plX1_isBehindFullByte_2 st sib lf ts rs _ ex_1 c_8 c_16 _ hw_3 c_32), ht⟩) (fun q h => nomatch h) dX1_isBehindFullByte_40
      · refine lv_iconst (v := 1) hx hb dX1_isBehindFullByte_35 (by decide) ?_
        refine lv_goto (tgt := 40) hx hb dX1_isBehindFullByte_36 (by decide) ?_
        exact W.zret (v := 1) (ty := .boolean) hx hb hr rfl (fun t ht hW => ⟨1, rfl, (plX1_isBehindFullByte_3 st sib lf ts rs _ ex_1 c_8 c_16 _ hw_3 c_32), ht⟩) (fun q h => nomatch h) dX1_isBehindFullByte_40
def FX1_isAligned (st : Int32) (sib : Int32) (lf : Int32) (ts : Tk) (rs : Rw) : Int32 :=
  let r_1 := FX1_isAtByte st sib lf ts rs
  if r_1 = 0 then
    0
  else
    if st = 1 then
      let r_3 := FX1_isBehindFullByte st sib lf ts rs
      if r_3 = 0 then
        1
      else
        0
    else
      1
set_option maxRecDepth 100000 in
theorem plX1_isAligned_0 (st : Int32) (sib : Int32) (lf : Int32) (ts : Tk) (rs : Rw) (r_1 : Int32) (hw_2 : r_1 = FX1_isAtByte st sib lf ts rs) (c_4 : r_1 = 0) : 0 = FX1_isAligned st sib lf ts rs := by
  subst hw_2
  exact (if_pos c_4).symm
set_option maxRecDepth 100000 in
theorem plX1_isAligned_1 (st : Int32) (sib : Int32) (lf : Int32) (ts : Tk) (rs : Rw) (r_1 : Int32) (hw_2 : r_1 = FX1_isAtByte st sib lf ts rs) (c_4 : ¬ (r_1 = 0)) (c_12 : ¬ (st = 1)) : 1 = FX1_isAligned st sib lf ts rs := by
  subst hw_2
  exact ((if_neg c_4).trans (if_neg c_12)).symm
set_option maxRecDepth 100000 in
theorem plX1_isAligned_2 (st : Int32) (sib : Int32) (lf : Int32) (ts : Tk) (rs : Rw) (r_1 : Int32) (hw_2 : r_1 = FX1_isAtByte st sib lf ts rs) (c_4 : ¬ (r_1 = 0)) (c_12 : st = 1) (r_3 : Int32) (hw_4 : r_3 = FX1_isBehindFullByte st sib lf ts rs) (c_19 : ¬ (r_3 = 0)) : 0 = FX1_isAligned st sib lf ts rs := by
  subst hw_2
  subst hw_4
  exact (((if_neg c_4).trans (if_pos c_12)).trans (if_neg c_19)).symm
set_option maxRecDepth 100000 in
theorem plX1_isAligned_3 (st : Int32) (sib : Int32) (lf : Int32) (ts : Tk) (rs : Rw) (r_1 : Int32) (hw_2 : r_1 = FX1_isAtByte st sib lf ts rs) (c_4 : ¬ (r_1 = 0)) (c_12 : st = 1) (r_3 : Int32) (hw_4 : r_3 = FX1_isBehindFullByte st sib lf ts rs) (c_19 : r_3 = 0) : 1 = FX1_isAligned st sib lf ts rs := by
  subst hw_2
  subst hw_4
  exact (((if_neg c_4).trans (if_pos c_12)).trans (if_pos c_19)).symm
set_option maxHeartbeats 4000000 in
set_option maxRecDepth 100000 in
theorem mX1_isAligned (l : Launch) (dC : Nat → ClassId) (dI : Nat → Nat → Nat) (cI : ClassId) (o oR oa : Nat) (st : Int32) (sib : Int32) (lf : Int32) (ts : Tk) (rs : Rw) : Met l yX1_isAligned (Cond.code yX1_isAligned cX1_isAligned 1 (some .boolean) :: G) ({ frames := 2, cells := 0, slots := 0, locals := 42 } : Room) (va_Pc [.ref o] (fun U => va_P (dC, dI) vwCl [(o, .inr (1, [.ref oR, .int st, .int sib, .int ts.1, .int ts.2.1, .int ts.2.2.1, .int ts.2.2.2])), (oR, .inr (0, [.int lf, .ref oa, .int rs.2])), (oa, .inl (cI, 600, .inl rs.1))] U.heap ∧ va_K (dC, dI) vwCl [(cI, .int)] U ∧ zOk U)) (vp_Si (fun r => r = (FX1_isAligned st sib lf ts rs))) 0 0 (fun _ => False) := by
  refine Met.ofW (cc := cX1_isAligned) (maxL := 1) (ret := (some .boolean)) (by decide) rfl ?_
  intro p e s m args below meth c s₁ B hml hv
  obtain ⟨rfl, hP, hK, hZ⟩ := hv
  have hx := B.exec
  have hb := B.bytes
  have hr := B.returns
  have hts : ∀ w ∈ G, w.before [.ref o].toArray s = true := fun w h => atoms_spec (ws := (Cond.code yX1_isAligned cX1_isAligned 1 (some .boolean) :: G)) B.pre w (List.mem_cons_of_mem _ h)
  have hown : s.vm.findClass RX1 = some m.cls := findClass_of_methodNamed B.named
  have hlocks := B.notSynchronized
  have hl := lv_entry ([.ref o]) (n := 1) (Nat.le_of_ble_eq_true rfl)
  rw [lg_entry_eq]
  generalize (lg_sl ([.ref o]) ++ List.replicate (1 - (lg_sl ([.ref o])).length) Slot.unset).toArray = ls at hl ⊢
  have hl : lv_has ls 1 [(0, .ref o)] := hl
  refine lv_aload_n hx hb dX1_isAligned_0 rfl (lv_at hl 0 rfl) ?_
  have hPc := hP.sub (ws' := [(o, .inr (1, [.ref oR, .int st, .int sib, .int ts.1, .int ts.2.1, .int ts.2.2.1, .int ts.2.2.2])), (oR, .inr (0, [.int lf, .ref oa, .int rs.2])), (oa, .inl (cI, 600, .inl rs.1))]) [0, 1, 2] rfl
  have hKc := hK.sub (tys' := [(cI, .int)]) [0] rfl
  refine vp_callSi (va_Run.run (va_runV (As := []) (rest := []) ⟨hx, hb, hml, hown, hts⟩ (mX1_isAtByte l dC dI cI o oR oa st sib lf ts rs) (cwV 0 hts (gV wd131 wd132 wd133 wd29 wd134) rfl rfl rfl (by decide +kernel) ⟨Nat.le_of_ble_eq_true rfl, Nat.le_of_ble_eq_true rfl⟩) ⟨fb_ro, va_recv hKc hPc (ci := 1) (q0 := 0) rfl rfl, pre_ro hPc hKc hZ⟩ rfl rfl hl.1 rfl (lv_room (Nat.le_of_ble_eq_true rfl)) dX1_isAligned_1 ⟨Nat.le_of_ble_eq_true rfl, Nat.le_of_ble_eq_true rfl⟩)) (fun r_1 hw_2 => ?_)
  refine lv_if_eq (tgt := 26) hx hb dX1_isAligned_4 (by decide) (fun c_4 => ?_) (fun c_4 => ?_)
  · refine lv_iconst (v := 0) hx hb dX1_isAligned_26 (by decide) ?_
    exact W.zret (v := 0) (ty := .boolean) hx hb hr rfl (fun t ht hW => ⟨0, rfl, (plX1_isAligned_0 st sib lf ts rs _ hw_2 c_4), ht⟩) (fun q h => nomatch h) dX1_isAligned_27
  · refine lv_aload_n hx hb dX1_isAligned_7 rfl (lv_at hl 0 rfl) ?_
    refine va_get (D := (dC, dI)) (ci := 1) (v := .int st) (C := RX1) (T := TX1) (N := 7) hx hb hts inGX1 hown hK hP 0 rfl rfl 1 (by decide) (hts _ wd77) (fun _ h9 => h9) rfl dX1_isAligned_8 ?_
    refine lv_iconst (v := 1) hx hb dX1_isAligned_11 (by decide) ?_
    refine lv_icmp_ne (tgt := 22) hx hb dX1_isAligned_12 (by decide) (fun c_12 => ?_) (fun c_12 => ?_)
    · refine lv_iconst (v := 1) hx hb dX1_isAligned_22 (by decide) ?_
      refine lv_goto (tgt := 27) hx hb dX1_isAligned_23 (by decide) ?_
      exact W.zret (v := 1) (ty := .boolean) hx hb hr rfl (fun t ht hW => ⟨1, rfl, (plX1_isAligned_1 st sib lf ts rs _ hw_2 c_4 c_12), ht⟩) (fun q h => nomatch h) dX1_isAligned_27
    · refine lv_aload_n hx hb dX1_isAligned_15 rfl (lv_at hl 0 rfl) ?_
      have hPc := hP.sub (ws' := [(o, .inr (1, [.ref oR, .int st, .int sib, .int ts.1, .int ts.2.1, .int ts.2.2.1, .int ts.2.2.2])), (oR, .inr (0, [.int lf, .ref oa, .int rs.2])), (oa, .inl (cI, 600, .inl rs.1))]) [0, 1, 2] rfl
      have hKc := hK.sub (tys' := [(cI, .int)]) [0] rfl
      refine vp_callSi (va_Run.run (va_runV (As := []) (rest := []) ⟨hx, hb, hml, hown, hts⟩ (mX1_isBehindFullByte l dC dI cI o oR oa st sib lf ts rs) (cwV 0 hts (gV wd135 wd136 wd0 wd29 wd137) rfl rfl rfl (by decide +kernel) ⟨Nat.le_of_ble_eq_true rfl, Nat.le_of_ble_eq_true rfl⟩) ⟨fb_ro, va_recv hKc hPc (ci := 1) (q0 := 0) rfl rfl, pre_ro hPc hKc hZ⟩ rfl rfl hl.1 rfl (lv_room (Nat.le_of_ble_eq_true rfl)) dX1_isAligned_16 ⟨Nat.le_of_ble_eq_true rfl, Nat.le_of_ble_eq_true rfl⟩)) (fun r_3 hw_4 => ?_)
      refine lv_if_ne (tgt := 26) hx hb dX1_isAligned_19 (by decide) (fun c_19 => ?_) (fun c_19 => ?_)
      · refine lv_iconst (v := 0) hx hb dX1_isAligned_26 (by decide) ?_
        exact W.zret (v := 0) (ty := .boolean) hx hb hr rfl (fun t ht hW => ⟨0, rfl, (plX1_isAligned_2 st sib lf ts rs _ hw_2 c_4 c_12 _ hw_4 c_19), ht⟩) (fun q h => nomatch h) dX1_isAligned_27
      · refine lv_iconst (v := 1) hx hb dX1_isAligned_22 (by decide) ?_
        refine lv_goto (tgt := 27) hx hb dX1_isAligned_23 (by decide) ?_
        exact W.zret (v := 1) (ty := .boolean) hx hb hr rfl (fun t ht hW => ⟨1, rfl, (plX1_isAligned_3 st sib lf ts rs _ hw_2 c_4 c_12 _ hw_4 c_19), ht⟩) (fun q h => nomatch h) dX1_isAligned_27
def FX1_isStuffedDue (st : Int32) (sib : Int32) (lf : Int32) (ts : Tk) (rs : Rw) : Int32 :=
  if st ≤ 1 then
    if st = 1 then
      if (ts.1 &&& 7) = sib then
        let r_1 := FX1_isBehindFullByte st sib lf ts rs
        if r_1 = 0 then
          0
        else
          1
      else
        0
    else
      0
  else
    if ts.2.2.1 = st then
      1
    else
      0
set_option maxRecDepth 100000 in
theorem plX1_isStuffedDue_0 (st : Int32) (sib : Int32) (lf : Int32) (ts : Tk) (rs : Rw) (c_5 : st ≤ 1) (c_30 : ¬ (st = 1)) : 0 = FX1_isStuffedDue st sib lf ts rs := by
  exact ((if_pos c_5).trans (if_neg c_30)).symm
set_option maxRecDepth 100000 in
theorem plX1_isStuffedDue_1 (st : Int32) (sib : Int32) (lf : Int32) (ts : Tk) (rs : Rw) (c_5 : st ≤ 1) (c_30 : st = 1) (c_44 : ¬ ((ts.1 &&& 7) = sib)) : 0 = FX1_isStuffedDue st sib lf ts rs := by
  exact (((if_pos c_5).trans (if_pos c_30)).trans (if_neg c_44)).symm
set_option maxRecDepth 100000 in
theorem plX1_isStuffedDue_2 (st : Int32) (sib : Int32) (lf : Int32) (ts : Tk) (rs : Rw) (c_5 : st ≤ 1) (c_30 : st = 1) (c_44 : (ts.1 &&& 7) = sib) (r_1 : Int32) (hw_2 : r_1 = FX1_isBehindFullByte st sib lf ts rs) (c_51 : r_1 = 0) : 0 = FX1_isStuffedDue st sib lf ts rs := by
  subst hw_2
  exact ((((if_pos c_5).trans (if_pos c_30)).trans (if_pos c_44)).trans (if_pos c_51)).symm
set_option maxRecDepth 100000 in
theorem plX1_isStuffedDue_3 (st : Int32) (sib : Int32) (lf : Int32) (ts : Tk) (rs : Rw) (c_5 : st ≤ 1) (c_30 : st = 1) (c_44 : (ts.1 &&& 7) = sib) (r_1 : Int32) (hw_2 : r_1 = FX1_isBehindFullByte st sib lf ts rs) (c_51 : ¬ (r_1 = 0)) : 1 = FX1_isStuffedDue st sib lf ts rs := by
  subst hw_2
  exact ((((if_pos c_5).trans (if_pos c_30)).trans (if_pos c_44)).trans (if_neg c_51)).symm
set_option maxRecDepth 100000 in
theorem plX1_isStuffedDue_4 (st : Int32) (sib : Int32) (lf : Int32) (ts : Tk) (rs : Rw) (c_5 : ¬ (st ≤ 1)) (c_16 : ¬ (ts.2.2.1 = st)) : 0 = FX1_isStuffedDue st sib lf ts rs := by
  exact ((if_neg c_5).trans (if_neg c_16)).symm
set_option maxRecDepth 100000 in
theorem plX1_isStuffedDue_5 (st : Int32) (sib : Int32) (lf : Int32) (ts : Tk) (rs : Rw) (c_5 : ¬ (st ≤ 1)) (c_16 : ts.2.2.1 = st) : 1 = FX1_isStuffedDue st sib lf ts rs := by
  exact ((if_neg c_5).trans (if_pos c_16)).symm
set_option maxHeartbeats 4000000 in
set_option maxRecDepth 100000 in
theorem mX1_isStuffedDue (l : Launch) (dC : Nat → ClassId) (dI : Nat → Nat → Nat) (cI : ClassId) (o oR oa : Nat) (st : Int32) (sib : Int32) (lf : Int32) (ts : Tk) (rs : Rw) : Met l yX1_isStuffedDue (Cond.code yX1_isStuffedDue cX1_isStuffedDue 1 (some .boolean) :: G) ({ frames := 2, cells := 0, slots := 0, locals := 42 } : Room) (va_Pc [.ref o] (fun U => va_P (dC, dI) vwCl [(o, .inr (1, [.ref oR, .int st, .int sib, .int ts.1, .int ts.2.1, .int ts.2.2.1, .int ts.2.2.2])), (oR, .inr (0, [.int lf, .ref oa, .int rs.2])), (oa, .inl (cI, 600, .inl rs.1))] U.heap ∧ va_K (dC, dI) vwCl [(cI, .int)] U ∧ zOk U)) (vp_Si (fun r => r = (FX1_isStuffedDue st sib lf ts rs))) 0 0 (fun _ => False) := by
  refine Met.ofW (cc := cX1_isStuffedDue) (maxL := 1) (ret := (some .boolean)) (by decide) rfl ?_
  intro p e s m args below meth c s₁ B hml hv
  obtain ⟨rfl, hP, hK, hZ⟩ := hv
  have hx := B.exec
  have hb := B.bytes
  have hr := B.returns
  have hts : ∀ w ∈ G, w.before [.ref o].toArray s = true := fun w h => atoms_spec (ws := (Cond.code yX1_isStuffedDue cX1_isStuffedDue 1 (some .boolean) :: G)) B.pre w (List.mem_cons_of_mem _ h)
  have hown : s.vm.findClass RX1 = some m.cls := findClass_of_methodNamed B.named
  have hlocks := B.notSynchronized
  have hl := lv_entry ([.ref o]) (n := 1) (Nat.le_of_ble_eq_true rfl)
  rw [lg_entry_eq]
  generalize (lg_sl ([.ref o]) ++ List.replicate (1 - (lg_sl ([.ref o])).length) Slot.unset).toArray = ls at hl ⊢
  have hl : lv_has ls 1 [(0, .ref o)] := hl
  refine lv_aload_n hx hb dX1_isStuffedDue_0 rfl (lv_at hl 0 rfl) ?_
  refine va_get (D := (dC, dI)) (ci := 1) (v := .int st) (C := RX1) (T := TX1) (N := 7) hx hb hts inGX1 hown hK hP 0 rfl rfl 1 (by decide) (hts _ wd77) (fun _ h9 => h9) rfl dX1_isStuffedDue_1 ?_
  refine lv_iconst (v := 1) hx hb dX1_isStuffedDue_4 (by decide) ?_
  refine lv_icmp_le (tgt := 25) hx hb dX1_isStuffedDue_5 (by decide) (fun c_5 => ?_) (fun c_5 => ?_)
  · refine lv_aload_n hx hb dX1_isStuffedDue_25 rfl (lv_at hl 0 rfl) ?_
    refine va_get (D := (dC, dI)) (ci := 1) (v := .int st) (C := RX1) (T := TX1) (N := 7) hx hb hts inGX1 hown hK hP 0 rfl rfl 1 (by decide) (hts _ wd77) (fun _ h9 => h9) rfl dX1_isStuffedDue_26 ?_
    refine lv_iconst (v := 1) hx hb dX1_isStuffedDue_29 (by decide) ?_
    refine lv_icmp_ne (tgt := 58) hx hb dX1_isStuffedDue_30 (by decide) (fun c_30 => ?_) (fun c_30 => ?_)
    · refine lv_iconst (v := 0) hx hb dX1_isStuffedDue_58 (by decide) ?_
      exact W.zret (v := 0) (ty := .boolean) hx hb hr rfl (fun t ht hW => ⟨0, rfl, (plX1_isStuffedDue_0 st sib lf ts rs c_5 c_30), ht⟩) (fun q h => nomatch h) dX1_isStuffedDue_59
    · refine lv_aload_n hx hb dX1_isStuffedDue_33 rfl (lv_at hl 0 rfl) ?_
      refine va_get (D := (dC, dI)) (ci := 1) (v := .int ts.1) (C := RX1) (T := TX1) (N := 7) hx hb hts inGX1 hown hK hP 0 rfl rfl 3 (by decide) (hts _ wd79) (fun _ h9 => h9) rfl dX1_isStuffedDue_34 ?_
      refine lv_bipush (v := 7) hx hb dX1_isStuffedDue_37 (by decide) ?_
      refine lv_iand hx hb dX1_isStuffedDue_39 ?_
      refine lv_aload_n hx hb dX1_isStuffedDue_40 rfl (lv_at hl 0 rfl) ?_
      refine va_get (D := (dC, dI)) (ci := 1) (v := .int sib) (C := RX1) (T := TX1) (N := 7) hx hb hts inGX1 hown hK hP 0 rfl rfl 2 (by decide) (hts _ wd78) (fun _ h9 => h9) rfl dX1_isStuffedDue_41 ?_
      refine lv_icmp_ne (tgt := 58) hx hb dX1_isStuffedDue_44 (by decide) (fun c_44 => ?_) (fun c_44 => ?_)
      · refine lv_iconst (v := 0) hx hb dX1_isStuffedDue_58 (by decide) ?_
        exact W.zret (v := 0) (ty := .boolean) hx hb hr rfl (fun t ht hW => ⟨0, rfl, (plX1_isStuffedDue_1 st sib lf ts rs c_5 c_30 c_44), ht⟩) (fun q h => nomatch h) dX1_isStuffedDue_59
      · refine lv_aload_n hx hb dX1_isStuffedDue_47 rfl (lv_at hl 0 rfl) ?_
        have hPc := hP.sub (ws' := [(o, .inr (1, [.ref oR, .int st, .int sib, .int ts.1, .int ts.2.1, .int ts.2.2.1, .int ts.2.2.2])), (oR, .inr (0, [.int lf, .ref oa, .int rs.2])), (oa, .inl (cI, 600, .inl rs.1))]) [0, 1, 2] rfl
        have hKc := hK.sub (tys' := [(cI, .int)]) [0] rfl
        refine vp_callSi (va_Run.run (va_runV (As := []) (rest := []) ⟨hx, hb, hml, hown, hts⟩ (mX1_isBehindFullByte l dC dI cI o oR oa st sib lf ts rs) (cwV 0 hts (gV wd135 wd136 wd0 wd29 wd137) rfl rfl rfl (by decide +kernel) ⟨Nat.le_of_ble_eq_true rfl, Nat.le_of_ble_eq_true rfl⟩) ⟨fb_ro, va_recv hKc hPc (ci := 1) (q0 := 0) rfl rfl, pre_ro hPc hKc hZ⟩ rfl rfl hl.1 rfl (lv_room (Nat.le_of_ble_eq_true rfl)) dX1_isStuffedDue_48 ⟨Nat.le_of_ble_eq_true rfl, Nat.le_of_ble_eq_true rfl⟩)) (fun r_1 hw_2 => ?_)
        refine lv_if_eq (tgt := 58) hx hb dX1_isStuffedDue_51 (by decide) (fun c_51 => ?_) (fun c_51 => ?_)
        · refine lv_iconst (v := 0) hx hb dX1_isStuffedDue_58 (by decide) ?_
          exact W.zret (v := 0) (ty := .boolean) hx hb hr rfl (fun t ht hW => ⟨0, rfl, (plX1_isStuffedDue_2 st sib lf ts rs c_5 c_30 c_44 _ hw_2 c_51), ht⟩) (fun q h => nomatch h) dX1_isStuffedDue_59
        · refine lv_iconst (v := 1) hx hb dX1_isStuffedDue_54 (by decide) ?_
          refine lv_goto (tgt := 59) hx hb dX1_isStuffedDue_55 (by decide) ?_
          exact W.zret (v := 1) (ty := .boolean) hx hb hr rfl (fun t ht hW => ⟨1, rfl, (plX1_isStuffedDue_3 st sib lf ts rs c_5 c_30 c_44 _ hw_2 c_51), ht⟩) (fun q h => nomatch h) dX1_isStuffedDue_59
  · refine lv_aload_n hx hb dX1_isStuffedDue_8 rfl (lv_at hl 0 rfl) ?_
    refine va_get (D := (dC, dI)) (ci := 1) (v := .int ts.2.2.1) (C := RX1) (T := TX1) (N := 7) hx hb hts inGX1 hown hK hP 0 rfl rfl 5 (by decide) (hts _ wd81) (fun _ h9 => h9) rfl dX1_isStuffedDue_9 ?_
    refine lv_aload_n hx hb dX1_isStuffedDue_12 rfl (lv_at hl 0 rfl) ?_
    refine va_get (D := (dC, dI)) (ci := 1) (v := .int st) (C := RX1) (T := TX1) (N := 7) hx hb hts inGX1 hown hK hP 0 rfl rfl 1 (by decide) (hts _ wd77) (fun _ h9 => h9) rfl dX1_isStuffedDue_13 ?_
    refine lv_icmp_ne (tgt := 23) hx hb dX1_isStuffedDue_16 (by decide) (fun c_16 => ?_) (fun c_16 => ?_)
    · refine lv_iconst (v := 0) hx hb dX1_isStuffedDue_23 (by decide) ?_
      exact W.zret (v := 0) (ty := .boolean) hx hb hr rfl (fun t ht hW => ⟨0, rfl, (plX1_isStuffedDue_4 st sib lf ts rs c_5 c_16), ht⟩) (fun q h => nomatch h) dX1_isStuffedDue_24
    · refine lv_iconst (v := 1) hx hb dX1_isStuffedDue_19 (by decide) ?_
      refine lv_goto (tgt := 24) hx hb dX1_isStuffedDue_20 (by decide) ?_
      exact W.zret (v := 1) (ty := .boolean) hx hb hr rfl (fun t ht hW => ⟨1, rfl, (plX1_isStuffedDue_5 st sib lf ts rs c_5 c_16), ht⟩) (fun q h => nomatch h) dX1_isStuffedDue_24
def FX1_stepOver (st : Int32) (sib : Int32) (lf : Int32) (ts : Tk) (rs : Rw) (p0 : Int32) : Tk :=
  let f_1 := ts.1 + 1
  if p0 = 1 then
    let f_2 := ts.2.2.1 + 1
    (f_1, ts.2.1, f_2, ts.2.2.2)
  else
    (f_1, ts.2.1, 0, ts.2.2.2)
set_option maxRecDepth 100000 in
theorem plX1_stepOver_0 (st : Int32) (sib : Int32) (lf : Int32) (ts : Tk) (rs : Rw) (p0 : Int32) (f_1 : Int32) (ef_1 : f_1 = ts.1 + 1) (c_13 : ¬ (p0 = 1)) : (f_1, ts.2.1, 0, ts.2.2.2) = FX1_stepOver st sib lf ts rs p0 := by
  subst ef_1
  exact (if_neg c_13).symm
set_option maxRecDepth 100000 in
theorem plX1_stepOver_1 (st : Int32) (sib : Int32) (lf : Int32) (ts : Tk) (rs : Rw) (p0 : Int32) (f_1 : Int32) (ef_1 : f_1 = ts.1 + 1) (c_13 : p0 = 1) (f_2 : Int32) (ef_2 : f_2 = ts.2.2.1 + 1) : (f_1, ts.2.1, f_2, ts.2.2.2) = FX1_stepOver st sib lf ts rs p0 := by
  subst ef_1
  subst ef_2
  exact (if_pos c_13).symm
set_option maxHeartbeats 4000000 in
set_option maxRecDepth 100000 in
theorem mX1_stepOver (l : Launch) (dC : Nat → ClassId) (dI : Nat → Nat → Nat) (cI : ClassId) (o oR oa : Nat) (sz : Nat) (st : Int32) (sib : Int32) (lf : Int32) (ts : Tk) (rs : Rw) (p0 : Int32) : Met l yX1_stepOver (Cond.code yX1_stepOver cX1_stepOver 2 none :: G) ({ frames := 0, cells := 0, slots := 0, locals := 0 } : Room) (va_Pc [.ref o, .int p0] (fun U => U.heap.size = sz ∧ va_P (dC, dI) vwCl [(o, .inr (1, [.ref oR, .int st, .int sib, .int ts.1, .int ts.2.1, .int ts.2.2.1, .int ts.2.2.2])), (oR, .inr (0, [.int lf, .ref oa, .int rs.2])), (oa, .inl (cI, 600, .inl rs.1))] U.heap ∧ va_K (dC, dI) vwCl [(cI, .int)] U ∧ va_D (fun _ => True) [(o, .inr (1, [.ref oR, .int st, .int sib, .int ts.1, .int ts.2.1, .int ts.2.2.1, .int ts.2.2.2])), (oR, .inr (0, [.int lf, .ref oa, .int rs.2])), (oa, .inl (cI, 600, .inl rs.1))] ∧ zOk U)) (va_Qv (fun (u : Tk) => u = (FX1_stepOver st sib lf ts rs p0)) (fun (u : Tk) t => va_P (dC, dI) vwCl [(o, .inr (1, [.ref oR, .int st, .int sib, .int u.1, .int u.2.1, .int u.2.2.1, .int u.2.2.2])), (oR, .inr (0, [.int lf, .ref oa, .int rs.2])), (oa, .inl (cI, 600, .inl rs.1))] t.heap ∧ va_D (va_A [(o, .inr (1, [.ref oR, .int st, .int sib, .int ts.1, .int ts.2.1, .int ts.2.2.1, .int ts.2.2.2])), (oR, .inr (0, [.int lf, .ref oa, .int rs.2])), (oa, .inl (cI, 600, .inl rs.1))] sz) [(o, .inr (1, [.ref oR, .int st, .int sib, .int u.1, .int u.2.1, .int u.2.2.1, .int u.2.2.2])), (oR, .inr (0, [.int lf, .ref oa, .int rs.2])), (oa, .inl (cI, 600, .inl rs.1))]) (va_A [(o, .inr (1, [.ref oR, .int st, .int sib, .int ts.1, .int ts.2.1, .int ts.2.2.1, .int ts.2.2.2])), (oR, .inr (0, [.int lf, .ref oa, .int rs.2])), (oa, .inl (cI, 600, .inl rs.1))] sz)) 0 0 (va_A [(o, .inr (1, [.ref oR, .int st, .int sib, .int ts.1, .int ts.2.1, .int ts.2.2.1, .int ts.2.2.2])), (oR, .inr (0, [.int lf, .ref oa, .int rs.2])), (oa, .inl (cI, 600, .inl rs.1))] sz) := by
  refine Met.ofW (cc := cX1_stepOver) (maxL := 2) (ret := none) (by decide) rfl ?_
  intro p e s m args below meth c s₁ B hml hv
  obtain ⟨rfl, hsz, hP, hK, hD0, hZ⟩ := hv
  have hx := B.exec
  have hb := B.bytes
  have hr := B.returns
  have hts : ∀ w ∈ G, w.before [.ref o, .int p0].toArray s = true := fun w h => atoms_spec (ws := (Cond.code yX1_stepOver cX1_stepOver 2 none :: G)) B.pre w (List.mem_cons_of_mem _ h)
  have hown : s.vm.findClass RX1 = some m.cls := findClass_of_methodNamed B.named
  have hlocks := B.notSynchronized
  subst hsz
  have hD := hD0.self (sz := s.heap.size)
  generalize hAe : va_A [(o, .inr (1, [.ref oR, .int st, .int sib, .int ts.1, .int ts.2.1, .int ts.2.2.1, .int ts.2.2.2])), (oR, .inr (0, [.int lf, .ref oa, .int rs.2])), (oa, .inl (cI, 600, .inl rs.1))] s.heap.size = A at hD ⊢
  have hA : ∀ q : Nat, s.heap.size ≤ q → A q := fun q h => by rw [← hAe]; exact Or.inr h
  have hS : va_S A s.heap s.heap [] := va_S.rf
  have hP : va_P (dC, dI) vwCl [(o, .inr (1, [.ref oR, .int st, .int sib, .int ts.1, .int ts.2.1, .int ts.2.2.1, .int ts.2.2.2])), (oR, .inr (0, [.int lf, .ref oa, .int rs.2])), (oa, .inl (cI, 600, .inl rs.1))] s.heap := hP
  have hl := lv_entry ([.ref o, .int p0]) (n := 2) (Nat.le_of_ble_eq_true rfl)
  rw [lg_entry_eq]
  generalize (lg_sl ([.ref o, .int p0]) ++ List.replicate (2 - (lg_sl ([.ref o, .int p0])).length) Slot.unset).toArray = ls at hl ⊢
  have hl : lv_has ls 2 [(0, .ref o), (1, .int p0)] := hl
  refine lv_aload_n hx hb dX1_stepOver_0 rfl (lv_at hl 0 rfl) ?_
  refine lv_dup hx hb dX1_stepOver_1 rfl ?_
  refine va_get (D := (dC, dI)) (ci := 1) (v := .int ts.1) (C := RX1) (T := TX1) (N := 7) hx hb hts inGX1 hown hK hP 0 rfl rfl 3 (by decide) (hts _ wd79) (fun _ h9 => h9) rfl dX1_stepOver_2 ?_
  refine lv_iconst (v := 1) hx hb dX1_stepOver_5 (by decide) ?_
  refine lv_iadd hx hb dX1_stepOver_6 ?_
  refine lv_topi (fun f_1 ef_1 => ?_)
  refine va_put (D := (dC, dI)) (ci := 1) (v := .int f_1) (ty := .int) (C := RX1) (T := TX1) (N := 7) hx hb hts inGX1 tyX1 tyX1_ok nmX1 hown hK hP hD hS 0 rfl rfl 3 (by decide) (hts _ wd79) (fun _ h9 => h9) rfl (by decide +kernel) rfl rfl (Nat.le_of_ble_eq_true rfl) dX1_stepOver_7 (fun H locs hP hD hS => ?_)
  have hP : va_P (dC, dI) vwCl [(o, .inr (1, [.ref oR, .int st, .int sib, .int f_1, .int ts.2.1, .int ts.2.2.1, .int ts.2.2.2])), (oR, .inr (0, [.int lf, .ref oa, .int rs.2])), (oa, .inl (cI, 600, .inl rs.1))] H := hP
  have hD : va_D A [(o, .inr (1, [.ref oR, .int st, .int sib, .int f_1, .int ts.2.1, .int ts.2.2.1, .int ts.2.2.2])), (oR, .inr (0, [.int lf, .ref oa, .int rs.2])), (oa, .inl (cI, 600, .inl rs.1))] := hD
  refine lv_aload_n hx hb dX1_stepOver_10 rfl (lv_at hl 0 rfl) ?_
  refine lv_iload_n hx hb dX1_stepOver_11 rfl (lv_at hl 1 rfl) ?_
  refine lv_iconst (v := 1) hx hb dX1_stepOver_12 (by decide) ?_
  refine lv_icmp_ne (tgt := 25) hx hb dX1_stepOver_13 (by decide) (fun c_13 => ?_) (fun c_13 => ?_)
  · refine lv_iconst (v := 0) hx hb dX1_stepOver_25 (by decide) ?_
    refine va_put (D := (dC, dI)) (ci := 1) (v := .int 0) (ty := .int) (C := RX1) (T := TX1) (N := 7) hx hb hts inGX1 tyX1 tyX1_ok nmX1 hown hK hP hD hS 0 rfl rfl 5 (by decide) (hts _ wd81) (fun _ h9 => h9) rfl (by decide +kernel) rfl rfl (Nat.le_of_ble_eq_true rfl) dX1_stepOver_26 (fun H locs hP hD hS => ?_)
    have hP : va_P (dC, dI) vwCl [(o, .inr (1, [.ref oR, .int st, .int sib, .int f_1, .int ts.2.1, .int 0, .int ts.2.2.2])), (oR, .inr (0, [.int lf, .ref oa, .int rs.2])), (oa, .inl (cI, 600, .inl rs.1))] H := hP
    have hD : va_D A [(o, .inr (1, [.ref oR, .int st, .int sib, .int f_1, .int ts.2.1, .int 0, .int ts.2.2.2])), (oR, .inr (0, [.int lf, .ref oa, .int rs.2])), (oa, .inl (cI, 600, .inl rs.1))] := hD
    have hP9 := hP.sub (ws' := [(o, .inr (1, [.ref oR, .int st, .int sib, .int f_1, .int ts.2.1, .int 0, .int ts.2.2.2])), (oR, .inr (0, [.int lf, .ref oa, .int rs.2])), (oa, .inl (cI, 600, .inl rs.1))]) [0, 1, 2] rfl
    have hD9 := hD.sub (ws' := [(o, .inr (1, [.ref oR, .int st, .int sib, .int f_1, .int ts.2.1, .int 0, .int ts.2.2.2])), (oR, .inr (0, [.int lf, .ref oa, .int rs.2])), (oa, .inl (cI, 600, .inl rs.1))]) [0, 1, 2] (by decide) rfl
    exact W.vret hx hb hr (fun t ht hW => ⟨⟨(f_1, ts.2.1, 0, ts.2.2.2), rfl, (plX1_stepOver_0 st sib lf ts rs p0 _ ef_1 c_13), by rw [ht]; exact hP9, hD9⟩, hS.F ht⟩) hS.2.2 dX1_stepOver_29
  · refine lv_aload_n hx hb dX1_stepOver_16 rfl (lv_at hl 0 rfl) ?_
    refine va_get (D := (dC, dI)) (ci := 1) (v := .int ts.2.2.1) (C := RX1) (T := TX1) (N := 7) hx hb hts inGX1 hown hK hP 0 rfl rfl 5 (by decide) (hts _ wd81) (fun _ h9 => h9) rfl dX1_stepOver_17 ?_
    refine lv_iconst (v := 1) hx hb dX1_stepOver_20 (by decide) ?_
    refine lv_iadd hx hb dX1_stepOver_21 ?_
    refine lv_goto (tgt := 26) hx hb dX1_stepOver_22 (by decide) ?_
    refine lv_topi (fun f_2 ef_2 => ?_)
    refine va_put (D := (dC, dI)) (ci := 1) (v := .int f_2) (ty := .int) (C := RX1) (T := TX1) (N := 7) hx hb hts inGX1 tyX1 tyX1_ok nmX1 hown hK hP hD hS 0 rfl rfl 5 (by decide) (hts _ wd81) (fun _ h9 => h9) rfl (by decide +kernel) rfl rfl (Nat.le_of_ble_eq_true rfl) dX1_stepOver_26 (fun H locs hP hD hS => ?_)
    have hP : va_P (dC, dI) vwCl [(o, .inr (1, [.ref oR, .int st, .int sib, .int f_1, .int ts.2.1, .int f_2, .int ts.2.2.2])), (oR, .inr (0, [.int lf, .ref oa, .int rs.2])), (oa, .inl (cI, 600, .inl rs.1))] H := hP
    have hD : va_D A [(o, .inr (1, [.ref oR, .int st, .int sib, .int f_1, .int ts.2.1, .int f_2, .int ts.2.2.2])), (oR, .inr (0, [.int lf, .ref oa, .int rs.2])), (oa, .inl (cI, 600, .inl rs.1))] := hD
    have hP9 := hP.sub (ws' := [(o, .inr (1, [.ref oR, .int st, .int sib, .int f_1, .int ts.2.1, .int f_2, .int ts.2.2.2])), (oR, .inr (0, [.int lf, .ref oa, .int rs.2])), (oa, .inl (cI, 600, .inl rs.1))]) [0, 1, 2] rfl
    have hD9 := hD.sub (ws' := [(o, .inr (1, [.ref oR, .int st, .int sib, .int f_1, .int ts.2.1, .int f_2, .int ts.2.2.2])), (oR, .inr (0, [.int lf, .ref oa, .int rs.2])), (oa, .inl (cI, 600, .inl rs.1))]) [0, 1, 2] (by decide) rfl
    exact W.vret hx hb hr (fun t ht hW => ⟨⟨(f_1, ts.2.1, f_2, ts.2.2.2), rfl, (plX1_stepOver_1 st sib lf ts rs p0 _ ef_1 c_13 _ ef_2), by rw [ht]; exact hP9, hD9⟩, hS.F ht⟩) hS.2.2 dX1_stepOver_29
def FX1_stepOverStuffed (st : Int32) (sib : Int32) (lf : Int32) (ts : Tk) (rs : Rw) : Tk :=
  let f_1 := ts.1 + 1
  let f_2 := ts.2.1 + 1
  (f_1, f_2, 0, ts.2.2.2)
set_option maxRecDepth 100000 in
theorem plX1_stepOverStuffed_0 (st : Int32) (sib : Int32) (lf : Int32) (ts : Tk) (rs : Rw) (f_1 : Int32) (ef_1 : f_1 = ts.1 + 1) (f_2 : Int32) (ef_2 : f_2 = ts.2.1 + 1) : (f_1, f_2, 0, ts.2.2.2) = FX1_stepOverStuffed st sib lf ts rs := by
  subst ef_1
  subst ef_2
  exact rfl
set_option maxHeartbeats 4000000 in
set_option maxRecDepth 100000 in
theorem mX1_stepOverStuffed (l : Launch) (dC : Nat → ClassId) (dI : Nat → Nat → Nat) (cI : ClassId) (o oR oa : Nat) (sz : Nat) (st : Int32) (sib : Int32) (lf : Int32) (ts : Tk) (rs : Rw) : Met l yX1_stepOverStuffed (Cond.code yX1_stepOverStuffed cX1_stepOverStuffed 1 none :: G) ({ frames := 0, cells := 0, slots := 0, locals := 0 } : Room) (va_Pc [.ref o] (fun U => U.heap.size = sz ∧ va_P (dC, dI) vwCl [(o, .inr (1, [.ref oR, .int st, .int sib, .int ts.1, .int ts.2.1, .int ts.2.2.1, .int ts.2.2.2])), (oR, .inr (0, [.int lf, .ref oa, .int rs.2])), (oa, .inl (cI, 600, .inl rs.1))] U.heap ∧ va_K (dC, dI) vwCl [(cI, .int)] U ∧ va_D (fun _ => True) [(o, .inr (1, [.ref oR, .int st, .int sib, .int ts.1, .int ts.2.1, .int ts.2.2.1, .int ts.2.2.2])), (oR, .inr (0, [.int lf, .ref oa, .int rs.2])), (oa, .inl (cI, 600, .inl rs.1))] ∧ zOk U)) (va_Qv (fun (u : Tk) => u = (FX1_stepOverStuffed st sib lf ts rs)) (fun (u : Tk) t => va_P (dC, dI) vwCl [(o, .inr (1, [.ref oR, .int st, .int sib, .int u.1, .int u.2.1, .int u.2.2.1, .int u.2.2.2])), (oR, .inr (0, [.int lf, .ref oa, .int rs.2])), (oa, .inl (cI, 600, .inl rs.1))] t.heap ∧ va_D (va_A [(o, .inr (1, [.ref oR, .int st, .int sib, .int ts.1, .int ts.2.1, .int ts.2.2.1, .int ts.2.2.2])), (oR, .inr (0, [.int lf, .ref oa, .int rs.2])), (oa, .inl (cI, 600, .inl rs.1))] sz) [(o, .inr (1, [.ref oR, .int st, .int sib, .int u.1, .int u.2.1, .int u.2.2.1, .int u.2.2.2])), (oR, .inr (0, [.int lf, .ref oa, .int rs.2])), (oa, .inl (cI, 600, .inl rs.1))]) (va_A [(o, .inr (1, [.ref oR, .int st, .int sib, .int ts.1, .int ts.2.1, .int ts.2.2.1, .int ts.2.2.2])), (oR, .inr (0, [.int lf, .ref oa, .int rs.2])), (oa, .inl (cI, 600, .inl rs.1))] sz)) 0 0 (va_A [(o, .inr (1, [.ref oR, .int st, .int sib, .int ts.1, .int ts.2.1, .int ts.2.2.1, .int ts.2.2.2])), (oR, .inr (0, [.int lf, .ref oa, .int rs.2])), (oa, .inl (cI, 600, .inl rs.1))] sz) := by
  refine Met.ofW (cc := cX1_stepOverStuffed) (maxL := 1) (ret := none) (by decide) rfl ?_
  intro p e s m args below meth c s₁ B hml hv
  obtain ⟨rfl, hsz, hP, hK, hD0, hZ⟩ := hv
  have hx := B.exec
  have hb := B.bytes
  have hr := B.returns
  have hts : ∀ w ∈ G, w.before [.ref o].toArray s = true := fun w h => atoms_spec (ws := (Cond.code yX1_stepOverStuffed cX1_stepOverStuffed 1 none :: G)) B.pre w (List.mem_cons_of_mem _ h)
  have hown : s.vm.findClass RX1 = some m.cls := findClass_of_methodNamed B.named
  have hlocks := B.notSynchronized
  subst hsz
  have hD := hD0.self (sz := s.heap.size)
  generalize hAe : va_A [(o, .inr (1, [.ref oR, .int st, .int sib, .int ts.1, .int ts.2.1, .int ts.2.2.1, .int ts.2.2.2])), (oR, .inr (0, [.int lf, .ref oa, .int rs.2])), (oa, .inl (cI, 600, .inl rs.1))] s.heap.size = A at hD ⊢
  have hA : ∀ q : Nat, s.heap.size ≤ q → A q := fun q h => by rw [← hAe]; exact Or.inr h
  have hS : va_S A s.heap s.heap [] := va_S.rf
  have hP : va_P (dC, dI) vwCl [(o, .inr (1, [.ref oR, .int st, .int sib, .int ts.1, .int ts.2.1, .int ts.2.2.1, .int ts.2.2.2])), (oR, .inr (0, [.int lf, .ref oa, .int rs.2])), (oa, .inl (cI, 600, .inl rs.1))] s.heap := hP
  have hl := lv_entry ([.ref o]) (n := 1) (Nat.le_of_ble_eq_true rfl)
  rw [lg_entry_eq]
  generalize (lg_sl ([.ref o]) ++ List.replicate (1 - (lg_sl ([.ref o])).length) Slot.unset).toArray = ls at hl ⊢
  have hl : lv_has ls 1 [(0, .ref o)] := hl
  refine lv_aload_n hx hb dX1_stepOverStuffed_0 rfl (lv_at hl 0 rfl) ?_
  refine lv_dup hx hb dX1_stepOverStuffed_1 rfl ?_
  refine va_get (D := (dC, dI)) (ci := 1) (v := .int ts.1) (C := RX1) (T := TX1) (N := 7) hx hb hts inGX1 hown hK hP 0 rfl rfl 3 (by decide) (hts _ wd79) (fun _ h9 => h9) rfl dX1_stepOverStuffed_2 ?_
  refine lv_iconst (v := 1) hx hb dX1_stepOverStuffed_5 (by decide) ?_
  refine lv_iadd hx hb dX1_stepOverStuffed_6 ?_
  refine lv_topi (fun f_1 ef_1 => ?_)
  refine va_put (D := (dC, dI)) (ci := 1) (v := .int f_1) (ty := .int) (C := RX1) (T := TX1) (N := 7) hx hb hts inGX1 tyX1 tyX1_ok nmX1 hown hK hP hD hS 0 rfl rfl 3 (by decide) (hts _ wd79) (fun _ h9 => h9) rfl (by decide +kernel) rfl rfl (Nat.le_of_ble_eq_true rfl) dX1_stepOverStuffed_7 (fun H locs hP hD hS => ?_)
  have hP : va_P (dC, dI) vwCl [(o, .inr (1, [.ref oR, .int st, .int sib, .int f_1, .int ts.2.1, .int ts.2.2.1, .int ts.2.2.2])), (oR, .inr (0, [.int lf, .ref oa, .int rs.2])), (oa, .inl (cI, 600, .inl rs.1))] H := hP
  have hD : va_D A [(o, .inr (1, [.ref oR, .int st, .int sib, .int f_1, .int ts.2.1, .int ts.2.2.1, .int ts.2.2.2])), (oR, .inr (0, [.int lf, .ref oa, .int rs.2])), (oa, .inl (cI, 600, .inl rs.1))] := hD
  refine lv_aload_n hx hb dX1_stepOverStuffed_10 rfl (lv_at hl 0 rfl) ?_
  refine lv_dup hx hb dX1_stepOverStuffed_11 rfl ?_
  refine va_get (D := (dC, dI)) (ci := 1) (v := .int ts.2.1) (C := RX1) (T := TX1) (N := 7) hx hb hts inGX1 hown hK hP 0 rfl rfl 4 (by decide) (hts _ wd80) (fun _ h9 => h9) rfl dX1_stepOverStuffed_12 ?_
  refine lv_iconst (v := 1) hx hb dX1_stepOverStuffed_15 (by decide) ?_
  refine lv_iadd hx hb dX1_stepOverStuffed_16 ?_
  refine lv_topi (fun f_2 ef_2 => ?_)
  refine va_put (D := (dC, dI)) (ci := 1) (v := .int f_2) (ty := .int) (C := RX1) (T := TX1) (N := 7) hx hb hts inGX1 tyX1 tyX1_ok nmX1 hown hK hP hD hS 0 rfl rfl 4 (by decide) (hts _ wd80) (fun _ h9 => h9) rfl (by decide +kernel) rfl rfl (Nat.le_of_ble_eq_true rfl) dX1_stepOverStuffed_17 (fun H locs hP hD hS => ?_)
  have hP : va_P (dC, dI) vwCl [(o, .inr (1, [.ref oR, .int st, .int sib, .int f_1, .int f_2, .int ts.2.2.1, .int ts.2.2.2])), (oR, .inr (0, [.int lf, .ref oa, .int rs.2])), (oa, .inl (cI, 600, .inl rs.1))] H := hP
  have hD : va_D A [(o, .inr (1, [.ref oR, .int st, .int sib, .int f_1, .int f_2, .int ts.2.2.1, .int ts.2.2.2])), (oR, .inr (0, [.int lf, .ref oa, .int rs.2])), (oa, .inl (cI, 600, .inl rs.1))] := hD
  refine lv_aload_n hx hb dX1_stepOverStuffed_20 rfl (lv_at hl 0 rfl) ?_
  refine lv_iconst (v := 0) hx hb dX1_stepOverStuffed_21 (by decide) ?_
  refine va_put (D := (dC, dI)) (ci := 1) (v := .int 0) (ty := .int) (C := RX1) (T := TX1) (N := 7) hx hb hts inGX1 tyX1 tyX1_ok nmX1 hown hK hP hD hS 0 rfl rfl 5 (by decide) (hts _ wd81) (fun _ h9 => h9) rfl (by decide +kernel) rfl rfl (Nat.le_of_ble_eq_true rfl) dX1_stepOverStuffed_22 (fun H locs hP hD hS => ?_)
  have hP : va_P (dC, dI) vwCl [(o, .inr (1, [.ref oR, .int st, .int sib, .int f_1, .int f_2, .int 0, .int ts.2.2.2])), (oR, .inr (0, [.int lf, .ref oa, .int rs.2])), (oa, .inl (cI, 600, .inl rs.1))] H := hP
  have hD : va_D A [(o, .inr (1, [.ref oR, .int st, .int sib, .int f_1, .int f_2, .int 0, .int ts.2.2.2])), (oR, .inr (0, [.int lf, .ref oa, .int rs.2])), (oa, .inl (cI, 600, .inl rs.1))] := hD
  have hP9 := hP.sub (ws' := [(o, .inr (1, [.ref oR, .int st, .int sib, .int f_1, .int f_2, .int 0, .int ts.2.2.2])), (oR, .inr (0, [.int lf, .ref oa, .int rs.2])), (oa, .inl (cI, 600, .inl rs.1))]) [0, 1, 2] rfl
  have hD9 := hD.sub (ws' := [(o, .inr (1, [.ref oR, .int st, .int sib, .int f_1, .int f_2, .int 0, .int ts.2.2.2])), (oR, .inr (0, [.int lf, .ref oa, .int rs.2])), (oa, .inl (cI, 600, .inl rs.1))]) [0, 1, 2] (by decide) rfl
  exact W.vret hx hb hr (fun t ht hW => ⟨⟨(f_1, f_2, 0, ts.2.2.2), rfl, (plX1_stepOverStuffed_0 st sib lf ts rs _ ef_1 _ ef_2), by rw [ht]; exact hP9, hD9⟩, hS.F ht⟩) hS.2.2 dX1_stepOverStuffed_25
def FX1_stepOverMark (st : Int32) (sib : Int32) (lf : Int32) (ts : Tk) (rs : Rw) : Tk :=
  let f_1 := ts.1 + 16
  let f_2 := f_1 >>> (3 &&& 31)
  (f_1, ts.2.1, ts.2.2.1, f_2)
set_option maxRecDepth 100000 in
theorem plX1_stepOverMark_0 (st : Int32) (sib : Int32) (lf : Int32) (ts : Tk) (rs : Rw) (f_1 : Int32) (ef_1 : f_1 = ts.1 + 16) (f_2 : Int32) (ef_2 : f_2 = f_1 >>> (3 &&& 31)) : (f_1, ts.2.1, ts.2.2.1, f_2) = FX1_stepOverMark st sib lf ts rs := by
  subst ef_1
  subst ef_2
  exact rfl
set_option maxHeartbeats 4000000 in
set_option maxRecDepth 100000 in
theorem mX1_stepOverMark (l : Launch) (dC : Nat → ClassId) (dI : Nat → Nat → Nat) (cI : ClassId) (o oR oa : Nat) (sz : Nat) (st : Int32) (sib : Int32) (lf : Int32) (ts : Tk) (rs : Rw) : Met l yX1_stepOverMark (Cond.code yX1_stepOverMark cX1_stepOverMark 1 none :: G) ({ frames := 0, cells := 0, slots := 0, locals := 0 } : Room) (va_Pc [.ref o] (fun U => U.heap.size = sz ∧ va_P (dC, dI) vwCl [(o, .inr (1, [.ref oR, .int st, .int sib, .int ts.1, .int ts.2.1, .int ts.2.2.1, .int ts.2.2.2])), (oR, .inr (0, [.int lf, .ref oa, .int rs.2])), (oa, .inl (cI, 600, .inl rs.1))] U.heap ∧ va_K (dC, dI) vwCl [(cI, .int)] U ∧ va_D (fun _ => True) [(o, .inr (1, [.ref oR, .int st, .int sib, .int ts.1, .int ts.2.1, .int ts.2.2.1, .int ts.2.2.2])), (oR, .inr (0, [.int lf, .ref oa, .int rs.2])), (oa, .inl (cI, 600, .inl rs.1))] ∧ zOk U)) (va_Qv (fun (u : Tk) => u = (FX1_stepOverMark st sib lf ts rs)) (fun (u : Tk) t => va_P (dC, dI) vwCl [(o, .inr (1, [.ref oR, .int st, .int sib, .int u.1, .int u.2.1, .int u.2.2.1, .int u.2.2.2])), (oR, .inr (0, [.int lf, .ref oa, .int rs.2])), (oa, .inl (cI, 600, .inl rs.1))] t.heap ∧ va_D (va_A [(o, .inr (1, [.ref oR, .int st, .int sib, .int ts.1, .int ts.2.1, .int ts.2.2.1, .int ts.2.2.2])), (oR, .inr (0, [.int lf, .ref oa, .int rs.2])), (oa, .inl (cI, 600, .inl rs.1))] sz) [(o, .inr (1, [.ref oR, .int st, .int sib, .int u.1, .int u.2.1, .int u.2.2.1, .int u.2.2.2])), (oR, .inr (0, [.int lf, .ref oa, .int rs.2])), (oa, .inl (cI, 600, .inl rs.1))]) (va_A [(o, .inr (1, [.ref oR, .int st, .int sib, .int ts.1, .int ts.2.1, .int ts.2.2.1, .int ts.2.2.2])), (oR, .inr (0, [.int lf, .ref oa, .int rs.2])), (oa, .inl (cI, 600, .inl rs.1))] sz)) 0 0 (va_A [(o, .inr (1, [.ref oR, .int st, .int sib, .int ts.1, .int ts.2.1, .int ts.2.2.1, .int ts.2.2.2])), (oR, .inr (0, [.int lf, .ref oa, .int rs.2])), (oa, .inl (cI, 600, .inl rs.1))] sz) := by
  refine Met.ofW (cc := cX1_stepOverMark) (maxL := 1) (ret := none) (by decide) rfl ?_
  intro p e s m args below meth c s₁ B hml hv
  obtain ⟨rfl, hsz, hP, hK, hD0, hZ⟩ := hv
  have hx := B.exec
  have hb := B.bytes
  have hr := B.returns
  have hts : ∀ w ∈ G, w.before [.ref o].toArray s = true := fun w h => atoms_spec (ws := (Cond.code yX1_stepOverMark cX1_stepOverMark 1 none :: G)) B.pre w (List.mem_cons_of_mem _ h)
  have hown : s.vm.findClass RX1 = some m.cls := findClass_of_methodNamed B.named
  have hlocks := B.notSynchronized
  subst hsz
  have hD := hD0.self (sz := s.heap.size)
  generalize hAe : va_A [(o, .inr (1, [.ref oR, .int st, .int sib, .int ts.1, .int ts.2.1, .int ts.2.2.1, .int ts.2.2.2])), (oR, .inr (0, [.int lf, .ref oa, .int rs.2])), (oa, .inl (cI, 600, .inl rs.1))] s.heap.size = A at hD ⊢
  have hA : ∀ q : Nat, s.heap.size ≤ q → A q := fun q h => by rw [← hAe]; exact Or.inr h
  have hS : va_S A s.heap s.heap [] := va_S.rf
  have hP : va_P (dC, dI) vwCl [(o, .inr (1, [.ref oR, .int st, .int sib, .int ts.1, .int ts.2.1, .int ts.2.2.1, .int ts.2.2.2])), (oR, .inr (0, [.int lf, .ref oa, .int rs.2])), (oa, .inl (cI, 600, .inl rs.1))] s.heap := hP
  have hl := lv_entry ([.ref o]) (n := 1) (Nat.le_of_ble_eq_true rfl)
  rw [lg_entry_eq]
  generalize (lg_sl ([.ref o]) ++ List.replicate (1 - (lg_sl ([.ref o])).length) Slot.unset).toArray = ls at hl ⊢
  have hl : lv_has ls 1 [(0, .ref o)] := hl
  refine lv_aload_n hx hb dX1_stepOverMark_0 rfl (lv_at hl 0 rfl) ?_
  refine lv_dup hx hb dX1_stepOverMark_1 rfl ?_
  refine va_get (D := (dC, dI)) (ci := 1) (v := .int ts.1) (C := RX1) (T := TX1) (N := 7) hx hb hts inGX1 hown hK hP 0 rfl rfl 3 (by decide) (hts _ wd79) (fun _ h9 => h9) rfl dX1_stepOverMark_2 ?_
  refine lv_bipush (v := 16) hx hb dX1_stepOverMark_5 (by decide) ?_
  refine lv_iadd hx hb dX1_stepOverMark_7 ?_
  refine lv_topi (fun f_1 ef_1 => ?_)
  refine va_put (D := (dC, dI)) (ci := 1) (v := .int f_1) (ty := .int) (C := RX1) (T := TX1) (N := 7) hx hb hts inGX1 tyX1 tyX1_ok nmX1 hown hK hP hD hS 0 rfl rfl 3 (by decide) (hts _ wd79) (fun _ h9 => h9) rfl (by decide +kernel) rfl rfl (Nat.le_of_ble_eq_true rfl) dX1_stepOverMark_8 (fun H locs hP hD hS => ?_)
  have hP : va_P (dC, dI) vwCl [(o, .inr (1, [.ref oR, .int st, .int sib, .int f_1, .int ts.2.1, .int ts.2.2.1, .int ts.2.2.2])), (oR, .inr (0, [.int lf, .ref oa, .int rs.2])), (oa, .inl (cI, 600, .inl rs.1))] H := hP
  have hD : va_D A [(o, .inr (1, [.ref oR, .int st, .int sib, .int f_1, .int ts.2.1, .int ts.2.2.1, .int ts.2.2.2])), (oR, .inr (0, [.int lf, .ref oa, .int rs.2])), (oa, .inl (cI, 600, .inl rs.1))] := hD
  refine lv_aload_n hx hb dX1_stepOverMark_11 rfl (lv_at hl 0 rfl) ?_
  refine lv_aload_n hx hb dX1_stepOverMark_12 rfl (lv_at hl 0 rfl) ?_
  refine va_get (D := (dC, dI)) (ci := 1) (v := .int f_1) (C := RX1) (T := TX1) (N := 7) hx hb hts inGX1 hown hK hP 0 rfl rfl 3 (by decide) (hts _ wd79) (fun _ h9 => h9) rfl dX1_stepOverMark_13 ?_
  refine lv_iconst (v := 3) hx hb dX1_stepOverMark_16 (by decide) ?_
  refine lv_ishr hx hb dX1_stepOverMark_17 ?_
  refine lv_topi (fun f_2 ef_2 => ?_)
  refine va_put (D := (dC, dI)) (ci := 1) (v := .int f_2) (ty := .int) (C := RX1) (T := TX1) (N := 7) hx hb hts inGX1 tyX1 tyX1_ok nmX1 hown hK hP hD hS 0 rfl rfl 6 (by decide) (hts _ wd82) (fun _ h9 => h9) rfl (by decide +kernel) rfl rfl (Nat.le_of_ble_eq_true rfl) dX1_stepOverMark_18 (fun H locs hP hD hS => ?_)
  have hP : va_P (dC, dI) vwCl [(o, .inr (1, [.ref oR, .int st, .int sib, .int f_1, .int ts.2.1, .int ts.2.2.1, .int f_2])), (oR, .inr (0, [.int lf, .ref oa, .int rs.2])), (oa, .inl (cI, 600, .inl rs.1))] H := hP
  have hD : va_D A [(o, .inr (1, [.ref oR, .int st, .int sib, .int f_1, .int ts.2.1, .int ts.2.2.1, .int f_2])), (oR, .inr (0, [.int lf, .ref oa, .int rs.2])), (oa, .inl (cI, 600, .inl rs.1))] := hD
  have hP9 := hP.sub (ws' := [(o, .inr (1, [.ref oR, .int st, .int sib, .int f_1, .int ts.2.1, .int ts.2.2.1, .int f_2])), (oR, .inr (0, [.int lf, .ref oa, .int rs.2])), (oa, .inl (cI, 600, .inl rs.1))]) [0, 1, 2] rfl
  have hD9 := hD.sub (ws' := [(o, .inr (1, [.ref oR, .int st, .int sib, .int f_1, .int ts.2.1, .int ts.2.2.1, .int f_2])), (oR, .inr (0, [.int lf, .ref oa, .int rs.2])), (oa, .inl (cI, 600, .inl rs.1))]) [0, 1, 2] (by decide) rfl
  exact W.vret hx hb hr (fun t ht hW => ⟨⟨(f_1, ts.2.1, ts.2.2.1, f_2), rfl, (plX1_stepOverMark_0 st sib lf ts rs _ ef_1 _ ef_2), by rw [ht]; exact hP9, hD9⟩, hS.F ht⟩) hS.2.2 dX1_stepOverMark_21
def FX1_goBack (st : Int32) (sib : Int32) (lf : Int32) (ts : Tk) (rs : Rw) (p0 : Int32) (p1 : Int32) (p2 : Int32) : Tk :=
  (p0, p1, p2, ts.2.2.2)
set_option maxRecDepth 100000 in
theorem plX1_goBack_0 (st : Int32) (sib : Int32) (lf : Int32) (ts : Tk) (rs : Rw) (p0 : Int32) (p1 : Int32) (p2 : Int32)  : (p0, p1, p2, ts.2.2.2) = FX1_goBack st sib lf ts rs p0 p1 p2 := by
  exact rfl
set_option maxHeartbeats 4000000 in
set_option maxRecDepth 100000 in
theorem mX1_goBack (l : Launch) (dC : Nat → ClassId) (dI : Nat → Nat → Nat) (cI : ClassId) (o oR oa : Nat) (sz : Nat) (st : Int32) (sib : Int32) (lf : Int32) (ts : Tk) (rs : Rw) (p0 : Int32) (p1 : Int32) (p2 : Int32) : Met l yX1_goBack (Cond.code yX1_goBack cX1_goBack 4 none :: G) ({ frames := 0, cells := 0, slots := 0, locals := 0 } : Room) (va_Pc [.ref o, .int p0, .int p1, .int p2] (fun U => U.heap.size = sz ∧ va_P (dC, dI) vwCl [(o, .inr (1, [.ref oR, .int st, .int sib, .int ts.1, .int ts.2.1, .int ts.2.2.1, .int ts.2.2.2])), (oR, .inr (0, [.int lf, .ref oa, .int rs.2])), (oa, .inl (cI, 600, .inl rs.1))] U.heap ∧ va_K (dC, dI) vwCl [(cI, .int)] U ∧ va_D (fun _ => True) [(o, .inr (1, [.ref oR, .int st, .int sib, .int ts.1, .int ts.2.1, .int ts.2.2.1, .int ts.2.2.2])), (oR, .inr (0, [.int lf, .ref oa, .int rs.2])), (oa, .inl (cI, 600, .inl rs.1))] ∧ zOk U)) (va_Qv (fun (u : Tk) => u = (FX1_goBack st sib lf ts rs p0 p1 p2)) (fun (u : Tk) t => va_P (dC, dI) vwCl [(o, .inr (1, [.ref oR, .int st, .int sib, .int u.1, .int u.2.1, .int u.2.2.1, .int u.2.2.2])), (oR, .inr (0, [.int lf, .ref oa, .int rs.2])), (oa, .inl (cI, 600, .inl rs.1))] t.heap ∧ va_D (va_A [(o, .inr (1, [.ref oR, .int st, .int sib, .int ts.1, .int ts.2.1, .int ts.2.2.1, .int ts.2.2.2])), (oR, .inr (0, [.int lf, .ref oa, .int rs.2])), (oa, .inl (cI, 600, .inl rs.1))] sz) [(o, .inr (1, [.ref oR, .int st, .int sib, .int u.1, .int u.2.1, .int u.2.2.1, .int u.2.2.2])), (oR, .inr (0, [.int lf, .ref oa, .int rs.2])), (oa, .inl (cI, 600, .inl rs.1))]) (va_A [(o, .inr (1, [.ref oR, .int st, .int sib, .int ts.1, .int ts.2.1, .int ts.2.2.1, .int ts.2.2.2])), (oR, .inr (0, [.int lf, .ref oa, .int rs.2])), (oa, .inl (cI, 600, .inl rs.1))] sz)) 0 0 (va_A [(o, .inr (1, [.ref oR, .int st, .int sib, .int ts.1, .int ts.2.1, .int ts.2.2.1, .int ts.2.2.2])), (oR, .inr (0, [.int lf, .ref oa, .int rs.2])), (oa, .inl (cI, 600, .inl rs.1))] sz) := by
  refine Met.ofW (cc := cX1_goBack) (maxL := 4) (ret := none) (by decide) rfl ?_
  intro p e s m args below meth c s₁ B hml hv
  obtain ⟨rfl, hsz, hP, hK, hD0, hZ⟩ := hv
  have hx := B.exec
  have hb := B.bytes
  have hr := B.returns
  have hts : ∀ w ∈ G, w.before [.ref o, .int p0, .int p1, .int p2].toArray s = true := fun w h => atoms_spec (ws := (Cond.code yX1_goBack cX1_goBack 4 none :: G)) B.pre w (List.mem_cons_of_mem _ h)
  have hown : s.vm.findClass RX1 = some m.cls := findClass_of_methodNamed B.named
  have hlocks := B.notSynchronized
  subst hsz
  have hD := hD0.self (sz := s.heap.size)
  generalize hAe : va_A [(o, .inr (1, [.ref oR, .int st, .int sib, .int ts.1, .int ts.2.1, .int ts.2.2.1, .int ts.2.2.2])), (oR, .inr (0, [.int lf, .ref oa, .int rs.2])), (oa, .inl (cI, 600, .inl rs.1))] s.heap.size = A at hD ⊢
  have hA : ∀ q : Nat, s.heap.size ≤ q → A q := fun q h => by rw [← hAe]; exact Or.inr h
  have hS : va_S A s.heap s.heap [] := va_S.rf
  have hP : va_P (dC, dI) vwCl [(o, .inr (1, [.ref oR, .int st, .int sib, .int ts.1, .int ts.2.1, .int ts.2.2.1, .int ts.2.2.2])), (oR, .inr (0, [.int lf, .ref oa, .int rs.2])), (oa, .inl (cI, 600, .inl rs.1))] s.heap := hP
  have hl := lv_entry ([.ref o, .int p0, .int p1, .int p2]) (n := 4) (Nat.le_of_ble_eq_true rfl)
  rw [lg_entry_eq]
  generalize (lg_sl ([.ref o, .int p0, .int p1, .int p2]) ++ List.replicate (4 - (lg_sl ([.ref o, .int p0, .int p1, .int p2])).length) Slot.unset).toArray = ls at hl ⊢
  have hl : lv_has ls 4 [(0, .ref o), (1, .int p0), (2, .int p1), (3, .int p2)] := hl
  refine lv_aload_n hx hb dX1_goBack_0 rfl (lv_at hl 0 rfl) ?_
  refine lv_iload_n hx hb dX1_goBack_1 rfl (lv_at hl 1 rfl) ?_
  refine va_put (D := (dC, dI)) (ci := 1) (v := .int p0) (ty := .int) (C := RX1) (T := TX1) (N := 7) hx hb hts inGX1 tyX1 tyX1_ok nmX1 hown hK hP hD hS 0 rfl rfl 3 (by decide) (hts _ wd79) (fun _ h9 => h9) rfl (by decide +kernel) rfl rfl (Nat.le_of_ble_eq_true rfl) dX1_goBack_2 (fun H locs hP hD hS => ?_)
  have hP : va_P (dC, dI) vwCl [(o, .inr (1, [.ref oR, .int st, .int sib, .int p0, .int ts.2.1, .int ts.2.2.1, .int ts.2.2.2])), (oR, .inr (0, [.int lf, .ref oa, .int rs.2])), (oa, .inl (cI, 600, .inl rs.1))] H := hP
  have hD : va_D A [(o, .inr (1, [.ref oR, .int st, .int sib, .int p0, .int ts.2.1, .int ts.2.2.1, .int ts.2.2.2])), (oR, .inr (0, [.int lf, .ref oa, .int rs.2])), (oa, .inl (cI, 600, .inl rs.1))] := hD
  refine lv_aload_n hx hb dX1_goBack_5 rfl (lv_at hl 0 rfl) ?_
  refine lv_iload_n hx hb dX1_goBack_6 rfl (lv_at hl 2 rfl) ?_
  refine va_put (D := (dC, dI)) (ci := 1) (v := .int p1) (ty := .int) (C := RX1) (T := TX1) (N := 7) hx hb hts inGX1 tyX1 tyX1_ok nmX1 hown hK hP hD hS 0 rfl rfl 4 (by decide) (hts _ wd80) (fun _ h9 => h9) rfl (by decide +kernel) rfl rfl (Nat.le_of_ble_eq_true rfl) dX1_goBack_7 (fun H locs hP hD hS => ?_)
  have hP : va_P (dC, dI) vwCl [(o, .inr (1, [.ref oR, .int st, .int sib, .int p0, .int p1, .int ts.2.2.1, .int ts.2.2.2])), (oR, .inr (0, [.int lf, .ref oa, .int rs.2])), (oa, .inl (cI, 600, .inl rs.1))] H := hP
  have hD : va_D A [(o, .inr (1, [.ref oR, .int st, .int sib, .int p0, .int p1, .int ts.2.2.1, .int ts.2.2.2])), (oR, .inr (0, [.int lf, .ref oa, .int rs.2])), (oa, .inl (cI, 600, .inl rs.1))] := hD
  refine lv_aload_n hx hb dX1_goBack_10 rfl (lv_at hl 0 rfl) ?_
  refine lv_iload_n hx hb dX1_goBack_11 rfl (lv_at hl 3 rfl) ?_
  refine va_put (D := (dC, dI)) (ci := 1) (v := .int p2) (ty := .int) (C := RX1) (T := TX1) (N := 7) hx hb hts inGX1 tyX1 tyX1_ok nmX1 hown hK hP hD hS 0 rfl rfl 5 (by decide) (hts _ wd81) (fun _ h9 => h9) rfl (by decide +kernel) rfl rfl (Nat.le_of_ble_eq_true rfl) dX1_goBack_12 (fun H locs hP hD hS => ?_)
  have hP : va_P (dC, dI) vwCl [(o, .inr (1, [.ref oR, .int st, .int sib, .int p0, .int p1, .int p2, .int ts.2.2.2])), (oR, .inr (0, [.int lf, .ref oa, .int rs.2])), (oa, .inl (cI, 600, .inl rs.1))] H := hP
  have hD : va_D A [(o, .inr (1, [.ref oR, .int st, .int sib, .int p0, .int p1, .int p2, .int ts.2.2.2])), (oR, .inr (0, [.int lf, .ref oa, .int rs.2])), (oa, .inl (cI, 600, .inl rs.1))] := hD
  have hP9 := hP.sub (ws' := [(o, .inr (1, [.ref oR, .int st, .int sib, .int p0, .int p1, .int p2, .int ts.2.2.2])), (oR, .inr (0, [.int lf, .ref oa, .int rs.2])), (oa, .inl (cI, 600, .inl rs.1))]) [0, 1, 2] rfl
  have hD9 := hD.sub (ws' := [(o, .inr (1, [.ref oR, .int st, .int sib, .int p0, .int p1, .int p2, .int ts.2.2.2])), (oR, .inr (0, [.int lf, .ref oa, .int rs.2])), (oa, .inl (cI, 600, .inl rs.1))]) [0, 1, 2] (by decide) rfl
  exact W.vret hx hb hr (fun t ht hW => ⟨⟨(p0, p1, p2, ts.2.2.2), rfl, (plX1_goBack_0 st sib lf ts rs p0 p1 p2), by rw [ht]; exact hP9, hD9⟩, hS.F ht⟩) hS.2.2 dX1_goBack_15
def FX1_goToStart (st : Int32) (sib : Int32) (lf : Int32) (ts : Tk) (rs : Rw) : Tk :=
  let u_2 := FX1_goBack st sib lf ts rs 0 0 0
  (u_2.1, u_2.2.1, u_2.2.2.1, 0)
set_option maxRecDepth 100000 in
theorem plX1_goToStart_0 (st : Int32) (sib : Int32) (lf : Int32) (ts : Tk) (rs : Rw) (u_2 : Tk) (hw_1 : u_2 = FX1_goBack st sib lf ts rs 0 0 0) : (u_2.1, u_2.2.1, u_2.2.2.1, 0) = FX1_goToStart st sib lf ts rs := by
  subst hw_1
  exact rfl
set_option maxHeartbeats 4000000 in
set_option maxRecDepth 100000 in
theorem mX1_goToStart (l : Launch) (dC : Nat → ClassId) (dI : Nat → Nat → Nat) (cI : ClassId) (o oR oa : Nat) (sz : Nat) (st : Int32) (sib : Int32) (lf : Int32) (ts : Tk) (rs : Rw) : Met l yX1_goToStart (Cond.code yX1_goToStart cX1_goToStart 1 none :: G) ({ frames := 1, cells := 0, slots := 0, locals := 23 } : Room) (va_Pc [.ref o] (fun U => U.heap.size = sz ∧ va_P (dC, dI) vwCl [(o, .inr (1, [.ref oR, .int st, .int sib, .int ts.1, .int ts.2.1, .int ts.2.2.1, .int ts.2.2.2])), (oR, .inr (0, [.int lf, .ref oa, .int rs.2])), (oa, .inl (cI, 600, .inl rs.1))] U.heap ∧ va_K (dC, dI) vwCl [(cI, .int)] U ∧ va_D (fun _ => True) [(o, .inr (1, [.ref oR, .int st, .int sib, .int ts.1, .int ts.2.1, .int ts.2.2.1, .int ts.2.2.2])), (oR, .inr (0, [.int lf, .ref oa, .int rs.2])), (oa, .inl (cI, 600, .inl rs.1))] ∧ zOk U)) (va_Qv (fun (u : Tk) => u = (FX1_goToStart st sib lf ts rs)) (fun (u : Tk) t => va_P (dC, dI) vwCl [(o, .inr (1, [.ref oR, .int st, .int sib, .int u.1, .int u.2.1, .int u.2.2.1, .int u.2.2.2])), (oR, .inr (0, [.int lf, .ref oa, .int rs.2])), (oa, .inl (cI, 600, .inl rs.1))] t.heap ∧ va_D (va_A [(o, .inr (1, [.ref oR, .int st, .int sib, .int ts.1, .int ts.2.1, .int ts.2.2.1, .int ts.2.2.2])), (oR, .inr (0, [.int lf, .ref oa, .int rs.2])), (oa, .inl (cI, 600, .inl rs.1))] sz) [(o, .inr (1, [.ref oR, .int st, .int sib, .int u.1, .int u.2.1, .int u.2.2.1, .int u.2.2.2])), (oR, .inr (0, [.int lf, .ref oa, .int rs.2])), (oa, .inl (cI, 600, .inl rs.1))]) (va_A [(o, .inr (1, [.ref oR, .int st, .int sib, .int ts.1, .int ts.2.1, .int ts.2.2.1, .int ts.2.2.2])), (oR, .inr (0, [.int lf, .ref oa, .int rs.2])), (oa, .inl (cI, 600, .inl rs.1))] sz)) 0 0 (va_A [(o, .inr (1, [.ref oR, .int st, .int sib, .int ts.1, .int ts.2.1, .int ts.2.2.1, .int ts.2.2.2])), (oR, .inr (0, [.int lf, .ref oa, .int rs.2])), (oa, .inl (cI, 600, .inl rs.1))] sz) := by
  refine Met.ofW (cc := cX1_goToStart) (maxL := 1) (ret := none) (by decide) rfl ?_
  intro p e s m args below meth c s₁ B hml hv
  obtain ⟨rfl, hsz, hP, hK, hD0, hZ⟩ := hv
  have hx := B.exec
  have hb := B.bytes
  have hr := B.returns
  have hts : ∀ w ∈ G, w.before [.ref o].toArray s = true := fun w h => atoms_spec (ws := (Cond.code yX1_goToStart cX1_goToStart 1 none :: G)) B.pre w (List.mem_cons_of_mem _ h)
  have hown : s.vm.findClass RX1 = some m.cls := findClass_of_methodNamed B.named
  have hlocks := B.notSynchronized
  subst hsz
  have hD := hD0.self (sz := s.heap.size)
  generalize hAe : va_A [(o, .inr (1, [.ref oR, .int st, .int sib, .int ts.1, .int ts.2.1, .int ts.2.2.1, .int ts.2.2.2])), (oR, .inr (0, [.int lf, .ref oa, .int rs.2])), (oa, .inl (cI, 600, .inl rs.1))] s.heap.size = A at hD ⊢
  have hA : ∀ q : Nat, s.heap.size ≤ q → A q := fun q h => by rw [← hAe]; exact Or.inr h
  have hS : va_S A s.heap s.heap [] := va_S.rf
  have hP : va_P (dC, dI) vwCl [(o, .inr (1, [.ref oR, .int st, .int sib, .int ts.1, .int ts.2.1, .int ts.2.2.1, .int ts.2.2.2])), (oR, .inr (0, [.int lf, .ref oa, .int rs.2])), (oa, .inl (cI, 600, .inl rs.1))] s.heap := hP
  have hl := lv_entry ([.ref o]) (n := 1) (Nat.le_of_ble_eq_true rfl)
  rw [lg_entry_eq]
  generalize (lg_sl ([.ref o]) ++ List.replicate (1 - (lg_sl ([.ref o])).length) Slot.unset).toArray = ls at hl ⊢
  have hl : lv_has ls 1 [(0, .ref o)] := hl
  refine lv_aload_n hx hb dX1_goToStart_0 rfl (lv_at hl 0 rfl) ?_
  refine lv_iconst (v := 0) hx hb dX1_goToStart_1 (by decide) ?_
  refine lv_iconst (v := 0) hx hb dX1_goToStart_2 (by decide) ?_
  refine lv_iconst (v := 0) hx hb dX1_goToStart_3 (by decide) ?_
  have hPc := hP.sub (ws' := [(o, .inr (1, [.ref oR, .int st, .int sib, .int ts.1, .int ts.2.1, .int ts.2.2.1, .int ts.2.2.2])), (oR, .inr (0, [.int lf, .ref oa, .int rs.2])), (oa, .inl (cI, 600, .inl rs.1))]) [0, 1, 2] rfl
  have hKc := hK.sub (tys' := [(cI, .int)]) [0] rfl
  have hDc := hD.sub (ws' := [(o, .inr (1, [.ref oR, .int st, .int sib, .int ts.1, .int ts.2.1, .int ts.2.2.1, .int ts.2.2.2])), (oR, .inr (0, [.int lf, .ref oa, .int rs.2])), (oa, .inl (cI, 600, .inl rs.1))]) [0, 1, 2] (by decide) rfl
  have hFc := va_free (wc := [(o, .inr (1, [.ref oR, .int st, .int sib, .int ts.1, .int ts.2.1, .int ts.2.2.1, .int ts.2.2.2])), (oR, .inr (0, [.int lf, .ref oa, .int rs.2])), (oa, .inl (cI, 600, .inl rs.1))]) hD hS hA [0, 1, 2] rfl
  refine va_callv (va_runV (As := [.int 0, .int 0, .int 0]) (rest := []) ⟨hx, hb, hml, hown, hts⟩ (mX1_goBack l dC dI cI o oR oa s.heap.size st sib lf ts rs 0 0 0) (cwV 3 hts (gV wd195 wd196 wd197 wd29 wd198) rfl rfl rfl (by decide +kernel) ⟨Nat.le_of_ble_eq_true rfl, Nat.le_of_ble_eq_true rfl⟩) ⟨fb_rw, va_recv hKc hPc (ci := 1) (q0 := 0) rfl rfl, pre_rw hPc hKc hDc hZ⟩ rfl rfl hl.1 rfl (lv_room (Nat.le_of_ble_eq_true rfl)) dX1_goToStart_4 ⟨Nat.le_of_ble_eq_true rfl, Nat.le_of_ble_eq_true rfl⟩) hS (fun q _ h => hFc q h) hFc (fun u_2 t H1 locs ht hvm hw_1 hB hz1 hk1 hS => ?_)
  obtain ⟨hP1, hD1⟩ := hB
  rw [ht] at hP1
  obtain ⟨hP, hD⟩ := va_join (wr := []) (w1 := [(o, .inr (1, [.ref oR, .int st, .int sib, .int u_2.1, .int u_2.2.1, .int u_2.2.2.1, .int u_2.2.2.2])), (oR, .inr (0, [.int lf, .ref oa, .int rs.2])), (oa, .inl (cI, 600, .inl rs.1))]) hP hD [0, 1, 2] [] rfl rfl (by decide) (by decide) hk1 hFc hP1 hD1
  generalize H1 = H at hP hS ⊢
  have hP : va_P (dC, dI) vwCl [(o, .inr (1, [.ref oR, .int st, .int sib, .int u_2.1, .int u_2.2.1, .int u_2.2.2.1, .int u_2.2.2.2])), (oR, .inr (0, [.int lf, .ref oa, .int rs.2])), (oa, .inl (cI, 600, .inl rs.1))] H := hP
  have hD : va_D A [(o, .inr (1, [.ref oR, .int st, .int sib, .int u_2.1, .int u_2.2.1, .int u_2.2.2.1, .int u_2.2.2.2])), (oR, .inr (0, [.int lf, .ref oa, .int rs.2])), (oa, .inl (cI, 600, .inl rs.1))] := hD
  refine lv_aload_n hx hb dX1_goToStart_7 rfl (lv_at hl 0 rfl) ?_
  refine lv_iconst (v := 0) hx hb dX1_goToStart_8 (by decide) ?_
  refine va_put (D := (dC, dI)) (ci := 1) (v := .int 0) (ty := .int) (C := RX1) (T := TX1) (N := 7) hx hb hts inGX1 tyX1 tyX1_ok nmX1 hown hK hP hD hS 0 rfl rfl 6 (by decide) (hts _ wd82) (fun _ h9 => h9) rfl (by decide +kernel) rfl rfl (Nat.le_of_ble_eq_true rfl) dX1_goToStart_9 (fun H locs hP hD hS => ?_)
  have hP : va_P (dC, dI) vwCl [(o, .inr (1, [.ref oR, .int st, .int sib, .int u_2.1, .int u_2.2.1, .int u_2.2.2.1, .int 0])), (oR, .inr (0, [.int lf, .ref oa, .int rs.2])), (oa, .inl (cI, 600, .inl rs.1))] H := hP
  have hD : va_D A [(o, .inr (1, [.ref oR, .int st, .int sib, .int u_2.1, .int u_2.2.1, .int u_2.2.2.1, .int 0])), (oR, .inr (0, [.int lf, .ref oa, .int rs.2])), (oa, .inl (cI, 600, .inl rs.1))] := hD
  have hP9 := hP.sub (ws' := [(o, .inr (1, [.ref oR, .int st, .int sib, .int u_2.1, .int u_2.2.1, .int u_2.2.2.1, .int 0])), (oR, .inr (0, [.int lf, .ref oa, .int rs.2])), (oa, .inl (cI, 600, .inl rs.1))]) [0, 1, 2] rfl
  have hD9 := hD.sub (ws' := [(o, .inr (1, [.ref oR, .int st, .int sib, .int u_2.1, .int u_2.2.1, .int u_2.2.2.1, .int 0])), (oR, .inr (0, [.int lf, .ref oa, .int rs.2])), (oa, .inl (cI, 600, .inl rs.1))]) [0, 1, 2] (by decide) rfl
  exact W.vret hx hb hr (fun t ht hW => ⟨⟨(u_2.1, u_2.2.1, u_2.2.2.1, 0), rfl, (plX1_goToStart_0 st sib lf ts rs _ hw_1), by rw [ht]; exact hP9, hD9⟩, hS.F ht⟩) hS.2.2 dX1_goToStart_12
end
section
noncomputable def big : Nat := Classical.choose (⟨601, rfl⟩ : ∃ n : Nat, n = 601)
theorem big_eq : big = 601 := Classical.choose_spec (⟨601, rfl⟩ : ∃ n : Nat, n = 601)
def fz (i b : Int32) : Nat := (b.toInt - i.toInt).toNat + 1
theorem fz_ok (i b : Int32) : fuel (fz i b) i b := ⟨Nat.succ_pos _, by unfold fz; omega⟩
theorem fuel_step2 {n : Nat} {i i' b : Int32} (h : fuel (n + 1) i b) (hi : i < b) (e : i' = i + 1) : fuel n i' b := by rw [e]; exact fuel_step h hi
theorem nneg2 {i i' b : Int32} (h0 : ¬ i < 0) (hi : i < b) (e : i' = i + 1) : ¬ i' < 0 := by
  rw [e, Int32.lt_iff_toInt_lt, i1 hi]; rw [Int32.lt_iff_toInt_lt] at h0
  have : (0 : Int32).toInt = 0 := rfl
  omega
def LX0_sumOf16_27 (p0 : Int32) (p1 : Int32) (i : Int32) : Nat → Int32 → Int32 → Int32 × Int32
  | 0, sm, k => (sm, k)
  | n + 1, sm, k =>
    if 8 ≤ k then
      (sm, k)
    else
      if (sm &&& 32768) = 0 then
        let x_1 := sm <<< (1 &&& 31)
        let i_2 := k + 1
        LX0_sumOf16_27 p0 p1 i n x_1 i_2
      else
        let x_3 := (sm <<< (1 &&& 31)) ^^^ 4129
        let i_4 := k + 1
        LX0_sumOf16_27 p0 p1 i n x_3 i_4
def LX0_sumOf16_6 (lf : Int32) : Nat → Rw → Int32 → Int32 → Int32 → Int32 → Int32
  | 0, rs, p0, p1, sm, i => 0
  | n + 1, rs, p0, p1, sm, i =>
    if p1 ≤ i then
      sm
    else
      let r_1 := FX0_byteOf lf rs i
      let x_3 := sm ^^^ (r_1 <<< (8 &&& 31))
      let zhw_6 := LX0_sumOf16_27 p0 p1 i 9 x_3 0
      let sm_4 := zhw_6.1
      let k_5 := zhw_6.2
      let x_7 := sm_4 &&& 65535
      let i_8 := i + 1
      LX0_sumOf16_6 lf n rs p0 p1 x_7 i_8
def FX0_sumOf16 (lf : Int32) (rs : Rw) (p0 : Int32) (p1 : Int32) : Int32 :=
  LX0_sumOf16_6 lf (fz p0 p1) rs p0 p1 65535 p0
set_option maxRecDepth 100000 in
theorem plX0_sumOf16_l27_0 (p0 : Int32) (p1 : Int32) (i : Int32) (n : Nat) (sm : Int32) (k : Int32) (c_31 : 8 ≤ k) : (sm, k) = LX0_sumOf16_27 p0 p1 i (n + 1) sm k := by
  exact (if_pos c_31).symm
set_option maxRecDepth 100000 in
theorem plX0_sumOf16_l27_1 (p0 : Int32) (p1 : Int32) (i : Int32) (n : Nat) (sm : Int32) (k : Int32) (c_31 : ¬ (8 ≤ k)) (c_38 : (sm &&& 32768) = 0) (x_1 : Int32) (ex_1 : x_1 = sm <<< (1 &&& 31)) (i_2 : Int32) (ei_2 : i_2 = k + 1) : LX0_sumOf16_27 p0 p1 i n x_1 i_2 = LX0_sumOf16_27 p0 p1 i (n + 1) sm k := by
  subst ex_1
  subst ei_2
  exact ((if_neg c_31).trans (if_pos c_38)).symm
set_option maxRecDepth 100000 in
theorem plX0_sumOf16_l27_2 (p0 : Int32) (p1 : Int32) (i : Int32) (n : Nat) (sm : Int32) (k : Int32) (c_31 : ¬ (8 ≤ k)) (c_38 : ¬ ((sm &&& 32768) = 0)) (x_3 : Int32) (ex_3 : x_3 = (sm <<< (1 &&& 31)) ^^^ 4129) (i_4 : Int32) (ei_4 : i_4 = k + 1) : LX0_sumOf16_27 p0 p1 i n x_3 i_4 = LX0_sumOf16_27 p0 p1 i (n + 1) sm k := by
  subst ex_3
  subst ei_4
  exact ((if_neg c_31).trans (if_neg c_38)).symm
set_option maxRecDepth 100000 in
theorem plX0_sumOf16_l6_0 (lf : Int32) (n : Nat) (rs : Rw) (p0 : Int32) (p1 : Int32) (sm : Int32) (i : Int32) (c_9 : p1 ≤ i) : sm = LX0_sumOf16_6 lf (n + 1) rs p0 p1 sm i := by
  exact (if_pos c_9).symm
set_option maxRecDepth 100000 in
theorem plX0_sumOf16_l6_1 (lf : Int32) (n : Nat) (rs : Rw) (p0 : Int32) (p1 : Int32) (sm : Int32) (i : Int32) (c_9 : ¬ (p1 ≤ i)) (r_1 : Int32) (hw_2 : r_1 = FX0_byteOf lf rs i) (x_3 : Int32) (ex_3 : x_3 = sm ^^^ (r_1 <<< (8 &&& 31))) (sm_4 : Int32) (k_5 : Int32) (hw_6 : (sm_4, k_5) = LX0_sumOf16_27 p0 p1 i 9 x_3 0) (x_7 : Int32) (ex_7 : x_7 = sm_4 &&& 65535) (i_8 : Int32) (ei_8 : i_8 = i + 1) : LX0_sumOf16_6 lf n rs p0 p1 x_7 i_8 = LX0_sumOf16_6 lf (n + 1) rs p0 p1 sm i := by
  subst hw_2
  subst ex_3
  have q0 := congrArg (fun z => z.1) hw_6
  have q1 := congrArg (fun z => z.2) hw_6
  dsimp only at q0 q1
  subst q0
  subst q1
  clear hw_6
  subst ex_7
  subst ei_8
  exact (if_neg c_9).symm
set_option maxRecDepth 100000 in
theorem plX0_sumOf16_0 (lf : Int32) (rs : Rw) (p0 : Int32) (p1 : Int32)  : LX0_sumOf16_6 lf (fz p0 p1) rs p0 p1 65535 p0 = FX0_sumOf16 lf rs p0 p1 := by
  exact rfl
set_option maxHeartbeats 4000000 in
set_option maxRecDepth 100000 in
theorem kX0_sumOf16_27 {p : Program} {l : Launch} {e : Env} {R : Room} {s : State} {m : MethodId} {args : Array Value} {below : List Frame} {meth : Method} {c : Code} {H : Heap} {locs : List Loc} {cells slots : Nat} {Q : State → Prop} {o : Nat} {p0 : Int32} {p1 : Int32} {i : Int32} (hx : p.tables.exec = Jvm.exec) (hb : c.code = cX0_sumOf16) (hml : c.maxLocals = 6) (hown : s.vm.findClass RX0 = some m.cls) (hts : ∀ w ∈ G, w.before args s = true) : ∀ (n : Nat) (sm : Int32) (k : Int32), fuel n k 8 → ∀ (ls : Array Slot), lv_has ls 6 [(0, .ref o), (1, .int p0), (2, .int p1), (4, .int i), (3, .int sm), (5, .int k)] → (∀ (sm' : Int32) (k' : Int32), (sm', k') = LX0_sumOf16_27 p0 p1 i n sm k → ∀ (ls : Array Slot), lv_has ls 6 [(0, .ref o), (1, .int p0), (2, .int p1), (4, .int i), (3, .int sm'), (5, .int k')] → W p l e R s m args below meth c H locs cells slots Q (F0 m 61 ls [])) → W p l e R s m args below meth c H locs cells slots Q (F0 m 27 ls []) := by
  intro n
  induction n with
  | zero =>
    intro sm k hf
    exact absurd hf.1 (Nat.lt_irrefl 0)
  | succ n ih =>
    intro sm k hf ls hl kk
    refine lv_iload hx hb dX0_sumOf16_27 (lv_at hl 5 rfl) ?_
    refine lv_bipush (v := 8) hx hb dX0_sumOf16_29 (by decide) ?_
    refine lv_icmp_ge (tgt := 61) hx hb dX0_sumOf16_31 (by decide) (fun c_31 => ?_) (fun c_31 => ?_)
    · exact kk sm k (plX0_sumOf16_l27_0 p0 p1 i n sm k c_31) ls (lv_sub hl [0, 1, 2, 3, 4, 5] rfl)
    · refine lv_iload_n hx hb dX0_sumOf16_34 rfl (lv_at hl 4 rfl) ?_
      refine lv_ldc (v := 32768) hx hb hown (hts _ wd425) dX0_sumOf16_35 ?_
      refine lv_iand hx hb dX0_sumOf16_37 ?_
      refine lv_if_eq (tgt := 51) hx hb dX0_sumOf16_38 (by decide) (fun c_38 => ?_) (fun c_38 => ?_)
      · refine lv_iload_n hx hb dX0_sumOf16_51 rfl (lv_at hl 4 rfl) ?_
        refine lv_iconst (v := 1) hx hb dX0_sumOf16_52 (by decide) ?_
        refine lv_ishl hx hb dX0_sumOf16_53 ?_
        refine lv_topi (fun x_1 ex_1 => ?_)
        refine lv_istore_n (lv' := [(3, .int x_1), (0, .ref o), (1, .int p0), (2, .int p1), (4, .int i), (5, .int k)]) hx hb dX0_sumOf16_54 rfl hl (by decide) rfl (fun ls hl => ?_)
        obtain ⟨i_2, ei_2⟩ : ∃ y : Int32, y = k + 1 := ⟨_, rfl⟩
        refine lv_iinc (v := i_2) (lv' := [(5, .int i_2), (3, .int x_1), (0, .ref o), (1, .int p0), (2, .int p1), (4, .int i)]) hx hb dX0_sumOf16_55 hl (k := 5) rfl (by rw [ei_2]; rfl) (by decide) rfl (fun ls hl => ?_)
        refine lv_goto (tgt := 27) hx hb dX0_sumOf16_58 (by decide) ?_
        exact ih x_1 i_2 (fuel_step2 hf (nle_lt c_31) (by assumption)) ls (lv_sub hl [2, 3, 4, 5, 1, 0] rfl) (fun v0 v1 ev ls hl => kk v0 v1 (ev.trans (plX0_sumOf16_l27_1 p0 p1 i n sm k c_31 c_38 _ ex_1 _ ei_2)) ls hl)
      · refine lv_iload_n hx hb dX0_sumOf16_41 rfl (lv_at hl 4 rfl) ?_
        refine lv_iconst (v := 1) hx hb dX0_sumOf16_42 (by decide) ?_
        refine lv_ishl hx hb dX0_sumOf16_43 ?_
        refine lv_sipush (v := 4129) hx hb dX0_sumOf16_44 (by decide) ?_
        refine lv_ixor hx hb dX0_sumOf16_47 ?_
        refine lv_goto (tgt := 54) hx hb dX0_sumOf16_48 (by decide) ?_
        refine lv_topi (fun x_3 ex_3 => ?_)
        refine lv_istore_n (lv' := [(3, .int x_3), (0, .ref o), (1, .int p0), (2, .int p1), (4, .int i), (5, .int k)]) hx hb dX0_sumOf16_54 rfl hl (by decide) rfl (fun ls hl => ?_)
        obtain ⟨i_4, ei_4⟩ : ∃ y : Int32, y = k + 1 := ⟨_, rfl⟩
        refine lv_iinc (v := i_4) (lv' := [(5, .int i_4), (3, .int x_3), (0, .ref o), (1, .int p0), (2, .int p1), (4, .int i)]) hx hb dX0_sumOf16_55 hl (k := 5) rfl (by rw [ei_4]; rfl) (by decide) rfl (fun ls hl => ?_)
        refine lv_goto (tgt := 27) hx hb dX0_sumOf16_58 (by decide) ?_
        exact ih x_3 i_4 (fuel_step2 hf (nle_lt c_31) (by assumption)) ls (lv_sub hl [2, 3, 4, 5, 1, 0] rfl) (fun v0 v1 ev ls hl => kk v0 v1 (ev.trans (plX0_sumOf16_l27_2 p0 p1 i n sm k c_31 c_38 _ ex_3 _ ei_4)) ls hl)
set_option maxHeartbeats 4000000 in
set_option maxRecDepth 100000 in
theorem kX0_sumOf16_6 {p : Program} {l : Launch} {e : Env} {s : State} {m : MethodId} {args : Array Value} {below : List Frame} {meth : Method} {c : Code} {dC : Nat → ClassId} {dI : Nat → Nat → Nat} {cI : ClassId} {o oa : Nat} {lf : Int32} {z : Int32} (hx : p.tables.exec = Jvm.exec) (hb : c.code = cX0_sumOf16) (hr : meth.sig.returnType = (some .int)) (hml : c.maxLocals = 6) (hown : s.vm.findClass RX0 = some m.cls) (hts : ∀ w ∈ G, w.before args s = true) (hlocks : meth.locks = false) (hZ : zOk s) (hK : va_K (dC, dI) vwCl [(cI, .int)] s) : ∀ (n : Nat) (rs : Rw) (p0 : Int32) (p1 : Int32) (sm : Int32) (i : Int32), fuel n i p1 → LX0_sumOf16_6 lf n rs p0 p1 sm i = z → va_P (dC, dI) vwCl [(o, .inr (0, [.int lf, .ref oa, .int rs.2])), (oa, .inl (cI, 600, .inl rs.1))] s.heap → ∀ (ls : Array Slot), lv_has ls 6 [(0, .ref o), (1, .int p0), (2, .int p1), (3, .int sm), (4, .int i)] → W p l e (headSpec (Cond.code yX0_sumOf16 cX0_sumOf16 6 (some .int) :: G) ({ frames := 1, cells := 0, slots := 0, locals := 21 } : Room)).room s m args below meth c s.heap [] 0 0 (MQ below (vp_Si (fun r => r = z)) args s 0 0 (fun _ => False)) (F0 m 6 ls []) := by
  intro n
  induction n with
  | zero =>
    intro rs p0 p1 sm i hf hz
    exact absurd hf.1 (Nat.lt_irrefl 0)
  | succ n ih =>
    intro rs p0 p1 sm i hf hz hP ls hl
    refine lv_iload hx hb dX0_sumOf16_6 (lv_at hl 4 rfl) ?_
    refine lv_iload_n hx hb dX0_sumOf16_8 rfl (lv_at hl 2 rfl) ?_
    refine lv_icmp_ge (tgt := 72) hx hb dX0_sumOf16_9 (by decide) (fun c_9 => ?_) (fun c_9 => ?_)
    · refine lv_iload_n hx hb dX0_sumOf16_72 rfl (lv_at hl 3 rfl) ?_
      exact W.iret (v := sm) hx hb hr (fun t ht hW => ⟨sm, rfl, ((plX0_sumOf16_l6_0 lf n rs p0 p1 sm i c_9).trans hz), ht⟩) (fun q h => nomatch h) dX0_sumOf16_73
    · refine lv_iload_n hx hb dX0_sumOf16_12 rfl (lv_at hl 3 rfl) ?_
      refine lv_aload_n hx hb dX0_sumOf16_13 rfl (lv_at hl 0 rfl) ?_
      refine lv_iload hx hb dX0_sumOf16_14 (lv_at hl 4 rfl) ?_
      have hPc := hP.sub (ws' := [(o, .inr (0, [.int lf, .ref oa, .int rs.2])), (oa, .inl (cI, 600, .inl rs.1))]) [0, 1] rfl
      have hKc := hK.sub (tys' := [(cI, .int)]) [0] rfl
      refine vp_callSi (va_Run.run (va_runV (As := [.int i]) (rest := [.int sm]) ⟨hx, hb, hml, hown, hts⟩ (mX0_byteOf l dC dI cI o oa lf rs i) (cwV 1 hts (gV wd154 wd139 wd140 wd28 wd141) rfl rfl rfl (by decide +kernel) ⟨Nat.le_of_ble_eq_true rfl, Nat.le_of_ble_eq_true rfl⟩) ⟨fb_ro, va_recv hKc hPc (ci := 0) (q0 := 0) rfl rfl, pre_ro hPc hKc hZ⟩ rfl rfl hl.1 rfl (lv_room (Nat.le_of_ble_eq_true rfl)) dX0_sumOf16_16 ⟨Nat.le_of_ble_eq_true rfl, Nat.le_of_ble_eq_true rfl⟩)) (fun r_1 hw_2 => ?_)
      refine lv_bipush (v := 8) hx hb dX0_sumOf16_19 (by decide) ?_
      refine lv_ishl hx hb dX0_sumOf16_21 ?_
      refine lv_ixor hx hb dX0_sumOf16_22 ?_
      refine lv_topi (fun x_3 ex_3 => ?_)
      refine lv_istore_n (lv' := [(3, .int x_3), (0, .ref o), (1, .int p0), (2, .int p1), (4, .int i)]) hx hb dX0_sumOf16_23 rfl hl (by decide) rfl (fun ls hl => ?_)
      refine lv_iconst (v := 0) hx hb dX0_sumOf16_24 (by decide) ?_
      refine lv_istore (lv' := [(5, .int 0), (3, .int x_3), (0, .ref o), (1, .int p0), (2, .int p1), (4, .int i)]) hx hb dX0_sumOf16_25 hl (by decide) rfl (fun ls hl => ?_)
      refine kX0_sumOf16_27 hx hb hml hown hts 9 x_3 0 (fuel_of (by decide) (by decide)) ls (lv_sub hl [2, 3, 4, 5, 1, 0] rfl) (fun sm_4 k_5 hw_6 ls hl => ?_)
      refine lv_iload_n hx hb dX0_sumOf16_61 rfl (lv_at hl 4 rfl) ?_
      refine lv_ldc (v := 65535) hx hb hown (hts _ wd424) dX0_sumOf16_62 ?_
      refine lv_iand hx hb dX0_sumOf16_64 ?_
      refine lv_topi (fun x_7 ex_7 => ?_)
      refine lv_istore_n (lv' := [(3, .int x_7), (0, .ref o), (1, .int p0), (2, .int p1), (4, .int i), (5, .int k_5)]) hx hb dX0_sumOf16_65 rfl hl (by decide) rfl (fun ls hl => ?_)
      obtain ⟨i_8, ei_8⟩ : ∃ y : Int32, y = i + 1 := ⟨_, rfl⟩
      refine lv_iinc (v := i_8) (lv' := [(4, .int i_8), (3, .int x_7), (0, .ref o), (1, .int p0), (2, .int p1), (5, .int k_5)]) hx hb dX0_sumOf16_66 hl (k := 4) rfl (by rw [ei_8]; rfl) (by decide) rfl (fun ls hl => ?_)
      refine lv_goto (tgt := 6) hx hb dX0_sumOf16_69 (by decide) ?_
      exact ih rs p0 p1 x_7 i_8 (fuel_step2 hf (nle_lt c_9) (by assumption)) ((plX0_sumOf16_l6_1 lf n rs p0 p1 sm i c_9 _ hw_2 _ ex_3 _ _ hw_6 _ ex_7 _ ei_8).trans hz) (hP.sub (ws' := [(o, .inr (0, [.int lf, .ref oa, .int rs.2])), (oa, .inl (cI, 600, .inl rs.1))]) [0, 1] rfl) ls (lv_sub hl [2, 3, 4, 1, 0] rfl)
set_option maxHeartbeats 4000000 in
set_option maxRecDepth 100000 in
theorem mX0_sumOf16 (l : Launch) (dC : Nat → ClassId) (dI : Nat → Nat → Nat) (cI : ClassId) (o oa : Nat) (lf : Int32) (rs : Rw) (p0 : Int32) (p1 : Int32) : Met l yX0_sumOf16 (Cond.code yX0_sumOf16 cX0_sumOf16 6 (some .int) :: G) ({ frames := 1, cells := 0, slots := 0, locals := 21 } : Room) (va_Pc [.ref o, .int p0, .int p1] (fun U => va_P (dC, dI) vwCl [(o, .inr (0, [.int lf, .ref oa, .int rs.2])), (oa, .inl (cI, 600, .inl rs.1))] U.heap ∧ va_K (dC, dI) vwCl [(cI, .int)] U ∧ zOk U)) (vp_Si (fun r => r = (FX0_sumOf16 lf rs p0 p1))) 0 0 (fun _ => False) := by
  refine Met.ofW (cc := cX0_sumOf16) (maxL := 6) (ret := (some .int)) (by decide) rfl ?_
  intro p e s m args below meth c s₁ B hml hv
  obtain ⟨rfl, hP, hK, hZ⟩ := hv
  have hx := B.exec
  have hb := B.bytes
  have hr := B.returns
  have hts : ∀ w ∈ G, w.before [.ref o, .int p0, .int p1].toArray s = true := fun w h => atoms_spec (ws := (Cond.code yX0_sumOf16 cX0_sumOf16 6 (some .int) :: G)) B.pre w (List.mem_cons_of_mem _ h)
  have hown : s.vm.findClass RX0 = some m.cls := findClass_of_methodNamed B.named
  have hlocks := B.notSynchronized
  have hl := lv_entry ([.ref o, .int p0, .int p1]) (n := 6) (Nat.le_of_ble_eq_true rfl)
  rw [lg_entry_eq]
  generalize (lg_sl ([.ref o, .int p0, .int p1]) ++ List.replicate (6 - (lg_sl ([.ref o, .int p0, .int p1])).length) Slot.unset).toArray = ls at hl ⊢
  have hl : lv_has ls 6 [(0, .ref o), (1, .int p0), (2, .int p1)] := hl
  refine lv_ldc (v := 65535) hx hb hown (hts _ wd424) dX0_sumOf16_0 ?_
  refine lv_istore_n (lv' := [(3, .int 65535), (0, .ref o), (1, .int p0), (2, .int p1)]) hx hb dX0_sumOf16_2 rfl hl (by decide) rfl (fun ls hl => ?_)
  refine lv_iload_n hx hb dX0_sumOf16_3 rfl (lv_at hl 2 rfl) ?_
  refine lv_istore (lv' := [(4, .int p0), (3, .int 65535), (0, .ref o), (1, .int p0), (2, .int p1)]) hx hb dX0_sumOf16_4 hl (by decide) rfl (fun ls hl => ?_)
  exact kX0_sumOf16_6 hx hb hr hml hown hts hlocks hZ hK (fz p0 p1) rs p0 p1 65535 p0 (fz_ok _ _) (plX0_sumOf16_0 lf rs p0 p1) (hP.sub (ws' := [(o, .inr (0, [.int lf, .ref oa, .int rs.2])), (oa, .inl (cI, 600, .inl rs.1))]) [0, 1] rfl) ls (lv_sub hl [2, 3, 4, 1, 0] rfl)
def LX0_sumOf32_23 (p0 : Int32) (p1 : Int32) (i : Int32) : Nat → Int32 → Int32 → Int32 × Int32
  | 0, sm, k => (sm, k)
  | n + 1, sm, k =>
    if 8 ≤ k then
      (sm, k)
    else
      if (sm &&& 1) = 0 then
        let x_1 := (sm.toUInt32 >>> ((1 : Int32).toUInt32 &&& Int32.toUInt32 31)).toInt32
        let i_2 := k + 1
        LX0_sumOf32_23 p0 p1 i n x_1 i_2
      else
        let x_3 := ((sm.toUInt32 >>> ((1 : Int32).toUInt32 &&& Int32.toUInt32 31)).toInt32) ^^^ (-306674912)
        let i_4 := k + 1
        LX0_sumOf32_23 p0 p1 i n x_3 i_4
def LX0_sumOf32_5 (lf : Int32) : Nat → Rw → Int32 → Int32 → Int32 → Int32 → Int32
  | 0, rs, p0, p1, sm, i => 0
  | n + 1, rs, p0, p1, sm, i =>
    if p1 ≤ i then
      sm ^^^ (-1)
    else
      let r_1 := FX0_byteOf lf rs i
      let x_3 := sm ^^^ r_1
      let zhw_6 := LX0_sumOf32_23 p0 p1 i 9 x_3 0
      let sm_4 := zhw_6.1
      let k_5 := zhw_6.2
      let i_7 := i + 1
      LX0_sumOf32_5 lf n rs p0 p1 sm_4 i_7
def FX0_sumOf32 (lf : Int32) (rs : Rw) (p0 : Int32) (p1 : Int32) : Int32 :=
  LX0_sumOf32_5 lf (fz p0 p1) rs p0 p1 (-1) p0
set_option maxRecDepth 100000 in
theorem plX0_sumOf32_l23_0 (p0 : Int32) (p1 : Int32) (i : Int32) (n : Nat) (sm : Int32) (k : Int32) (c_27 : 8 ≤ k) : (sm, k) = LX0_sumOf32_23 p0 p1 i (n + 1) sm k := by
  exact (if_pos c_27).symm
set_option maxRecDepth 100000 in
theorem plX0_sumOf32_l23_1 (p0 : Int32) (p1 : Int32) (i : Int32) (n : Nat) (sm : Int32) (k : Int32) (c_27 : ¬ (8 ≤ k)) (c_33 : (sm &&& 1) = 0) (x_1 : Int32) (ex_1 : x_1 = (sm.toUInt32 >>> ((1 : Int32).toUInt32 &&& Int32.toUInt32 31)).toInt32) (i_2 : Int32) (ei_2 : i_2 = k + 1) : LX0_sumOf32_23 p0 p1 i n x_1 i_2 = LX0_sumOf32_23 p0 p1 i (n + 1) sm k := by
  subst ex_1
  subst ei_2
  exact ((if_neg c_27).trans (if_pos c_33)).symm
set_option maxRecDepth 100000 in
theorem plX0_sumOf32_l23_2 (p0 : Int32) (p1 : Int32) (i : Int32) (n : Nat) (sm : Int32) (k : Int32) (c_27 : ¬ (8 ≤ k)) (c_33 : ¬ ((sm &&& 1) = 0)) (x_3 : Int32) (ex_3 : x_3 = ((sm.toUInt32 >>> ((1 : Int32).toUInt32 &&& Int32.toUInt32 31)).toInt32) ^^^ (-306674912)) (i_4 : Int32) (ei_4 : i_4 = k + 1) : LX0_sumOf32_23 p0 p1 i n x_3 i_4 = LX0_sumOf32_23 p0 p1 i (n + 1) sm k := by
  subst ex_3
  subst ei_4
  exact ((if_neg c_27).trans (if_neg c_33)).symm
set_option maxRecDepth 100000 in
theorem plX0_sumOf32_l5_0 (lf : Int32) (n : Nat) (rs : Rw) (p0 : Int32) (p1 : Int32) (sm : Int32) (i : Int32) (c_8 : p1 ≤ i) : sm ^^^ (-1) = LX0_sumOf32_5 lf (n + 1) rs p0 p1 sm i := by
  exact (if_pos c_8).symm
set_option maxRecDepth 100000 in
theorem plX0_sumOf32_l5_1 (lf : Int32) (n : Nat) (rs : Rw) (p0 : Int32) (p1 : Int32) (sm : Int32) (i : Int32) (c_8 : ¬ (p1 ≤ i)) (r_1 : Int32) (hw_2 : r_1 = FX0_byteOf lf rs i) (x_3 : Int32) (ex_3 : x_3 = sm ^^^ r_1) (sm_4 : Int32) (k_5 : Int32) (hw_6 : (sm_4, k_5) = LX0_sumOf32_23 p0 p1 i 9 x_3 0) (i_7 : Int32) (ei_7 : i_7 = i + 1) : LX0_sumOf32_5 lf n rs p0 p1 sm_4 i_7 = LX0_sumOf32_5 lf (n + 1) rs p0 p1 sm i := by
  subst hw_2
  subst ex_3
  have q0 := congrArg (fun z => z.1) hw_6
  have q1 := congrArg (fun z => z.2) hw_6
  dsimp only at q0 q1
  subst q0
  subst q1
  clear hw_6
  subst ei_7
  exact (if_neg c_8).symm
set_option maxRecDepth 100000 in
theorem plX0_sumOf32_0 (lf : Int32) (rs : Rw) (p0 : Int32) (p1 : Int32)  : LX0_sumOf32_5 lf (fz p0 p1) rs p0 p1 (-1) p0 = FX0_sumOf32 lf rs p0 p1 := by
  exact rfl
set_option maxHeartbeats 4000000 in
set_option maxRecDepth 100000 in
theorem kX0_sumOf32_23 {p : Program} {l : Launch} {e : Env} {R : Room} {s : State} {m : MethodId} {args : Array Value} {below : List Frame} {meth : Method} {c : Code} {H : Heap} {locs : List Loc} {cells slots : Nat} {Q : State → Prop} {o : Nat} {p0 : Int32} {p1 : Int32} {i : Int32} (hx : p.tables.exec = Jvm.exec) (hb : c.code = cX0_sumOf32) (hml : c.maxLocals = 6) (hown : s.vm.findClass RX0 = some m.cls) (hts : ∀ w ∈ G, w.before args s = true) : ∀ (n : Nat) (sm : Int32) (k : Int32), fuel n k 8 → ∀ (ls : Array Slot), lv_has ls 6 [(0, .ref o), (1, .int p0), (2, .int p1), (4, .int i), (3, .int sm), (5, .int k)] → (∀ (sm' : Int32) (k' : Int32), (sm', k') = LX0_sumOf32_23 p0 p1 i n sm k → ∀ (ls : Array Slot), lv_has ls 6 [(0, .ref o), (1, .int p0), (2, .int p1), (4, .int i), (3, .int sm'), (5, .int k')] → W p l e R s m args below meth c H locs cells slots Q (F0 m 55 ls [])) → W p l e R s m args below meth c H locs cells slots Q (F0 m 23 ls []) := by
  intro n
  induction n with
  | zero =>
    intro sm k hf
    exact absurd hf.1 (Nat.lt_irrefl 0)
  | succ n ih =>
    intro sm k hf ls hl kk
    refine lv_iload hx hb dX0_sumOf32_23 (lv_at hl 5 rfl) ?_
    refine lv_bipush (v := 8) hx hb dX0_sumOf32_25 (by decide) ?_
    refine lv_icmp_ge (tgt := 55) hx hb dX0_sumOf32_27 (by decide) (fun c_27 => ?_) (fun c_27 => ?_)
    · exact kk sm k (plX0_sumOf32_l23_0 p0 p1 i n sm k c_27) ls (lv_sub hl [0, 1, 2, 3, 4, 5] rfl)
    · refine lv_iload_n hx hb dX0_sumOf32_30 rfl (lv_at hl 4 rfl) ?_
      refine lv_iconst (v := 1) hx hb dX0_sumOf32_31 (by decide) ?_
      refine lv_iand hx hb dX0_sumOf32_32 ?_
      refine lv_if_eq (tgt := 45) hx hb dX0_sumOf32_33 (by decide) (fun c_33 => ?_) (fun c_33 => ?_)
      · refine lv_iload_n hx hb dX0_sumOf32_45 rfl (lv_at hl 4 rfl) ?_
        refine lv_iconst (v := 1) hx hb dX0_sumOf32_46 (by decide) ?_
        refine lv_iushr (v := (sm.toUInt32 >>> ((1 : Int32).toUInt32 &&& Int32.toUInt32 31)).toInt32) hx hb dX0_sumOf32_47 rfl ?_
        refine lv_topi (fun x_1 ex_1 => ?_)
        refine lv_istore_n (lv' := [(3, .int x_1), (0, .ref o), (1, .int p0), (2, .int p1), (4, .int i), (5, .int k)]) hx hb dX0_sumOf32_48 rfl hl (by decide) rfl (fun ls hl => ?_)
        obtain ⟨i_2, ei_2⟩ : ∃ y : Int32, y = k + 1 := ⟨_, rfl⟩
        refine lv_iinc (v := i_2) (lv' := [(5, .int i_2), (3, .int x_1), (0, .ref o), (1, .int p0), (2, .int p1), (4, .int i)]) hx hb dX0_sumOf32_49 hl (k := 5) rfl (by rw [ei_2]; rfl) (by decide) rfl (fun ls hl => ?_)
        refine lv_goto (tgt := 23) hx hb dX0_sumOf32_52 (by decide) ?_
        exact ih x_1 i_2 (fuel_step2 hf (nle_lt c_27) (by assumption)) ls (lv_sub hl [2, 3, 4, 5, 1, 0] rfl) (fun v0 v1 ev ls hl => kk v0 v1 (ev.trans (plX0_sumOf32_l23_1 p0 p1 i n sm k c_27 c_33 _ ex_1 _ ei_2)) ls hl)
      · refine lv_iload_n hx hb dX0_sumOf32_36 rfl (lv_at hl 4 rfl) ?_
        refine lv_iconst (v := 1) hx hb dX0_sumOf32_37 (by decide) ?_
        refine lv_iushr (v := (sm.toUInt32 >>> ((1 : Int32).toUInt32 &&& Int32.toUInt32 31)).toInt32) hx hb dX0_sumOf32_38 rfl ?_
        refine lv_ldc (v := (-306674912)) hx hb hown (hts _ wd430) dX0_sumOf32_39 ?_
        refine lv_ixor hx hb dX0_sumOf32_41 ?_
        refine lv_goto (tgt := 48) hx hb dX0_sumOf32_42 (by decide) ?_
        refine lv_topi (fun x_3 ex_3 => ?_)
        refine lv_istore_n (lv' := [(3, .int x_3), (0, .ref o), (1, .int p0), (2, .int p1), (4, .int i), (5, .int k)]) hx hb dX0_sumOf32_48 rfl hl (by decide) rfl (fun ls hl => ?_)
        obtain ⟨i_4, ei_4⟩ : ∃ y : Int32, y = k + 1 := ⟨_, rfl⟩
        refine lv_iinc (v := i_4) (lv' := [(5, .int i_4), (3, .int x_3), (0, .ref o), (1, .int p0), (2, .int p1), (4, .int i)]) hx hb dX0_sumOf32_49 hl (k := 5) rfl (by rw [ei_4]; rfl) (by decide) rfl (fun ls hl => ?_)
        refine lv_goto (tgt := 23) hx hb dX0_sumOf32_52 (by decide) ?_
        exact ih x_3 i_4 (fuel_step2 hf (nle_lt c_27) (by assumption)) ls (lv_sub hl [2, 3, 4, 5, 1, 0] rfl) (fun v0 v1 ev ls hl => kk v0 v1 (ev.trans (plX0_sumOf32_l23_2 p0 p1 i n sm k c_27 c_33 _ ex_3 _ ei_4)) ls hl)
set_option maxHeartbeats 4000000 in
set_option maxRecDepth 100000 in
theorem kX0_sumOf32_5 {p : Program} {l : Launch} {e : Env} {s : State} {m : MethodId} {args : Array Value} {below : List Frame} {meth : Method} {c : Code} {dC : Nat → ClassId} {dI : Nat → Nat → Nat} {cI : ClassId} {o oa : Nat} {lf : Int32} {z : Int32} (hx : p.tables.exec = Jvm.exec) (hb : c.code = cX0_sumOf32) (hr : meth.sig.returnType = (some .int)) (hml : c.maxLocals = 6) (hown : s.vm.findClass RX0 = some m.cls) (hts : ∀ w ∈ G, w.before args s = true) (hlocks : meth.locks = false) (hZ : zOk s) (hK : va_K (dC, dI) vwCl [(cI, .int)] s) : ∀ (n : Nat) (rs : Rw) (p0 : Int32) (p1 : Int32) (sm : Int32) (i : Int32), fuel n i p1 → LX0_sumOf32_5 lf n rs p0 p1 sm i = z → va_P (dC, dI) vwCl [(o, .inr (0, [.int lf, .ref oa, .int rs.2])), (oa, .inl (cI, 600, .inl rs.1))] s.heap → ∀ (ls : Array Slot), lv_has ls 6 [(0, .ref o), (1, .int p0), (2, .int p1), (3, .int sm), (4, .int i)] → W p l e (headSpec (Cond.code yX0_sumOf32 cX0_sumOf32 6 (some .int) :: G) ({ frames := 1, cells := 0, slots := 0, locals := 21 } : Room)).room s m args below meth c s.heap [] 0 0 (MQ below (vp_Si (fun r => r = z)) args s 0 0 (fun _ => False)) (F0 m 5 ls []) := by
  intro n
  induction n with
  | zero =>
    intro rs p0 p1 sm i hf hz
    exact absurd hf.1 (Nat.lt_irrefl 0)
  | succ n ih =>
    intro rs p0 p1 sm i hf hz hP ls hl
    refine lv_iload hx hb dX0_sumOf32_5 (lv_at hl 4 rfl) ?_
    refine lv_iload_n hx hb dX0_sumOf32_7 rfl (lv_at hl 2 rfl) ?_
    refine lv_icmp_ge (tgt := 61) hx hb dX0_sumOf32_8 (by decide) (fun c_8 => ?_) (fun c_8 => ?_)
    · refine lv_iload_n hx hb dX0_sumOf32_61 rfl (lv_at hl 3 rfl) ?_
      refine lv_iconst (v := (-1)) hx hb dX0_sumOf32_62 (by decide) ?_
      refine lv_ixor hx hb dX0_sumOf32_63 ?_
      exact W.iret (v := sm ^^^ (-1)) hx hb hr (fun t ht hW => ⟨sm ^^^ (-1), rfl, ((plX0_sumOf32_l5_0 lf n rs p0 p1 sm i c_8).trans hz), ht⟩) (fun q h => nomatch h) dX0_sumOf32_64
    · refine lv_iload_n hx hb dX0_sumOf32_11 rfl (lv_at hl 3 rfl) ?_
      refine lv_aload_n hx hb dX0_sumOf32_12 rfl (lv_at hl 0 rfl) ?_
      refine lv_iload hx hb dX0_sumOf32_13 (lv_at hl 4 rfl) ?_
      have hPc := hP.sub (ws' := [(o, .inr (0, [.int lf, .ref oa, .int rs.2])), (oa, .inl (cI, 600, .inl rs.1))]) [0, 1] rfl
      have hKc := hK.sub (tys' := [(cI, .int)]) [0] rfl
      refine vp_callSi (va_Run.run (va_runV (As := [.int i]) (rest := [.int sm]) ⟨hx, hb, hml, hown, hts⟩ (mX0_byteOf l dC dI cI o oa lf rs i) (cwV 1 hts (gV wd154 wd139 wd140 wd28 wd141) rfl rfl rfl (by decide +kernel) ⟨Nat.le_of_ble_eq_true rfl, Nat.le_of_ble_eq_true rfl⟩) ⟨fb_ro, va_recv hKc hPc (ci := 0) (q0 := 0) rfl rfl, pre_ro hPc hKc hZ⟩ rfl rfl hl.1 rfl (lv_room (Nat.le_of_ble_eq_true rfl)) dX0_sumOf32_15 ⟨Nat.le_of_ble_eq_true rfl, Nat.le_of_ble_eq_true rfl⟩)) (fun r_1 hw_2 => ?_)
      refine lv_ixor hx hb dX0_sumOf32_18 ?_
      refine lv_topi (fun x_3 ex_3 => ?_)
      refine lv_istore_n (lv' := [(3, .int x_3), (0, .ref o), (1, .int p0), (2, .int p1), (4, .int i)]) hx hb dX0_sumOf32_19 rfl hl (by decide) rfl (fun ls hl => ?_)
      refine lv_iconst (v := 0) hx hb dX0_sumOf32_20 (by decide) ?_
      refine lv_istore (lv' := [(5, .int 0), (3, .int x_3), (0, .ref o), (1, .int p0), (2, .int p1), (4, .int i)]) hx hb dX0_sumOf32_21 hl (by decide) rfl (fun ls hl => ?_)
      refine kX0_sumOf32_23 hx hb hml hown hts 9 x_3 0 (fuel_of (by decide) (by decide)) ls (lv_sub hl [2, 3, 4, 5, 1, 0] rfl) (fun sm_4 k_5 hw_6 ls hl => ?_)
      obtain ⟨i_7, ei_7⟩ : ∃ y : Int32, y = i + 1 := ⟨_, rfl⟩
      refine lv_iinc (v := i_7) (lv' := [(4, .int i_7), (0, .ref o), (1, .int p0), (2, .int p1), (3, .int sm_4), (5, .int k_5)]) hx hb dX0_sumOf32_55 hl (k := 3) rfl (by rw [ei_7]; rfl) (by decide) rfl (fun ls hl => ?_)
      refine lv_goto (tgt := 5) hx hb dX0_sumOf32_58 (by decide) ?_
      exact ih rs p0 p1 sm_4 i_7 (fuel_step2 hf (nle_lt c_8) (by assumption)) ((plX0_sumOf32_l5_1 lf n rs p0 p1 sm i c_8 _ hw_2 _ ex_3 _ _ hw_6 _ ei_7).trans hz) (hP.sub (ws' := [(o, .inr (0, [.int lf, .ref oa, .int rs.2])), (oa, .inl (cI, 600, .inl rs.1))]) [0, 1] rfl) ls (lv_sub hl [1, 2, 3, 4, 0] rfl)
set_option maxHeartbeats 4000000 in
set_option maxRecDepth 100000 in
theorem mX0_sumOf32 (l : Launch) (dC : Nat → ClassId) (dI : Nat → Nat → Nat) (cI : ClassId) (o oa : Nat) (lf : Int32) (rs : Rw) (p0 : Int32) (p1 : Int32) : Met l yX0_sumOf32 (Cond.code yX0_sumOf32 cX0_sumOf32 6 (some .int) :: G) ({ frames := 1, cells := 0, slots := 0, locals := 21 } : Room) (va_Pc [.ref o, .int p0, .int p1] (fun U => va_P (dC, dI) vwCl [(o, .inr (0, [.int lf, .ref oa, .int rs.2])), (oa, .inl (cI, 600, .inl rs.1))] U.heap ∧ va_K (dC, dI) vwCl [(cI, .int)] U ∧ zOk U)) (vp_Si (fun r => r = (FX0_sumOf32 lf rs p0 p1))) 0 0 (fun _ => False) := by
  refine Met.ofW (cc := cX0_sumOf32) (maxL := 6) (ret := (some .int)) (by decide) rfl ?_
  intro p e s m args below meth c s₁ B hml hv
  obtain ⟨rfl, hP, hK, hZ⟩ := hv
  have hx := B.exec
  have hb := B.bytes
  have hr := B.returns
  have hts : ∀ w ∈ G, w.before [.ref o, .int p0, .int p1].toArray s = true := fun w h => atoms_spec (ws := (Cond.code yX0_sumOf32 cX0_sumOf32 6 (some .int) :: G)) B.pre w (List.mem_cons_of_mem _ h)
  have hown : s.vm.findClass RX0 = some m.cls := findClass_of_methodNamed B.named
  have hlocks := B.notSynchronized
  have hl := lv_entry ([.ref o, .int p0, .int p1]) (n := 6) (Nat.le_of_ble_eq_true rfl)
  rw [lg_entry_eq]
  generalize (lg_sl ([.ref o, .int p0, .int p1]) ++ List.replicate (6 - (lg_sl ([.ref o, .int p0, .int p1])).length) Slot.unset).toArray = ls at hl ⊢
  have hl : lv_has ls 6 [(0, .ref o), (1, .int p0), (2, .int p1)] := hl
  refine lv_iconst (v := (-1)) hx hb dX0_sumOf32_0 (by decide) ?_
  refine lv_istore_n (lv' := [(3, .int (-1)), (0, .ref o), (1, .int p0), (2, .int p1)]) hx hb dX0_sumOf32_1 rfl hl (by decide) rfl (fun ls hl => ?_)
  refine lv_iload_n hx hb dX0_sumOf32_2 rfl (lv_at hl 2 rfl) ?_
  refine lv_istore (lv' := [(4, .int p0), (3, .int (-1)), (0, .ref o), (1, .int p0), (2, .int p1)]) hx hb dX0_sumOf32_3 hl (by decide) rfl (fun ls hl => ?_)
  exact kX0_sumOf32_5 hx hb hr hml hown hts hlocks hZ hK (fz p0 p1) rs p0 p1 (-1) p0 (fz_ok _ _) (plX0_sumOf32_0 lf rs p0 p1) (hP.sub (ws' := [(o, .inr (0, [.int lf, .ref oa, .int rs.2])), (oa, .inl (cI, 600, .inl rs.1))]) [0, 1] rfl) ls (lv_sub hl [2, 3, 4, 1, 0] rfl)
noncomputable def LJ7_fill_5  : Nat → (Nat → Int32) → Int32 → Int32 → Int32 → (Nat → Int32)
  | 0, fa, p0, i, ln => fa
  | n + 1, fa, p0, i, ln =>
    if ln ≤ i then
      fa
    else
      let i_1 := i + 1
      LJ7_fill_5 n (upd fa i.toNatClampNeg p0) p0 i_1 ln
noncomputable def FJ7_fill (fa : (Nat → Int32)) (p0 : Int32) : (Nat → Int32) :=
  LJ7_fill_5 big fa p0 0 600
set_option maxRecDepth 100000 in
theorem plJ7_fill_l5_0 (n : Nat) (fa : (Nat → Int32)) (p0 : Int32) (i : Int32) (ln : Int32) (c_7 : ln ≤ i) : fa = LJ7_fill_5 (n + 1) fa p0 i ln := by
  exact (if_pos c_7).symm
set_option maxRecDepth 100000 in
theorem plJ7_fill_l5_1 (n : Nat) (fa : (Nat → Int32)) (p0 : Int32) (i : Int32) (ln : Int32) (c_7 : ¬ (ln ≤ i)) (i_1 : Int32) (ei_1 : i_1 = i + 1) : LJ7_fill_5 n (upd fa i.toNatClampNeg p0) p0 i_1 ln = LJ7_fill_5 (n + 1) fa p0 i ln := by
  subst ei_1
  exact (if_neg c_7).symm
set_option maxRecDepth 100000 in
theorem plJ7_fill_0 (fa : (Nat → Int32)) (p0 : Int32)  : LJ7_fill_5 big fa p0 0 600 = FJ7_fill fa p0 := by
  exact rfl
set_option maxHeartbeats 4000000 in
set_option maxRecDepth 100000 in
theorem kJ7_fill_5 {p : Program} {l : Launch} {e : Env} {s : State} {m : MethodId} {args : Array Value} {below : List Frame} {meth : Method} {c : Code} {dC : Nat → ClassId} {dI : Nat → Nat → Nat} {cI : ClassId} {oa : Nat} {z : (Nat → Int32)} {A : Nat → Prop} (hx : p.tables.exec = Jvm.exec) (hb : c.code = cJ7_fill) (hr : meth.sig.returnType = none) (hml : c.maxLocals = 4) (hown : s.vm.findClass RJ7 = some m.cls) (hts : ∀ w ∈ G, w.before args s = true) (hlocks : meth.locks = false) (hA : ∀ q : Nat, s.heap.size ≤ q → A q) (hZ : zOk s) (hK : va_K (dC, dI) vwCl [(cI, .int)] s) : ∀ (n : Nat) (fa : (Nat → Int32)) (p0 : Int32) (i : Int32) (ln : Int32), fuel n i ln → ln = 600 → ¬ i < 0 → LJ7_fill_5 n fa p0 i ln = z → ∀ (H : Heap) (locs : List Loc), va_P (dC, dI) vwCl [(oa, .inl (cI, 600, .inl fa))] H → va_D A [(oa, .inl (cI, 600, .inl fa))] → va_S A s.heap H locs → ∀ (ls : Array Slot), lv_has ls 4 [(0, .ref oa), (1, .int p0), (2, .int i), (3, .int ln)] → W p l e (headSpec (Cond.code yJ7_fill cJ7_fill 4 none :: G) ({ frames := 0, cells := 0, slots := 0, locals := 0 } : Room)).room s m args below meth c H locs 0 0 (MQ below (va_Qv (fun (u : (Nat → Int32)) => u = z) (fun (u : (Nat → Int32)) t => va_P (dC, dI) vwCl [(oa, .inl (cI, 600, .inl u))] t.heap ∧ va_D A [(oa, .inl (cI, 600, .inl u))]) A) args s 0 0 A) (F0 m 5 ls []) := by
  intro n
  induction n with
  | zero =>
    intro fa p0 i ln hf hn h0 hz
    exact absurd hf.1 (Nat.lt_irrefl 0)
  | succ n ih =>
    intro fa p0 i ln hf hn h0 hz H locs hP hD hS ls hl
    refine lv_iload_n hx hb dJ7_fill_5 rfl (lv_at hl 2 rfl) ?_
    refine lv_iload_n hx hb dJ7_fill_6 rfl (lv_at hl 3 rfl) ?_
    refine lv_icmp_ge (tgt := 20) hx hb dJ7_fill_7 (by decide) (fun c_7 => ?_) (fun c_7 => ?_)
    · have hP9 := hP.sub (ws' := [(oa, .inl (cI, 600, .inl fa))]) [0] rfl
      have hD9 := hD.sub (ws' := [(oa, .inl (cI, 600, .inl fa))]) [0] (by decide) rfl
      exact W.vret hx hb hr (fun t ht hW => ⟨⟨fa, rfl, ((plJ7_fill_l5_0 n fa p0 i ln c_7).trans hz), by rw [ht]; exact hP9, hD9⟩, hS.F ht⟩) hS.2.2 dJ7_fill_20
    · refine lv_aload_n hx hb dJ7_fill_10 rfl (lv_at hl 0 rfl) ?_
      refine lv_iload_n hx hb dJ7_fill_11 rfl (lv_at hl 2 rfl) ?_
      refine lv_iload_n hx hb dJ7_fill_12 rfl (lv_at hl 1 rfl) ?_
      refine va_iast hx hb hK hP hD hS 0 0 rfl rfl (vin2 (n := 600) h0 (by subst hn; exact c_7) (by decide)) dJ7_fill_13 (fun H locs hP hD hS => ?_)
      have hP : va_P (dC, dI) vwCl [(oa, .inl (cI, 600, .inl (upd fa i.toNatClampNeg p0)))] H := hP
      have hD : va_D A [(oa, .inl (cI, 600, .inl (upd fa i.toNatClampNeg p0)))] := hD
      obtain ⟨i_1, ei_1⟩ : ∃ y : Int32, y = i + 1 := ⟨_, rfl⟩
      refine lv_iinc (v := i_1) (lv' := [(2, .int i_1), (0, .ref oa), (1, .int p0), (3, .int ln)]) hx hb dJ7_fill_14 hl (k := 2) rfl (by rw [ei_1]; rfl) (by decide) rfl (fun ls hl => ?_)
      refine lv_goto (tgt := 5) hx hb dJ7_fill_17 (by decide) ?_
      exact ih (upd fa i.toNatClampNeg p0) p0 i_1 ln (fuel_step2 hf (nle_lt c_7) (by assumption)) hn (nneg2 h0 (nle_lt c_7) (by assumption)) ((plJ7_fill_l5_1 n fa p0 i ln c_7 _ ei_1).trans hz) _ _ (hP.sub (ws' := [(oa, .inl (cI, 600, .inl (upd fa i.toNatClampNeg p0)))]) [0] rfl) (hD.sub (ws' := [(oa, .inl (cI, 600, .inl (upd fa i.toNatClampNeg p0)))]) [0] (by decide) rfl) hS ls (lv_sub hl [1, 2, 0, 3] rfl)
set_option maxHeartbeats 4000000 in
set_option maxRecDepth 100000 in
theorem mJ7_fill (l : Launch) (dC : Nat → ClassId) (dI : Nat → Nat → Nat) (cI : ClassId) (oa : Nat) (sz : Nat) (fa : (Nat → Int32)) (p0 : Int32) : Met l yJ7_fill (Cond.code yJ7_fill cJ7_fill 4 none :: G) ({ frames := 0, cells := 0, slots := 0, locals := 0 } : Room) (va_Pc [.ref oa, .int p0] (fun U => U.heap.size = sz ∧ va_P (dC, dI) vwCl [(oa, .inl (cI, 600, .inl fa))] U.heap ∧ va_K (dC, dI) vwCl [(cI, .int)] U ∧ va_D (fun _ => True) [(oa, .inl (cI, 600, .inl fa))] ∧ zOk U)) (va_Qv (fun (u : (Nat → Int32)) => u = (FJ7_fill fa p0)) (fun (u : (Nat → Int32)) t => va_P (dC, dI) vwCl [(oa, .inl (cI, 600, .inl u))] t.heap ∧ va_D (va_A [(oa, .inl (cI, 600, .inl fa))] sz) [(oa, .inl (cI, 600, .inl u))]) (va_A [(oa, .inl (cI, 600, .inl fa))] sz)) 0 0 (va_A [(oa, .inl (cI, 600, .inl fa))] sz) := by
  refine Met.ofW (cc := cJ7_fill) (maxL := 4) (ret := none) (by decide) rfl ?_
  intro p e s m args below meth c s₁ B hml hv
  obtain ⟨rfl, hsz, hP, hK, hD0, hZ⟩ := hv
  have hx := B.exec
  have hb := B.bytes
  have hr := B.returns
  have hts : ∀ w ∈ G, w.before [.ref oa, .int p0].toArray s = true := fun w h => atoms_spec (ws := (Cond.code yJ7_fill cJ7_fill 4 none :: G)) B.pre w (List.mem_cons_of_mem _ h)
  have hown : s.vm.findClass RJ7 = some m.cls := findClass_of_methodNamed B.named
  have hlocks := B.notSynchronized
  subst hsz
  have hD := hD0.self (sz := s.heap.size)
  generalize hAe : va_A [(oa, .inl (cI, 600, .inl fa))] s.heap.size = A at hD ⊢
  have hA : ∀ q : Nat, s.heap.size ≤ q → A q := fun q h => by rw [← hAe]; exact Or.inr h
  have hS : va_S A s.heap s.heap [] := va_S.rf
  have hP : va_P (dC, dI) vwCl [(oa, .inl (cI, 600, .inl fa))] s.heap := hP
  have hl := lv_entry ([.ref oa, .int p0]) (n := 4) (Nat.le_of_ble_eq_true rfl)
  rw [lg_entry_eq]
  generalize (lg_sl ([.ref oa, .int p0]) ++ List.replicate (4 - (lg_sl ([.ref oa, .int p0])).length) Slot.unset).toArray = ls at hl ⊢
  have hl : lv_has ls 4 [(0, .ref oa), (1, .int p0)] := hl
  refine lv_iconst (v := 0) hx hb dJ7_fill_0 (by decide) ?_
  refine lv_istore_n (lv' := [(2, .int 0), (0, .ref oa), (1, .int p0)]) hx hb dJ7_fill_1 rfl hl (by decide) rfl (fun ls hl => ?_)
  refine lv_aload_n hx hb dJ7_fill_2 rfl (lv_at hl 1 rfl) ?_
  refine va_alen (v := 600) hx hb hK hP 0 0 rfl rfl rfl dJ7_fill_3 ?_
  refine lv_istore_n (lv' := [(3, .int 600), (2, .int 0), (0, .ref oa), (1, .int p0)]) hx hb dJ7_fill_4 rfl hl (by decide) rfl (fun ls hl => ?_)
  exact kJ7_fill_5 hx hb hr hml hown hts hlocks hA hZ hK big fa p0 0 600 (fuel_of (by rw [big_eq]; decide) (by rw [big_eq]; decide)) rfl (by decide) (plJ7_fill_0 fa p0) _ _ (hP.sub (ws' := [(oa, .inl (cI, 600, .inl fa))]) [0] rfl) (hD.sub (ws' := [(oa, .inl (cI, 600, .inl fa))]) [0] (by decide) rfl) hS ls (lv_sub hl [2, 3, 1, 0] rfl)
noncomputable def FX0_empty (lf : Int32) (rs : Rw) : Rw :=
  let u_2 := FJ7_fill rs.1 0
  (u_2, 0)
set_option maxRecDepth 100000 in
theorem plX0_empty_0 (lf : Int32) (rs : Rw) (u_2 : (Nat → Int32)) (hw_1 : u_2 = FJ7_fill rs.1 0) : (u_2, 0) = FX0_empty lf rs := by
  subst hw_1
  exact rfl
set_option maxHeartbeats 4000000 in
set_option maxRecDepth 100000 in
theorem mX0_empty (l : Launch) (dC : Nat → ClassId) (dI : Nat → Nat → Nat) (cI : ClassId) (o oa : Nat) (sz : Nat) (lf : Int32) (rs : Rw) : Met l yX0_empty (Cond.code yX0_empty cX0_empty 1 none :: G) ({ frames := 1, cells := 0, slots := 0, locals := 23 } : Room) (va_Pc [.ref o] (fun U => U.heap.size = sz ∧ va_P (dC, dI) vwCl [(o, .inr (0, [.int lf, .ref oa, .int rs.2])), (oa, .inl (cI, 600, .inl rs.1))] U.heap ∧ va_K (dC, dI) vwCl [(cI, .int)] U ∧ va_D (fun _ => True) [(o, .inr (0, [.int lf, .ref oa, .int rs.2])), (oa, .inl (cI, 600, .inl rs.1))] ∧ zOk U)) (va_Qv (fun (u : Rw) => u = (FX0_empty lf rs)) (fun (u : Rw) t => va_P (dC, dI) vwCl [(o, .inr (0, [.int lf, .ref oa, .int u.2])), (oa, .inl (cI, 600, .inl u.1))] t.heap ∧ va_D (va_A [(o, .inr (0, [.int lf, .ref oa, .int rs.2])), (oa, .inl (cI, 600, .inl rs.1))] sz) [(o, .inr (0, [.int lf, .ref oa, .int u.2])), (oa, .inl (cI, 600, .inl u.1))]) (va_A [(o, .inr (0, [.int lf, .ref oa, .int rs.2])), (oa, .inl (cI, 600, .inl rs.1))] sz)) 0 0 (va_A [(o, .inr (0, [.int lf, .ref oa, .int rs.2])), (oa, .inl (cI, 600, .inl rs.1))] sz) := by
  refine Met.ofW (cc := cX0_empty) (maxL := 1) (ret := none) (by decide) rfl ?_
  intro p e s m args below meth c s₁ B hml hv
  obtain ⟨rfl, hsz, hP, hK, hD0, hZ⟩ := hv
  have hx := B.exec
  have hb := B.bytes
  have hr := B.returns
  have hts : ∀ w ∈ G, w.before [.ref o].toArray s = true := fun w h => atoms_spec (ws := (Cond.code yX0_empty cX0_empty 1 none :: G)) B.pre w (List.mem_cons_of_mem _ h)
  have hown : s.vm.findClass RX0 = some m.cls := findClass_of_methodNamed B.named
  have hlocks := B.notSynchronized
  subst hsz
  have hD := hD0.self (sz := s.heap.size)
  generalize hAe : va_A [(o, .inr (0, [.int lf, .ref oa, .int rs.2])), (oa, .inl (cI, 600, .inl rs.1))] s.heap.size = A at hD ⊢
  have hA : ∀ q : Nat, s.heap.size ≤ q → A q := fun q h => by rw [← hAe]; exact Or.inr h
  have hS : va_S A s.heap s.heap [] := va_S.rf
  have hP : va_P (dC, dI) vwCl [(o, .inr (0, [.int lf, .ref oa, .int rs.2])), (oa, .inl (cI, 600, .inl rs.1))] s.heap := hP
  have hl := lv_entry ([.ref o]) (n := 1) (Nat.le_of_ble_eq_true rfl)
  rw [lg_entry_eq]
  generalize (lg_sl ([.ref o]) ++ List.replicate (1 - (lg_sl ([.ref o])).length) Slot.unset).toArray = ls at hl ⊢
  have hl : lv_has ls 1 [(0, .ref o)] := hl
  refine lv_aload_n hx hb dX0_empty_0 rfl (lv_at hl 0 rfl) ?_
  refine va_get (D := (dC, dI)) (ci := 0) (v := .ref oa) (C := RX0) (T := TX0) (N := 3) hx hb hts inGX0 hown hK hP 0 rfl rfl 1 (by decide) (hts _ wd60) (fun _ h9 => h9) rfl dX0_empty_1 ?_
  refine lv_iconst (v := 0) hx hb dX0_empty_4 (by decide) ?_
  have hPc := hP.sub (ws' := [(oa, .inl (cI, 600, .inl rs.1))]) [1] rfl
  have hKc := hK.sub (tys' := [(cI, .int)]) [0] rfl
  have hDc := hD.sub (ws' := [(oa, .inl (cI, 600, .inl rs.1))]) [1] (by decide) rfl
  have hFc := va_free (wc := [(oa, .inl (cI, 600, .inl rs.1))]) hD hS hA [1] rfl
  refine va_callv (va_runS (As := [.ref oa, .int 0]) (rest := []) ⟨hx, hb, hml, hown, hts⟩ (mJ7_fill l dC dI cI oa s.heap.size rs.1 0) (va_cwS 2 hts (gS wd188 wd189 wd38 wd190) rfl rfl rfl (by decide +kernel) ⟨Nat.le_of_ble_eq_true rfl, Nat.le_of_ble_eq_true rfl⟩) ⟨fb_rw, pre_rw hPc hKc hDc hZ⟩ rfl rfl hl.1 rfl (lv_room (Nat.le_of_ble_eq_true rfl)) dX0_empty_5 ⟨Nat.le_of_ble_eq_true rfl, Nat.le_of_ble_eq_true rfl⟩) hS (fun q _ h => hFc q h) hFc (fun u_2 t H1 locs ht hvm hw_1 hB hz1 hk1 hS => ?_)
  obtain ⟨hP1, hD1⟩ := hB
  rw [ht] at hP1
  obtain ⟨hP, hD⟩ := va_join (wr := [(o, .inr (0, [.int lf, .ref oa, .int rs.2]))]) (w1 := [(oa, .inl (cI, 600, .inl u_2))]) hP hD [1] [0] rfl rfl (by decide) (by decide) hk1 hFc hP1 hD1
  generalize H1 = H at hP hS ⊢
  have hP : va_P (dC, dI) vwCl [(o, .inr (0, [.int lf, .ref oa, .int rs.2])), (oa, .inl (cI, 600, .inl u_2))] H := hP
  have hD : va_D A [(o, .inr (0, [.int lf, .ref oa, .int rs.2])), (oa, .inl (cI, 600, .inl u_2))] := hD
  refine lv_aload_n hx hb dX0_empty_8 rfl (lv_at hl 0 rfl) ?_
  refine lv_iconst (v := 0) hx hb dX0_empty_9 (by decide) ?_
  refine va_put (D := (dC, dI)) (ci := 0) (v := .int 0) (ty := .int) (C := RX0) (T := TX0) (N := 3) hx hb hts inGX0 tyX0 tyX0_ok nmX0 hown hK hP hD hS 0 rfl rfl 2 (by decide) (hts _ wd61) (fun _ h9 => h9) rfl (by decide +kernel) rfl rfl (Nat.le_of_ble_eq_true rfl) dX0_empty_10 (fun H locs hP hD hS => ?_)
  have hP : va_P (dC, dI) vwCl [(o, .inr (0, [.int lf, .ref oa, .int 0])), (oa, .inl (cI, 600, .inl u_2))] H := hP
  have hD : va_D A [(o, .inr (0, [.int lf, .ref oa, .int 0])), (oa, .inl (cI, 600, .inl u_2))] := hD
  have hP9 := hP.sub (ws' := [(o, .inr (0, [.int lf, .ref oa, .int 0])), (oa, .inl (cI, 600, .inl u_2))]) [0, 1] rfl
  have hD9 := hD.sub (ws' := [(o, .inr (0, [.int lf, .ref oa, .int 0])), (oa, .inl (cI, 600, .inl u_2))]) [0, 1] (by decide) rfl
  exact W.vret hx hb hr (fun t ht hW => ⟨⟨(u_2, 0), rfl, (plX0_empty_0 lf rs _ hw_1), by rw [ht]; exact hP9, hD9⟩, hS.F ht⟩) hS.2.2 dX0_empty_13
end
section
def FX2_shiftOf (st : Int32) (lf : Int32) (ao : Int32) (sib : Int32) (wr : Rw) (tw : Tk) (cr : Rw) (tr : Tk) (bad : Int32) (p0 : Int32) (p1 : Int32) : Int32 :=
  if lf = 0 then
    (p1 - 1) - p0
  else
    p0
set_option maxRecDepth 100000 in
theorem plX2_shiftOf_0 (st : Int32) (lf : Int32) (ao : Int32) (sib : Int32) (wr : Rw) (tw : Tk) (cr : Rw) (tr : Tk) (bad : Int32) (p0 : Int32) (p1 : Int32) (c_4 : lf = 0) : (p1 - 1) - p0 = FX2_shiftOf st lf ao sib wr tw cr tr bad p0 p1 := by
  exact (if_pos c_4).symm
set_option maxRecDepth 100000 in
theorem plX2_shiftOf_1 (st : Int32) (lf : Int32) (ao : Int32) (sib : Int32) (wr : Rw) (tw : Tk) (cr : Rw) (tr : Tk) (bad : Int32) (p0 : Int32) (p1 : Int32) (c_4 : ¬ (lf = 0)) : p0 = FX2_shiftOf st lf ao sib wr tw cr tr bad p0 p1 := by
  exact (if_neg c_4).symm
set_option maxHeartbeats 4000000 in
set_option maxRecDepth 100000 in
theorem mX2_shiftOf (l : Launch) (dC : Nat → ClassId) (dI : Nat → Nat → Nat) (cIw cIc : ClassId) (ox ow oaw og oc oac od : Nat) (st : Int32) (lf : Int32) (ao : Int32) (sib : Int32) (wr : Rw) (tw : Tk) (cr : Rw) (tr : Tk) (bad : Int32) (p0 : Int32) (p1 : Int32) : Met l yX2_shiftOf (Cond.code yX2_shiftOf cX2_shiftOf 3 (some .int) :: G) ({ frames := 0, cells := 0, slots := 0, locals := 0 } : Room) (va_Pc [.ref ox, .int p0, .int p1] (fun U => va_P (dC, dI) vwCl [(ox, .inr (2, [.int st, .int lf, .int ao, .ref ow, .ref og, .ref oc, .ref od, .int bad])), (ow, .inr (0, [.int lf, .ref oaw, .int wr.2])), (oaw, .inl (cIw, 600, .inl wr.1)), (og, .inr (1, [.ref ow, .int st, .int sib, .int tw.1, .int tw.2.1, .int tw.2.2.1, .int tw.2.2.2])), (oc, .inr (0, [.int lf, .ref oac, .int cr.2])), (oac, .inl (cIc, 600, .inl cr.1)), (od, .inr (1, [.ref oc, .int st, .int sib, .int tr.1, .int tr.2.1, .int tr.2.2.1, .int tr.2.2.2]))] U.heap ∧ va_K (dC, dI) vwCl [(cIw, .int), (cIc, .int)] U ∧ zOk U)) (vp_Si (fun r => r = (FX2_shiftOf st lf ao sib wr tw cr tr bad p0 p1))) 0 0 (fun _ => False) := by
  refine Met.ofW (cc := cX2_shiftOf) (maxL := 3) (ret := (some .int)) (by decide) rfl ?_
  intro p e s m args below meth c s₁ B hml hv
  obtain ⟨rfl, hP, hK, hZ⟩ := hv
  have hx := B.exec
  have hb := B.bytes
  have hr := B.returns
  have hts : ∀ w ∈ G, w.before [.ref ox, .int p0, .int p1].toArray s = true := fun w h => atoms_spec (ws := (Cond.code yX2_shiftOf cX2_shiftOf 3 (some .int) :: G)) B.pre w (List.mem_cons_of_mem _ h)
  have hown : s.vm.findClass RX2 = some m.cls := findClass_of_methodNamed B.named
  have hlocks := B.notSynchronized
  have hl := lv_entry ([.ref ox, .int p0, .int p1]) (n := 3) (Nat.le_of_ble_eq_true rfl)
  rw [lg_entry_eq]
  generalize (lg_sl ([.ref ox, .int p0, .int p1]) ++ List.replicate (3 - (lg_sl ([.ref ox, .int p0, .int p1])).length) Slot.unset).toArray = ls at hl ⊢
  have hl : lv_has ls 3 [(0, .ref ox), (1, .int p0), (2, .int p1)] := hl
  refine lv_aload_n hx hb dX2_shiftOf_0 rfl (lv_at hl 0 rfl) ?_
  refine va_get (D := (dC, dI)) (ci := 2) (v := .int lf) (C := RX2) (T := TX2) (N := 8) hx hb hts inGX2 hown hK hP 0 rfl rfl 1 (by decide) (hts _ wd99) (fun _ h9 => h9) rfl dX2_shiftOf_1 ?_
  refine lv_if_eq (tgt := 11) hx hb dX2_shiftOf_4 (by decide) (fun c_4 => ?_) (fun c_4 => ?_)
  · refine lv_iload_n hx hb dX2_shiftOf_11 rfl (lv_at hl 2 rfl) ?_
    refine lv_iconst (v := 1) hx hb dX2_shiftOf_12 (by decide) ?_
    refine lv_isub hx hb dX2_shiftOf_13 ?_
    refine lv_iload_n hx hb dX2_shiftOf_14 rfl (lv_at hl 1 rfl) ?_
    refine lv_isub hx hb dX2_shiftOf_15 ?_
    exact W.iret (v := (p1 - 1) - p0) hx hb hr (fun t ht hW => ⟨(p1 - 1) - p0, rfl, (plX2_shiftOf_0 st lf ao sib wr tw cr tr bad p0 p1 c_4), ht⟩) (fun q h => nomatch h) dX2_shiftOf_16
  · refine lv_iload_n hx hb dX2_shiftOf_7 rfl (lv_at hl 1 rfl) ?_
    refine lv_goto (tgt := 16) hx hb dX2_shiftOf_8 (by decide) ?_
    exact W.iret (v := p0) hx hb hr (fun t ht hW => ⟨p0, rfl, (plX2_shiftOf_1 st lf ao sib wr tw cr tr bad p0 p1 c_4), ht⟩) (fun q h => nomatch h) dX2_shiftOf_16
def FX2_writeStuffedIfDue (st : Int32) (lf : Int32) (ao : Int32) (sib : Int32) (wr : Rw) (tw : Tk) (cr : Rw) (tr : Tk) (bad : Int32) : Rw × Tk :=
  let r_1 := FX1_isStuffedDue st sib lf tw wr
  if r_1 = 0 then
    (wr, tw)
  else
    let u_4 := FX0_setBit lf wr tw.1 0
    let u_6 := FX1_stepOverStuffed st sib lf tw u_4
    (u_4, u_6)
set_option maxRecDepth 100000 in
theorem plX2_writeStuffedIfDue_0 (st : Int32) (lf : Int32) (ao : Int32) (sib : Int32) (wr : Rw) (tw : Tk) (cr : Rw) (tr : Tk) (bad : Int32) (r_1 : Int32) (hw_2 : r_1 = FX1_isStuffedDue st sib lf tw wr) (c_7 : r_1 = 0) : (wr, tw) = FX2_writeStuffedIfDue st lf ao sib wr tw cr tr bad := by
  subst hw_2
  exact (if_pos c_7).symm
set_option maxRecDepth 100000 in
theorem plX2_writeStuffedIfDue_1 (st : Int32) (lf : Int32) (ao : Int32) (sib : Int32) (wr : Rw) (tw : Tk) (cr : Rw) (tr : Tk) (bad : Int32) (r_1 : Int32) (hw_2 : r_1 = FX1_isStuffedDue st sib lf tw wr) (c_7 : ¬ (r_1 = 0)) (u_4 : Rw) (hw_3 : u_4 = FX0_setBit lf wr tw.1 0) (u_6 : Tk) (hw_5 : u_6 = FX1_stepOverStuffed st sib lf tw u_4) : (u_4, u_6) = FX2_writeStuffedIfDue st lf ao sib wr tw cr tr bad := by
  subst hw_2
  subst hw_3
  subst hw_5
  exact (if_neg c_7).symm
set_option maxHeartbeats 4000000 in
set_option maxRecDepth 100000 in
theorem mX2_writeStuffedIfDue (l : Launch) (dC : Nat → ClassId) (dI : Nat → Nat → Nat) (cIw cIc : ClassId) (ox ow oaw og oc oac od : Nat) (sz : Nat) (st : Int32) (lf : Int32) (ao : Int32) (sib : Int32) (wr : Rw) (tw : Tk) (cr : Rw) (tr : Tk) (bad : Int32) : Met l yX2_writeStuffedIfDue (Cond.code yX2_writeStuffedIfDue cX2_writeStuffedIfDue 1 none :: G) ({ frames := 3, cells := 0, slots := 0, locals := 62 } : Room) (va_Pc [.ref ox] (fun U => U.heap.size = sz ∧ va_P (dC, dI) vwCl [(ox, .inr (2, [.int st, .int lf, .int ao, .ref ow, .ref og, .ref oc, .ref od, .int bad])), (ow, .inr (0, [.int lf, .ref oaw, .int wr.2])), (oaw, .inl (cIw, 600, .inl wr.1)), (og, .inr (1, [.ref ow, .int st, .int sib, .int tw.1, .int tw.2.1, .int tw.2.2.1, .int tw.2.2.2])), (oc, .inr (0, [.int lf, .ref oac, .int cr.2])), (oac, .inl (cIc, 600, .inl cr.1)), (od, .inr (1, [.ref oc, .int st, .int sib, .int tr.1, .int tr.2.1, .int tr.2.2.1, .int tr.2.2.2]))] U.heap ∧ va_K (dC, dI) vwCl [(cIw, .int), (cIc, .int)] U ∧ va_D (fun _ => True) [(ox, .inr (2, [.int st, .int lf, .int ao, .ref ow, .ref og, .ref oc, .ref od, .int bad])), (ow, .inr (0, [.int lf, .ref oaw, .int wr.2])), (oaw, .inl (cIw, 600, .inl wr.1)), (og, .inr (1, [.ref ow, .int st, .int sib, .int tw.1, .int tw.2.1, .int tw.2.2.1, .int tw.2.2.2])), (oc, .inr (0, [.int lf, .ref oac, .int cr.2])), (oac, .inl (cIc, 600, .inl cr.1)), (od, .inr (1, [.ref oc, .int st, .int sib, .int tr.1, .int tr.2.1, .int tr.2.2.1, .int tr.2.2.2]))] ∧ zOk U)) (va_Qv (fun (u : Rw × Tk) => u = (FX2_writeStuffedIfDue st lf ao sib wr tw cr tr bad)) (fun (u : Rw × Tk) t => va_P (dC, dI) vwCl [(ox, .inr (2, [.int st, .int lf, .int ao, .ref ow, .ref og, .ref oc, .ref od, .int bad])), (ow, .inr (0, [.int lf, .ref oaw, .int u.1.2])), (oaw, .inl (cIw, 600, .inl u.1.1)), (og, .inr (1, [.ref ow, .int st, .int sib, .int u.2.1, .int u.2.2.1, .int u.2.2.2.1, .int u.2.2.2.2])), (oc, .inr (0, [.int lf, .ref oac, .int cr.2])), (oac, .inl (cIc, 600, .inl cr.1)), (od, .inr (1, [.ref oc, .int st, .int sib, .int tr.1, .int tr.2.1, .int tr.2.2.1, .int tr.2.2.2]))] t.heap ∧ va_D (va_A [(ox, .inr (2, [.int st, .int lf, .int ao, .ref ow, .ref og, .ref oc, .ref od, .int bad])), (ow, .inr (0, [.int lf, .ref oaw, .int wr.2])), (oaw, .inl (cIw, 600, .inl wr.1)), (og, .inr (1, [.ref ow, .int st, .int sib, .int tw.1, .int tw.2.1, .int tw.2.2.1, .int tw.2.2.2])), (oc, .inr (0, [.int lf, .ref oac, .int cr.2])), (oac, .inl (cIc, 600, .inl cr.1)), (od, .inr (1, [.ref oc, .int st, .int sib, .int tr.1, .int tr.2.1, .int tr.2.2.1, .int tr.2.2.2]))] sz) [(ox, .inr (2, [.int st, .int lf, .int ao, .ref ow, .ref og, .ref oc, .ref od, .int bad])), (ow, .inr (0, [.int lf, .ref oaw, .int u.1.2])), (oaw, .inl (cIw, 600, .inl u.1.1)), (og, .inr (1, [.ref ow, .int st, .int sib, .int u.2.1, .int u.2.2.1, .int u.2.2.2.1, .int u.2.2.2.2])), (oc, .inr (0, [.int lf, .ref oac, .int cr.2])), (oac, .inl (cIc, 600, .inl cr.1)), (od, .inr (1, [.ref oc, .int st, .int sib, .int tr.1, .int tr.2.1, .int tr.2.2.1, .int tr.2.2.2]))]) (va_A [(ox, .inr (2, [.int st, .int lf, .int ao, .ref ow, .ref og, .ref oc, .ref od, .int bad])), (ow, .inr (0, [.int lf, .ref oaw, .int wr.2])), (oaw, .inl (cIw, 600, .inl wr.1)), (og, .inr (1, [.ref ow, .int st, .int sib, .int tw.1, .int tw.2.1, .int tw.2.2.1, .int tw.2.2.2])), (oc, .inr (0, [.int lf, .ref oac, .int cr.2])), (oac, .inl (cIc, 600, .inl cr.1)), (od, .inr (1, [.ref oc, .int st, .int sib, .int tr.1, .int tr.2.1, .int tr.2.2.1, .int tr.2.2.2]))] sz)) 0 0 (va_A [(ox, .inr (2, [.int st, .int lf, .int ao, .ref ow, .ref og, .ref oc, .ref od, .int bad])), (ow, .inr (0, [.int lf, .ref oaw, .int wr.2])), (oaw, .inl (cIw, 600, .inl wr.1)), (og, .inr (1, [.ref ow, .int st, .int sib, .int tw.1, .int tw.2.1, .int tw.2.2.1, .int tw.2.2.2])), (oc, .inr (0, [.int lf, .ref oac, .int cr.2])), (oac, .inl (cIc, 600, .inl cr.1)), (od, .inr (1, [.ref oc, .int st, .int sib, .int tr.1, .int tr.2.1, .int tr.2.2.1, .int tr.2.2.2]))] sz) := by
  refine Met.ofW (cc := cX2_writeStuffedIfDue) (maxL := 1) (ret := none) (by decide) rfl ?_
  intro p e s m args below meth c s₁ B hml hv
  obtain ⟨rfl, hsz, hP, hK, hD0, hZ⟩ := hv
  have hx := B.exec
  have hb := B.bytes
  have hr := B.returns
  have hts : ∀ w ∈ G, w.before [.ref ox].toArray s = true := fun w h => atoms_spec (ws := (Cond.code yX2_writeStuffedIfDue cX2_writeStuffedIfDue 1 none :: G)) B.pre w (List.mem_cons_of_mem _ h)
  have hown : s.vm.findClass RX2 = some m.cls := findClass_of_methodNamed B.named
  have hlocks := B.notSynchronized
  subst hsz
  have hD := hD0.self (sz := s.heap.size)
  generalize hAe : va_A [(ox, .inr (2, [.int st, .int lf, .int ao, .ref ow, .ref og, .ref oc, .ref od, .int bad])), (ow, .inr (0, [.int lf, .ref oaw, .int wr.2])), (oaw, .inl (cIw, 600, .inl wr.1)), (og, .inr (1, [.ref ow, .int st, .int sib, .int tw.1, .int tw.2.1, .int tw.2.2.1, .int tw.2.2.2])), (oc, .inr (0, [.int lf, .ref oac, .int cr.2])), (oac, .inl (cIc, 600, .inl cr.1)), (od, .inr (1, [.ref oc, .int st, .int sib, .int tr.1, .int tr.2.1, .int tr.2.2.1, .int tr.2.2.2]))] s.heap.size = A at hD ⊢
  have hA : ∀ q : Nat, s.heap.size ≤ q → A q := fun q h => by rw [← hAe]; exact Or.inr h
  have hS : va_S A s.heap s.heap [] := va_S.rf
  have hP : va_P (dC, dI) vwCl [(ox, .inr (2, [.int st, .int lf, .int ao, .ref ow, .ref og, .ref oc, .ref od, .int bad])), (ow, .inr (0, [.int lf, .ref oaw, .int wr.2])), (oaw, .inl (cIw, 600, .inl wr.1)), (og, .inr (1, [.ref ow, .int st, .int sib, .int tw.1, .int tw.2.1, .int tw.2.2.1, .int tw.2.2.2])), (oc, .inr (0, [.int lf, .ref oac, .int cr.2])), (oac, .inl (cIc, 600, .inl cr.1)), (od, .inr (1, [.ref oc, .int st, .int sib, .int tr.1, .int tr.2.1, .int tr.2.2.1, .int tr.2.2.2]))] s.heap := hP
  have hl := lv_entry ([.ref ox]) (n := 1) (Nat.le_of_ble_eq_true rfl)
  rw [lg_entry_eq]
  generalize (lg_sl ([.ref ox]) ++ List.replicate (1 - (lg_sl ([.ref ox])).length) Slot.unset).toArray = ls at hl ⊢
  have hl : lv_has ls 1 [(0, .ref ox)] := hl
  refine lv_aload_n hx hb dX2_writeStuffedIfDue_0 rfl (lv_at hl 0 rfl) ?_
  refine va_get (D := (dC, dI)) (ci := 2) (v := .ref og) (C := RX2) (T := TX2) (N := 8) hx hb hts inGX2 hown hK hP 0 rfl rfl 4 (by decide) (hts _ wd102) (fun _ h9 => h9) rfl dX2_writeStuffedIfDue_1 ?_
  have hPc := hP.sub (ws' := [(og, .inr (1, [.ref ow, .int st, .int sib, .int tw.1, .int tw.2.1, .int tw.2.2.1, .int tw.2.2.2])), (ow, .inr (0, [.int lf, .ref oaw, .int wr.2])), (oaw, .inl (cIw, 600, .inl wr.1))]) [3, 1, 2] rfl
  have hKc := hK.sub (tys' := [(cIw, .int)]) [0] rfl
  refine vp_callSi (va_Run.run (va_runV (As := []) (rest := []) ⟨hx, hb, hml, hown, hts⟩ (mX1_isStuffedDue l dC dI cIw og ow oaw st sib lf tw wr) (cwV 0 hts (gV wd142 wd143 wd144 wd29 wd145) rfl rfl rfl (by decide +kernel) ⟨Nat.le_of_ble_eq_true rfl, Nat.le_of_ble_eq_true rfl⟩) ⟨fb_ro, va_recv hKc hPc (ci := 1) (q0 := 0) rfl rfl, pre_ro hPc hKc hZ⟩ rfl rfl hl.1 rfl (lv_room (Nat.le_of_ble_eq_true rfl)) dX2_writeStuffedIfDue_4 ⟨Nat.le_of_ble_eq_true rfl, Nat.le_of_ble_eq_true rfl⟩)) (fun r_1 hw_2 => ?_)
  refine lv_if_eq (tgt := 32) hx hb dX2_writeStuffedIfDue_7 (by decide) (fun c_7 => ?_) (fun c_7 => ?_)
  · have hP9 := hP.sub (ws' := [(ox, .inr (2, [.int st, .int lf, .int ao, .ref ow, .ref og, .ref oc, .ref od, .int bad])), (ow, .inr (0, [.int lf, .ref oaw, .int wr.2])), (oaw, .inl (cIw, 600, .inl wr.1)), (og, .inr (1, [.ref ow, .int st, .int sib, .int tw.1, .int tw.2.1, .int tw.2.2.1, .int tw.2.2.2])), (oc, .inr (0, [.int lf, .ref oac, .int cr.2])), (oac, .inl (cIc, 600, .inl cr.1)), (od, .inr (1, [.ref oc, .int st, .int sib, .int tr.1, .int tr.2.1, .int tr.2.2.1, .int tr.2.2.2]))]) [0, 1, 2, 3, 4, 5, 6] rfl
    have hD9 := hD.sub (ws' := [(ox, .inr (2, [.int st, .int lf, .int ao, .ref ow, .ref og, .ref oc, .ref od, .int bad])), (ow, .inr (0, [.int lf, .ref oaw, .int wr.2])), (oaw, .inl (cIw, 600, .inl wr.1)), (og, .inr (1, [.ref ow, .int st, .int sib, .int tw.1, .int tw.2.1, .int tw.2.2.1, .int tw.2.2.2])), (oc, .inr (0, [.int lf, .ref oac, .int cr.2])), (oac, .inl (cIc, 600, .inl cr.1)), (od, .inr (1, [.ref oc, .int st, .int sib, .int tr.1, .int tr.2.1, .int tr.2.2.1, .int tr.2.2.2]))]) [0, 1, 2, 3, 4, 5, 6] (by decide) rfl
    exact W.vret hx hb hr (fun t ht hW => ⟨⟨(wr, tw), rfl, (plX2_writeStuffedIfDue_0 st lf ao sib wr tw cr tr bad _ hw_2 c_7), by rw [ht]; exact hP9, hD9⟩, hS.F ht⟩) hS.2.2 dX2_writeStuffedIfDue_32
  · refine lv_aload_n hx hb dX2_writeStuffedIfDue_10 rfl (lv_at hl 0 rfl) ?_
    refine va_get (D := (dC, dI)) (ci := 2) (v := .ref ow) (C := RX2) (T := TX2) (N := 8) hx hb hts inGX2 hown hK hP 0 rfl rfl 3 (by decide) (hts _ wd101) (fun _ h9 => h9) rfl dX2_writeStuffedIfDue_11 ?_
    refine lv_aload_n hx hb dX2_writeStuffedIfDue_14 rfl (lv_at hl 0 rfl) ?_
    refine va_get (D := (dC, dI)) (ci := 2) (v := .ref og) (C := RX2) (T := TX2) (N := 8) hx hb hts inGX2 hown hK hP 0 rfl rfl 4 (by decide) (hts _ wd102) (fun _ h9 => h9) rfl dX2_writeStuffedIfDue_15 ?_
    refine va_getN (D := (dC, dI)) (ci := 1) (v := .int tw.1) (C := RX1) (T := TX1) (N := 7) hx hb hts inGX1 hown hK hP 3 rfl rfl 3 (by decide) (hZ.use zw2 rfl) (fun _ h9 => h9) rfl dX2_writeStuffedIfDue_18 ?_
    refine lv_iconst (v := 0) hx hb dX2_writeStuffedIfDue_21 (by decide) ?_
    have hPc := hP.sub (ws' := [(ow, .inr (0, [.int lf, .ref oaw, .int wr.2])), (oaw, .inl (cIw, 600, .inl wr.1))]) [1, 2] rfl
    have hKc := hK.sub (tys' := [(cIw, .int)]) [0] rfl
    have hDc := hD.sub (ws' := [(ow, .inr (0, [.int lf, .ref oaw, .int wr.2])), (oaw, .inl (cIw, 600, .inl wr.1))]) [1, 2] (by decide) rfl
    have hFc := va_free (wc := [(ow, .inr (0, [.int lf, .ref oaw, .int wr.2])), (oaw, .inl (cIw, 600, .inl wr.1))]) hD hS hA [1, 2] rfl
    refine va_callv (va_runV (As := [.int tw.1, .int 0]) (rest := []) ⟨hx, hb, hml, hown, hts⟩ (mX0_setBit l dC dI cIw ow oaw s.heap.size lf wr tw.1 0) (cwV 2 hts (gV wd291 wd292 wd293 wd28 wd294) rfl rfl rfl (by decide +kernel) ⟨Nat.le_of_ble_eq_true rfl, Nat.le_of_ble_eq_true rfl⟩) ⟨fb_rw, va_recv hKc hPc (ci := 0) (q0 := 0) rfl rfl, pre_rw hPc hKc hDc hZ⟩ rfl rfl hl.1 rfl (lv_room (Nat.le_of_ble_eq_true rfl)) dX2_writeStuffedIfDue_22 ⟨Nat.le_of_ble_eq_true rfl, Nat.le_of_ble_eq_true rfl⟩) hS (fun q _ h => hFc q h) hFc (fun u_4 t H1 locs ht hvm hw_3 hB hz1 hk1 hS => ?_)
    obtain ⟨hP1, hD1⟩ := hB
    rw [ht] at hP1
    obtain ⟨hP, hD⟩ := va_join (wr := [(ox, .inr (2, [.int st, .int lf, .int ao, .ref ow, .ref og, .ref oc, .ref od, .int bad])), (og, .inr (1, [.ref ow, .int st, .int sib, .int tw.1, .int tw.2.1, .int tw.2.2.1, .int tw.2.2.2])), (oc, .inr (0, [.int lf, .ref oac, .int cr.2])), (oac, .inl (cIc, 600, .inl cr.1)), (od, .inr (1, [.ref oc, .int st, .int sib, .int tr.1, .int tr.2.1, .int tr.2.2.1, .int tr.2.2.2]))]) (w1 := [(ow, .inr (0, [.int lf, .ref oaw, .int u_4.2])), (oaw, .inl (cIw, 600, .inl u_4.1))]) hP hD [1, 2] [0, 3, 4, 5, 6] rfl rfl (by decide) (by decide) hk1 hFc hP1 hD1
    generalize H1 = H at hP hS ⊢
    have hP : va_P (dC, dI) vwCl [(ox, .inr (2, [.int st, .int lf, .int ao, .ref ow, .ref og, .ref oc, .ref od, .int bad])), (og, .inr (1, [.ref ow, .int st, .int sib, .int tw.1, .int tw.2.1, .int tw.2.2.1, .int tw.2.2.2])), (oc, .inr (0, [.int lf, .ref oac, .int cr.2])), (oac, .inl (cIc, 600, .inl cr.1)), (od, .inr (1, [.ref oc, .int st, .int sib, .int tr.1, .int tr.2.1, .int tr.2.2.1, .int tr.2.2.2])), (ow, .inr (0, [.int lf, .ref oaw, .int u_4.2])), (oaw, .inl (cIw, 600, .inl u_4.1))] H := hP
    have hD : va_D A [(ox, .inr (2, [.int st, .int lf, .int ao, .ref ow, .ref og, .ref oc, .ref od, .int bad])), (og, .inr (1, [.ref ow, .int st, .int sib, .int tw.1, .int tw.2.1, .int tw.2.2.1, .int tw.2.2.2])), (oc, .inr (0, [.int lf, .ref oac, .int cr.2])), (oac, .inl (cIc, 600, .inl cr.1)), (od, .inr (1, [.ref oc, .int st, .int sib, .int tr.1, .int tr.2.1, .int tr.2.2.1, .int tr.2.2.2])), (ow, .inr (0, [.int lf, .ref oaw, .int u_4.2])), (oaw, .inl (cIw, 600, .inl u_4.1))] := hD
    refine lv_aload_n hx hb dX2_writeStuffedIfDue_25 rfl (lv_at hl 0 rfl) ?_
    refine va_get (D := (dC, dI)) (ci := 2) (v := .ref og) (C := RX2) (T := TX2) (N := 8) hx hb hts inGX2 hown hK hP 0 rfl rfl 4 (by decide) (hts _ wd102) (fun _ h9 => h9) rfl dX2_writeStuffedIfDue_26 ?_
    have hPc := hP.sub (ws' := [(og, .inr (1, [.ref ow, .int st, .int sib, .int tw.1, .int tw.2.1, .int tw.2.2.1, .int tw.2.2.2])), (ow, .inr (0, [.int lf, .ref oaw, .int u_4.2])), (oaw, .inl (cIw, 600, .inl u_4.1))]) [1, 5, 6] rfl
    have hKc := hK.sub (tys' := [(cIw, .int)]) [0] rfl
    have hDc := hD.sub (ws' := [(og, .inr (1, [.ref ow, .int st, .int sib, .int tw.1, .int tw.2.1, .int tw.2.2.1, .int tw.2.2.2])), (ow, .inr (0, [.int lf, .ref oaw, .int u_4.2])), (oaw, .inl (cIw, 600, .inl u_4.1))]) [1, 5, 6] (by decide) rfl
    have hFc := va_free (wc := [(og, .inr (1, [.ref ow, .int st, .int sib, .int tw.1, .int tw.2.1, .int tw.2.2.1, .int tw.2.2.2])), (ow, .inr (0, [.int lf, .ref oaw, .int u_4.2])), (oaw, .inl (cIw, 600, .inl u_4.1))]) hD hS hA [1, 5, 6] rfl
    refine va_callv (va_runV (As := []) (rest := []) ⟨hx, hb, hml, hown, hts⟩ (mX1_stepOverStuffed l dC dI cIw og ow oaw H.size st sib lf tw u_4) (cwV 0 hts (gV wd146 wd147 wd148 wd29 wd149) rfl rfl rfl (by decide +kernel) ⟨Nat.le_of_ble_eq_true rfl, Nat.le_of_ble_eq_true rfl⟩) ⟨fb_rw, va_recv hKc hPc (ci := 1) (q0 := 0) rfl rfl, pre_rw hPc hKc hDc hZ⟩ rfl rfl hl.1 rfl (lv_room (Nat.le_of_ble_eq_true rfl)) dX2_writeStuffedIfDue_29 ⟨Nat.le_of_ble_eq_true rfl, Nat.le_of_ble_eq_true rfl⟩) hS (fun q _ h => hFc q h) hFc (fun u_6 t H1 locs ht hvm hw_5 hB hz1 hk1 hS => ?_)
    obtain ⟨hP1, hD1⟩ := hB
    rw [ht] at hP1
    obtain ⟨hP, hD⟩ := va_join (wr := [(ox, .inr (2, [.int st, .int lf, .int ao, .ref ow, .ref og, .ref oc, .ref od, .int bad])), (oc, .inr (0, [.int lf, .ref oac, .int cr.2])), (oac, .inl (cIc, 600, .inl cr.1)), (od, .inr (1, [.ref oc, .int st, .int sib, .int tr.1, .int tr.2.1, .int tr.2.2.1, .int tr.2.2.2]))]) (w1 := [(og, .inr (1, [.ref ow, .int st, .int sib, .int u_6.1, .int u_6.2.1, .int u_6.2.2.1, .int u_6.2.2.2])), (ow, .inr (0, [.int lf, .ref oaw, .int u_4.2])), (oaw, .inl (cIw, 600, .inl u_4.1))]) hP hD [1, 5, 6] [0, 2, 3, 4] rfl rfl (by decide) (by decide) hk1 hFc hP1 hD1
    generalize H1 = H at hP hS ⊢
    have hP : va_P (dC, dI) vwCl [(ox, .inr (2, [.int st, .int lf, .int ao, .ref ow, .ref og, .ref oc, .ref od, .int bad])), (oc, .inr (0, [.int lf, .ref oac, .int cr.2])), (oac, .inl (cIc, 600, .inl cr.1)), (od, .inr (1, [.ref oc, .int st, .int sib, .int tr.1, .int tr.2.1, .int tr.2.2.1, .int tr.2.2.2])), (og, .inr (1, [.ref ow, .int st, .int sib, .int u_6.1, .int u_6.2.1, .int u_6.2.2.1, .int u_6.2.2.2])), (ow, .inr (0, [.int lf, .ref oaw, .int u_4.2])), (oaw, .inl (cIw, 600, .inl u_4.1))] H := hP
    have hD : va_D A [(ox, .inr (2, [.int st, .int lf, .int ao, .ref ow, .ref og, .ref oc, .ref od, .int bad])), (oc, .inr (0, [.int lf, .ref oac, .int cr.2])), (oac, .inl (cIc, 600, .inl cr.1)), (od, .inr (1, [.ref oc, .int st, .int sib, .int tr.1, .int tr.2.1, .int tr.2.2.1, .int tr.2.2.2])), (og, .inr (1, [.ref ow, .int st, .int sib, .int u_6.1, .int u_6.2.1, .int u_6.2.2.1, .int u_6.2.2.2])), (ow, .inr (0, [.int lf, .ref oaw, .int u_4.2])), (oaw, .inl (cIw, 600, .inl u_4.1))] := hD
    have hP9 := hP.sub (ws' := [(ox, .inr (2, [.int st, .int lf, .int ao, .ref ow, .ref og, .ref oc, .ref od, .int bad])), (ow, .inr (0, [.int lf, .ref oaw, .int u_4.2])), (oaw, .inl (cIw, 600, .inl u_4.1)), (og, .inr (1, [.ref ow, .int st, .int sib, .int u_6.1, .int u_6.2.1, .int u_6.2.2.1, .int u_6.2.2.2])), (oc, .inr (0, [.int lf, .ref oac, .int cr.2])), (oac, .inl (cIc, 600, .inl cr.1)), (od, .inr (1, [.ref oc, .int st, .int sib, .int tr.1, .int tr.2.1, .int tr.2.2.1, .int tr.2.2.2]))]) [0, 5, 6, 4, 1, 2, 3] rfl
    have hD9 := hD.sub (ws' := [(ox, .inr (2, [.int st, .int lf, .int ao, .ref ow, .ref og, .ref oc, .ref od, .int bad])), (ow, .inr (0, [.int lf, .ref oaw, .int u_4.2])), (oaw, .inl (cIw, 600, .inl u_4.1)), (og, .inr (1, [.ref ow, .int st, .int sib, .int u_6.1, .int u_6.2.1, .int u_6.2.2.1, .int u_6.2.2.2])), (oc, .inr (0, [.int lf, .ref oac, .int cr.2])), (oac, .inl (cIc, 600, .inl cr.1)), (od, .inr (1, [.ref oc, .int st, .int sib, .int tr.1, .int tr.2.1, .int tr.2.2.1, .int tr.2.2.2]))]) [0, 5, 6, 4, 1, 2, 3] (by decide) rfl
    exact W.vret hx hb hr (fun t ht hW => ⟨⟨(u_4, u_6), rfl, (plX2_writeStuffedIfDue_1 st lf ao sib wr tw cr tr bad _ hw_2 c_7 _ hw_3 _ hw_5), by rw [ht]; exact hP9, hD9⟩, hS.F ht⟩) hS.2.2 dX2_writeStuffedIfDue_32
def FX2_writeBit (st : Int32) (lf : Int32) (ao : Int32) (sib : Int32) (wr : Rw) (tw : Tk) (cr : Rw) (tr : Tk) (bad : Int32) (p0 : Int32) : Rw × Tk :=
  let zhw_1 := FX2_writeStuffedIfDue st lf ao sib wr tw cr tr bad
  let u_2wr := zhw_1.1
  let u_2tw := zhw_1.2
  let u_4 := FX0_setBit lf u_2wr u_2tw.1 p0
  let u_6 := FX1_stepOver st sib lf u_2tw u_4 p0
  if ao = 0 then
    (u_4, u_6)
  else
    let zhw_7 := FX2_writeStuffedIfDue st lf ao sib u_4 u_6 cr tr bad
    let u_8wr := zhw_7.1
    let u_8tw := zhw_7.2
    (u_8wr, u_8tw)
set_option maxRecDepth 100000 in
theorem plX2_writeBit_0 (st : Int32) (lf : Int32) (ao : Int32) (sib : Int32) (wr : Rw) (tw : Tk) (cr : Rw) (tr : Tk) (bad : Int32) (p0 : Int32) (u_2wr : Rw) (u_2tw : Tk) (hw_1 : (u_2wr, u_2tw) = FX2_writeStuffedIfDue st lf ao sib wr tw cr tr bad) (u_4 : Rw) (hw_3 : u_4 = FX0_setBit lf u_2wr u_2tw.1 p0) (u_6 : Tk) (hw_5 : u_6 = FX1_stepOver st sib lf u_2tw u_4 p0) (c_31 : ao = 0) : (u_4, u_6) = FX2_writeBit st lf ao sib wr tw cr tr bad p0 := by
  have q0 := congrArg (fun z => z.1) hw_1
  have q1 := congrArg (fun z => z.2) hw_1
  dsimp only at q0 q1
  subst q0
  subst q1
  clear hw_1
  subst hw_3
  subst hw_5
  exact (if_pos c_31).symm
set_option maxRecDepth 100000 in
theorem plX2_writeBit_1 (st : Int32) (lf : Int32) (ao : Int32) (sib : Int32) (wr : Rw) (tw : Tk) (cr : Rw) (tr : Tk) (bad : Int32) (p0 : Int32) (u_2wr : Rw) (u_2tw : Tk) (hw_1 : (u_2wr, u_2tw) = FX2_writeStuffedIfDue st lf ao sib wr tw cr tr bad) (u_4 : Rw) (hw_3 : u_4 = FX0_setBit lf u_2wr u_2tw.1 p0) (u_6 : Tk) (hw_5 : u_6 = FX1_stepOver st sib lf u_2tw u_4 p0) (c_31 : ¬ (ao = 0)) (u_8wr : Rw) (u_8tw : Tk) (hw_7 : (u_8wr, u_8tw) = FX2_writeStuffedIfDue st lf ao sib u_4 u_6 cr tr bad) : (u_8wr, u_8tw) = FX2_writeBit st lf ao sib wr tw cr tr bad p0 := by
  have q0 := congrArg (fun z => z.1) hw_1
  have q1 := congrArg (fun z => z.2) hw_1
  dsimp only at q0 q1
  subst q0
  subst q1
  clear hw_1
  subst hw_3
  subst hw_5
  have q0 := congrArg (fun z => z.1) hw_7
  have q1 := congrArg (fun z => z.2) hw_7
  dsimp only at q0 q1
  subst q0
  subst q1
  clear hw_7
  exact (if_neg c_31).symm
set_option maxHeartbeats 4000000 in
set_option maxRecDepth 100000 in
theorem mX2_writeBit (l : Launch) (dC : Nat → ClassId) (dI : Nat → Nat → Nat) (cIw cIc : ClassId) (ox ow oaw og oc oac od : Nat) (sz : Nat) (st : Int32) (lf : Int32) (ao : Int32) (sib : Int32) (wr : Rw) (tw : Tk) (cr : Rw) (tr : Tk) (bad : Int32) (p0 : Int32) : Met l yX2_writeBit (Cond.code yX2_writeBit cX2_writeBit 2 none :: G) ({ frames := 4, cells := 0, slots := 0, locals := 82 } : Room) (va_Pc [.ref ox, .int p0] (fun U => U.heap.size = sz ∧ va_P (dC, dI) vwCl [(ox, .inr (2, [.int st, .int lf, .int ao, .ref ow, .ref og, .ref oc, .ref od, .int bad])), (ow, .inr (0, [.int lf, .ref oaw, .int wr.2])), (oaw, .inl (cIw, 600, .inl wr.1)), (og, .inr (1, [.ref ow, .int st, .int sib, .int tw.1, .int tw.2.1, .int tw.2.2.1, .int tw.2.2.2])), (oc, .inr (0, [.int lf, .ref oac, .int cr.2])), (oac, .inl (cIc, 600, .inl cr.1)), (od, .inr (1, [.ref oc, .int st, .int sib, .int tr.1, .int tr.2.1, .int tr.2.2.1, .int tr.2.2.2]))] U.heap ∧ va_K (dC, dI) vwCl [(cIw, .int), (cIc, .int)] U ∧ va_D (fun _ => True) [(ox, .inr (2, [.int st, .int lf, .int ao, .ref ow, .ref og, .ref oc, .ref od, .int bad])), (ow, .inr (0, [.int lf, .ref oaw, .int wr.2])), (oaw, .inl (cIw, 600, .inl wr.1)), (og, .inr (1, [.ref ow, .int st, .int sib, .int tw.1, .int tw.2.1, .int tw.2.2.1, .int tw.2.2.2])), (oc, .inr (0, [.int lf, .ref oac, .int cr.2])), (oac, .inl (cIc, 600, .inl cr.1)), (od, .inr (1, [.ref oc, .int st, .int sib, .int tr.1, .int tr.2.1, .int tr.2.2.1, .int tr.2.2.2]))] ∧ zOk U)) (va_Qv (fun (u : Rw × Tk) => u = (FX2_writeBit st lf ao sib wr tw cr tr bad p0)) (fun (u : Rw × Tk) t => va_P (dC, dI) vwCl [(ox, .inr (2, [.int st, .int lf, .int ao, .ref ow, .ref og, .ref oc, .ref od, .int bad])), (ow, .inr (0, [.int lf, .ref oaw, .int u.1.2])), (oaw, .inl (cIw, 600, .inl u.1.1)), (og, .inr (1, [.ref ow, .int st, .int sib, .int u.2.1, .int u.2.2.1, .int u.2.2.2.1, .int u.2.2.2.2])), (oc, .inr (0, [.int lf, .ref oac, .int cr.2])), (oac, .inl (cIc, 600, .inl cr.1)), (od, .inr (1, [.ref oc, .int st, .int sib, .int tr.1, .int tr.2.1, .int tr.2.2.1, .int tr.2.2.2]))] t.heap ∧ va_D (va_A [(ox, .inr (2, [.int st, .int lf, .int ao, .ref ow, .ref og, .ref oc, .ref od, .int bad])), (ow, .inr (0, [.int lf, .ref oaw, .int wr.2])), (oaw, .inl (cIw, 600, .inl wr.1)), (og, .inr (1, [.ref ow, .int st, .int sib, .int tw.1, .int tw.2.1, .int tw.2.2.1, .int tw.2.2.2])), (oc, .inr (0, [.int lf, .ref oac, .int cr.2])), (oac, .inl (cIc, 600, .inl cr.1)), (od, .inr (1, [.ref oc, .int st, .int sib, .int tr.1, .int tr.2.1, .int tr.2.2.1, .int tr.2.2.2]))] sz) [(ox, .inr (2, [.int st, .int lf, .int ao, .ref ow, .ref og, .ref oc, .ref od, .int bad])), (ow, .inr (0, [.int lf, .ref oaw, .int u.1.2])), (oaw, .inl (cIw, 600, .inl u.1.1)), (og, .inr (1, [.ref ow, .int st, .int sib, .int u.2.1, .int u.2.2.1, .int u.2.2.2.1, .int u.2.2.2.2])), (oc, .inr (0, [.int lf, .ref oac, .int cr.2])), (oac, .inl (cIc, 600, .inl cr.1)), (od, .inr (1, [.ref oc, .int st, .int sib, .int tr.1, .int tr.2.1, .int tr.2.2.1, .int tr.2.2.2]))]) (va_A [(ox, .inr (2, [.int st, .int lf, .int ao, .ref ow, .ref og, .ref oc, .ref od, .int bad])), (ow, .inr (0, [.int lf, .ref oaw, .int wr.2])), (oaw, .inl (cIw, 600, .inl wr.1)), (og, .inr (1, [.ref ow, .int st, .int sib, .int tw.1, .int tw.2.1, .int tw.2.2.1, .int tw.2.2.2])), (oc, .inr (0, [.int lf, .ref oac, .int cr.2])), (oac, .inl (cIc, 600, .inl cr.1)), (od, .inr (1, [.ref oc, .int st, .int sib, .int tr.1, .int tr.2.1, .int tr.2.2.1, .int tr.2.2.2]))] sz)) 0 0 (va_A [(ox, .inr (2, [.int st, .int lf, .int ao, .ref ow, .ref og, .ref oc, .ref od, .int bad])), (ow, .inr (0, [.int lf, .ref oaw, .int wr.2])), (oaw, .inl (cIw, 600, .inl wr.1)), (og, .inr (1, [.ref ow, .int st, .int sib, .int tw.1, .int tw.2.1, .int tw.2.2.1, .int tw.2.2.2])), (oc, .inr (0, [.int lf, .ref oac, .int cr.2])), (oac, .inl (cIc, 600, .inl cr.1)), (od, .inr (1, [.ref oc, .int st, .int sib, .int tr.1, .int tr.2.1, .int tr.2.2.1, .int tr.2.2.2]))] sz) := by
  refine Met.ofW (cc := cX2_writeBit) (maxL := 2) (ret := none) (by decide) rfl ?_
  intro p e s m args below meth c s₁ B hml hv
  obtain ⟨rfl, hsz, hP, hK, hD0, hZ⟩ := hv
  have hx := B.exec
  have hb := B.bytes
  have hr := B.returns
  have hts : ∀ w ∈ G, w.before [.ref ox, .int p0].toArray s = true := fun w h => atoms_spec (ws := (Cond.code yX2_writeBit cX2_writeBit 2 none :: G)) B.pre w (List.mem_cons_of_mem _ h)
  have hown : s.vm.findClass RX2 = some m.cls := findClass_of_methodNamed B.named
  have hlocks := B.notSynchronized
  subst hsz
  have hD := hD0.self (sz := s.heap.size)
  generalize hAe : va_A [(ox, .inr (2, [.int st, .int lf, .int ao, .ref ow, .ref og, .ref oc, .ref od, .int bad])), (ow, .inr (0, [.int lf, .ref oaw, .int wr.2])), (oaw, .inl (cIw, 600, .inl wr.1)), (og, .inr (1, [.ref ow, .int st, .int sib, .int tw.1, .int tw.2.1, .int tw.2.2.1, .int tw.2.2.2])), (oc, .inr (0, [.int lf, .ref oac, .int cr.2])), (oac, .inl (cIc, 600, .inl cr.1)), (od, .inr (1, [.ref oc, .int st, .int sib, .int tr.1, .int tr.2.1, .int tr.2.2.1, .int tr.2.2.2]))] s.heap.size = A at hD ⊢
  have hA : ∀ q : Nat, s.heap.size ≤ q → A q := fun q h => by rw [← hAe]; exact Or.inr h
  have hS : va_S A s.heap s.heap [] := va_S.rf
  have hP : va_P (dC, dI) vwCl [(ox, .inr (2, [.int st, .int lf, .int ao, .ref ow, .ref og, .ref oc, .ref od, .int bad])), (ow, .inr (0, [.int lf, .ref oaw, .int wr.2])), (oaw, .inl (cIw, 600, .inl wr.1)), (og, .inr (1, [.ref ow, .int st, .int sib, .int tw.1, .int tw.2.1, .int tw.2.2.1, .int tw.2.2.2])), (oc, .inr (0, [.int lf, .ref oac, .int cr.2])), (oac, .inl (cIc, 600, .inl cr.1)), (od, .inr (1, [.ref oc, .int st, .int sib, .int tr.1, .int tr.2.1, .int tr.2.2.1, .int tr.2.2.2]))] s.heap := hP
  have hl := lv_entry ([.ref ox, .int p0]) (n := 2) (Nat.le_of_ble_eq_true rfl)
  rw [lg_entry_eq]
  generalize (lg_sl ([.ref ox, .int p0]) ++ List.replicate (2 - (lg_sl ([.ref ox, .int p0])).length) Slot.unset).toArray = ls at hl ⊢
  have hl : lv_has ls 2 [(0, .ref ox), (1, .int p0)] := hl
  refine lv_aload_n hx hb dX2_writeBit_0 rfl (lv_at hl 0 rfl) ?_
  have hPc := hP.sub (ws' := [(ox, .inr (2, [.int st, .int lf, .int ao, .ref ow, .ref og, .ref oc, .ref od, .int bad])), (ow, .inr (0, [.int lf, .ref oaw, .int wr.2])), (oaw, .inl (cIw, 600, .inl wr.1)), (og, .inr (1, [.ref ow, .int st, .int sib, .int tw.1, .int tw.2.1, .int tw.2.2.1, .int tw.2.2.2])), (oc, .inr (0, [.int lf, .ref oac, .int cr.2])), (oac, .inl (cIc, 600, .inl cr.1)), (od, .inr (1, [.ref oc, .int st, .int sib, .int tr.1, .int tr.2.1, .int tr.2.2.1, .int tr.2.2.2]))]) [0, 1, 2, 3, 4, 5, 6] rfl
  have hKc := hK.sub (tys' := [(cIw, .int), (cIc, .int)]) [0, 1] rfl
  have hDc := hD.sub (ws' := [(ox, .inr (2, [.int st, .int lf, .int ao, .ref ow, .ref og, .ref oc, .ref od, .int bad])), (ow, .inr (0, [.int lf, .ref oaw, .int wr.2])), (oaw, .inl (cIw, 600, .inl wr.1)), (og, .inr (1, [.ref ow, .int st, .int sib, .int tw.1, .int tw.2.1, .int tw.2.2.1, .int tw.2.2.2])), (oc, .inr (0, [.int lf, .ref oac, .int cr.2])), (oac, .inl (cIc, 600, .inl cr.1)), (od, .inr (1, [.ref oc, .int st, .int sib, .int tr.1, .int tr.2.1, .int tr.2.2.1, .int tr.2.2.2]))]) [0, 1, 2, 3, 4, 5, 6] (by decide) rfl
  have hFc := va_free (wc := [(ox, .inr (2, [.int st, .int lf, .int ao, .ref ow, .ref og, .ref oc, .ref od, .int bad])), (ow, .inr (0, [.int lf, .ref oaw, .int wr.2])), (oaw, .inl (cIw, 600, .inl wr.1)), (og, .inr (1, [.ref ow, .int st, .int sib, .int tw.1, .int tw.2.1, .int tw.2.2.1, .int tw.2.2.2])), (oc, .inr (0, [.int lf, .ref oac, .int cr.2])), (oac, .inl (cIc, 600, .inl cr.1)), (od, .inr (1, [.ref oc, .int st, .int sib, .int tr.1, .int tr.2.1, .int tr.2.2.1, .int tr.2.2.2]))]) hD hS hA [0, 1, 2, 3, 4, 5, 6] rfl
  refine va_callv (va_runV (As := []) (rest := []) ⟨hx, hb, hml, hown, hts⟩ (mX2_writeStuffedIfDue l dC dI cIw cIc ox ow oaw og oc oac od s.heap.size st lf ao sib wr tw cr tr bad) (cwV 0 hts (gV wd288 wd289 wd3 wd26 wd290) rfl rfl rfl (by decide +kernel) ⟨Nat.le_of_ble_eq_true rfl, Nat.le_of_ble_eq_true rfl⟩) ⟨fb_rw, va_recv hKc hPc (ci := 2) (q0 := 0) rfl rfl, pre_rw hPc hKc hDc hZ⟩ rfl rfl hl.1 rfl (lv_room (Nat.le_of_ble_eq_true rfl)) dX2_writeBit_1 ⟨Nat.le_of_ble_eq_true rfl, Nat.le_of_ble_eq_true rfl⟩) hS (fun q _ h => hFc q h) hFc (fun u_2 t H1 locs ht hvm hw_1 hB hz1 hk1 hS => ?_)
  obtain ⟨u_2wr, u_2tw⟩ := u_2
  obtain ⟨hP1, hD1⟩ := hB
  rw [ht] at hP1
  obtain ⟨hP, hD⟩ := va_join (wr := []) (w1 := [(ox, .inr (2, [.int st, .int lf, .int ao, .ref ow, .ref og, .ref oc, .ref od, .int bad])), (ow, .inr (0, [.int lf, .ref oaw, .int u_2wr.2])), (oaw, .inl (cIw, 600, .inl u_2wr.1)), (og, .inr (1, [.ref ow, .int st, .int sib, .int u_2tw.1, .int u_2tw.2.1, .int u_2tw.2.2.1, .int u_2tw.2.2.2])), (oc, .inr (0, [.int lf, .ref oac, .int cr.2])), (oac, .inl (cIc, 600, .inl cr.1)), (od, .inr (1, [.ref oc, .int st, .int sib, .int tr.1, .int tr.2.1, .int tr.2.2.1, .int tr.2.2.2]))]) hP hD [0, 1, 2, 3, 4, 5, 6] [] rfl rfl (by decide) (by decide) hk1 hFc hP1 hD1
  generalize H1 = H at hP hS ⊢
  have hP : va_P (dC, dI) vwCl [(ox, .inr (2, [.int st, .int lf, .int ao, .ref ow, .ref og, .ref oc, .ref od, .int bad])), (ow, .inr (0, [.int lf, .ref oaw, .int u_2wr.2])), (oaw, .inl (cIw, 600, .inl u_2wr.1)), (og, .inr (1, [.ref ow, .int st, .int sib, .int u_2tw.1, .int u_2tw.2.1, .int u_2tw.2.2.1, .int u_2tw.2.2.2])), (oc, .inr (0, [.int lf, .ref oac, .int cr.2])), (oac, .inl (cIc, 600, .inl cr.1)), (od, .inr (1, [.ref oc, .int st, .int sib, .int tr.1, .int tr.2.1, .int tr.2.2.1, .int tr.2.2.2]))] H := hP
  have hD : va_D A [(ox, .inr (2, [.int st, .int lf, .int ao, .ref ow, .ref og, .ref oc, .ref od, .int bad])), (ow, .inr (0, [.int lf, .ref oaw, .int u_2wr.2])), (oaw, .inl (cIw, 600, .inl u_2wr.1)), (og, .inr (1, [.ref ow, .int st, .int sib, .int u_2tw.1, .int u_2tw.2.1, .int u_2tw.2.2.1, .int u_2tw.2.2.2])), (oc, .inr (0, [.int lf, .ref oac, .int cr.2])), (oac, .inl (cIc, 600, .inl cr.1)), (od, .inr (1, [.ref oc, .int st, .int sib, .int tr.1, .int tr.2.1, .int tr.2.2.1, .int tr.2.2.2]))] := hD
  refine lv_aload_n hx hb dX2_writeBit_4 rfl (lv_at hl 0 rfl) ?_
  refine va_get (D := (dC, dI)) (ci := 2) (v := .ref ow) (C := RX2) (T := TX2) (N := 8) hx hb hts inGX2 hown hK hP 0 rfl rfl 3 (by decide) (hts _ wd101) (fun _ h9 => h9) rfl dX2_writeBit_5 ?_
  refine lv_aload_n hx hb dX2_writeBit_8 rfl (lv_at hl 0 rfl) ?_
  refine va_get (D := (dC, dI)) (ci := 2) (v := .ref og) (C := RX2) (T := TX2) (N := 8) hx hb hts inGX2 hown hK hP 0 rfl rfl 4 (by decide) (hts _ wd102) (fun _ h9 => h9) rfl dX2_writeBit_9 ?_
  refine va_getN (D := (dC, dI)) (ci := 1) (v := .int u_2tw.1) (C := RX1) (T := TX1) (N := 7) hx hb hts inGX1 hown hK hP 3 rfl rfl 3 (by decide) (hZ.use zw2 rfl) (fun _ h9 => h9) rfl dX2_writeBit_12 ?_
  refine lv_iload_n hx hb dX2_writeBit_15 rfl (lv_at hl 1 rfl) ?_
  have hPc := hP.sub (ws' := [(ow, .inr (0, [.int lf, .ref oaw, .int u_2wr.2])), (oaw, .inl (cIw, 600, .inl u_2wr.1))]) [1, 2] rfl
  have hKc := hK.sub (tys' := [(cIw, .int)]) [0] rfl
  have hDc := hD.sub (ws' := [(ow, .inr (0, [.int lf, .ref oaw, .int u_2wr.2])), (oaw, .inl (cIw, 600, .inl u_2wr.1))]) [1, 2] (by decide) rfl
  have hFc := va_free (wc := [(ow, .inr (0, [.int lf, .ref oaw, .int u_2wr.2])), (oaw, .inl (cIw, 600, .inl u_2wr.1))]) hD hS hA [1, 2] rfl
  refine va_callv (va_runV (As := [.int u_2tw.1, .int p0]) (rest := []) ⟨hx, hb, hml, hown, hts⟩ (mX0_setBit l dC dI cIw ow oaw H.size lf u_2wr u_2tw.1 p0) (cwV 2 hts (gV wd291 wd292 wd293 wd28 wd294) rfl rfl rfl (by decide +kernel) ⟨Nat.le_of_ble_eq_true rfl, Nat.le_of_ble_eq_true rfl⟩) ⟨fb_rw, va_recv hKc hPc (ci := 0) (q0 := 0) rfl rfl, pre_rw hPc hKc hDc hZ⟩ rfl rfl hl.1 rfl (lv_room (Nat.le_of_ble_eq_true rfl)) dX2_writeBit_16 ⟨Nat.le_of_ble_eq_true rfl, Nat.le_of_ble_eq_true rfl⟩) hS (fun q _ h => hFc q h) hFc (fun u_4 t H1 locs ht hvm hw_3 hB hz1 hk1 hS => ?_)
  obtain ⟨hP1, hD1⟩ := hB
  rw [ht] at hP1
  obtain ⟨hP, hD⟩ := va_join (wr := [(ox, .inr (2, [.int st, .int lf, .int ao, .ref ow, .ref og, .ref oc, .ref od, .int bad])), (og, .inr (1, [.ref ow, .int st, .int sib, .int u_2tw.1, .int u_2tw.2.1, .int u_2tw.2.2.1, .int u_2tw.2.2.2])), (oc, .inr (0, [.int lf, .ref oac, .int cr.2])), (oac, .inl (cIc, 600, .inl cr.1)), (od, .inr (1, [.ref oc, .int st, .int sib, .int tr.1, .int tr.2.1, .int tr.2.2.1, .int tr.2.2.2]))]) (w1 := [(ow, .inr (0, [.int lf, .ref oaw, .int u_4.2])), (oaw, .inl (cIw, 600, .inl u_4.1))]) hP hD [1, 2] [0, 3, 4, 5, 6] rfl rfl (by decide) (by decide) hk1 hFc hP1 hD1
  generalize H1 = H at hP hS ⊢
  have hP : va_P (dC, dI) vwCl [(ox, .inr (2, [.int st, .int lf, .int ao, .ref ow, .ref og, .ref oc, .ref od, .int bad])), (og, .inr (1, [.ref ow, .int st, .int sib, .int u_2tw.1, .int u_2tw.2.1, .int u_2tw.2.2.1, .int u_2tw.2.2.2])), (oc, .inr (0, [.int lf, .ref oac, .int cr.2])), (oac, .inl (cIc, 600, .inl cr.1)), (od, .inr (1, [.ref oc, .int st, .int sib, .int tr.1, .int tr.2.1, .int tr.2.2.1, .int tr.2.2.2])), (ow, .inr (0, [.int lf, .ref oaw, .int u_4.2])), (oaw, .inl (cIw, 600, .inl u_4.1))] H := hP
  have hD : va_D A [(ox, .inr (2, [.int st, .int lf, .int ao, .ref ow, .ref og, .ref oc, .ref od, .int bad])), (og, .inr (1, [.ref ow, .int st, .int sib, .int u_2tw.1, .int u_2tw.2.1, .int u_2tw.2.2.1, .int u_2tw.2.2.2])), (oc, .inr (0, [.int lf, .ref oac, .int cr.2])), (oac, .inl (cIc, 600, .inl cr.1)), (od, .inr (1, [.ref oc, .int st, .int sib, .int tr.1, .int tr.2.1, .int tr.2.2.1, .int tr.2.2.2])), (ow, .inr (0, [.int lf, .ref oaw, .int u_4.2])), (oaw, .inl (cIw, 600, .inl u_4.1))] := hD
  refine lv_aload_n hx hb dX2_writeBit_19 rfl (lv_at hl 0 rfl) ?_
  refine va_get (D := (dC, dI)) (ci := 2) (v := .ref og) (C := RX2) (T := TX2) (N := 8) hx hb hts inGX2 hown hK hP 0 rfl rfl 4 (by decide) (hts _ wd102) (fun _ h9 => h9) rfl dX2_writeBit_20 ?_
  refine lv_iload_n hx hb dX2_writeBit_23 rfl (lv_at hl 1 rfl) ?_
  have hPc := hP.sub (ws' := [(og, .inr (1, [.ref ow, .int st, .int sib, .int u_2tw.1, .int u_2tw.2.1, .int u_2tw.2.2.1, .int u_2tw.2.2.2])), (ow, .inr (0, [.int lf, .ref oaw, .int u_4.2])), (oaw, .inl (cIw, 600, .inl u_4.1))]) [1, 5, 6] rfl
  have hKc := hK.sub (tys' := [(cIw, .int)]) [0] rfl
  have hDc := hD.sub (ws' := [(og, .inr (1, [.ref ow, .int st, .int sib, .int u_2tw.1, .int u_2tw.2.1, .int u_2tw.2.2.1, .int u_2tw.2.2.2])), (ow, .inr (0, [.int lf, .ref oaw, .int u_4.2])), (oaw, .inl (cIw, 600, .inl u_4.1))]) [1, 5, 6] (by decide) rfl
  have hFc := va_free (wc := [(og, .inr (1, [.ref ow, .int st, .int sib, .int u_2tw.1, .int u_2tw.2.1, .int u_2tw.2.2.1, .int u_2tw.2.2.2])), (ow, .inr (0, [.int lf, .ref oaw, .int u_4.2])), (oaw, .inl (cIw, 600, .inl u_4.1))]) hD hS hA [1, 5, 6] rfl
  refine va_callv (va_runV (As := [.int p0]) (rest := []) ⟨hx, hb, hml, hown, hts⟩ (mX1_stepOver l dC dI cIw og ow oaw H.size st sib lf u_2tw u_4 p0) (cwV 1 hts (gV wd158 wd159 wd160 wd29 wd161) rfl rfl rfl (by decide +kernel) ⟨Nat.le_of_ble_eq_true rfl, Nat.le_of_ble_eq_true rfl⟩) ⟨fb_rw, va_recv hKc hPc (ci := 1) (q0 := 0) rfl rfl, pre_rw hPc hKc hDc hZ⟩ rfl rfl hl.1 rfl (lv_room (Nat.le_of_ble_eq_true rfl)) dX2_writeBit_24 ⟨Nat.le_of_ble_eq_true rfl, Nat.le_of_ble_eq_true rfl⟩) hS (fun q _ h => hFc q h) hFc (fun u_6 t H1 locs ht hvm hw_5 hB hz1 hk1 hS => ?_)
  obtain ⟨hP1, hD1⟩ := hB
  rw [ht] at hP1
  obtain ⟨hP, hD⟩ := va_join (wr := [(ox, .inr (2, [.int st, .int lf, .int ao, .ref ow, .ref og, .ref oc, .ref od, .int bad])), (oc, .inr (0, [.int lf, .ref oac, .int cr.2])), (oac, .inl (cIc, 600, .inl cr.1)), (od, .inr (1, [.ref oc, .int st, .int sib, .int tr.1, .int tr.2.1, .int tr.2.2.1, .int tr.2.2.2]))]) (w1 := [(og, .inr (1, [.ref ow, .int st, .int sib, .int u_6.1, .int u_6.2.1, .int u_6.2.2.1, .int u_6.2.2.2])), (ow, .inr (0, [.int lf, .ref oaw, .int u_4.2])), (oaw, .inl (cIw, 600, .inl u_4.1))]) hP hD [1, 5, 6] [0, 2, 3, 4] rfl rfl (by decide) (by decide) hk1 hFc hP1 hD1
  generalize H1 = H at hP hS ⊢
  have hP : va_P (dC, dI) vwCl [(ox, .inr (2, [.int st, .int lf, .int ao, .ref ow, .ref og, .ref oc, .ref od, .int bad])), (oc, .inr (0, [.int lf, .ref oac, .int cr.2])), (oac, .inl (cIc, 600, .inl cr.1)), (od, .inr (1, [.ref oc, .int st, .int sib, .int tr.1, .int tr.2.1, .int tr.2.2.1, .int tr.2.2.2])), (og, .inr (1, [.ref ow, .int st, .int sib, .int u_6.1, .int u_6.2.1, .int u_6.2.2.1, .int u_6.2.2.2])), (ow, .inr (0, [.int lf, .ref oaw, .int u_4.2])), (oaw, .inl (cIw, 600, .inl u_4.1))] H := hP
  have hD : va_D A [(ox, .inr (2, [.int st, .int lf, .int ao, .ref ow, .ref og, .ref oc, .ref od, .int bad])), (oc, .inr (0, [.int lf, .ref oac, .int cr.2])), (oac, .inl (cIc, 600, .inl cr.1)), (od, .inr (1, [.ref oc, .int st, .int sib, .int tr.1, .int tr.2.1, .int tr.2.2.1, .int tr.2.2.2])), (og, .inr (1, [.ref ow, .int st, .int sib, .int u_6.1, .int u_6.2.1, .int u_6.2.2.1, .int u_6.2.2.2])), (ow, .inr (0, [.int lf, .ref oaw, .int u_4.2])), (oaw, .inl (cIw, 600, .inl u_4.1))] := hD
  refine lv_aload_n hx hb dX2_writeBit_27 rfl (lv_at hl 0 rfl) ?_
  refine va_get (D := (dC, dI)) (ci := 2) (v := .int ao) (C := RX2) (T := TX2) (N := 8) hx hb hts inGX2 hown hK hP 0 rfl rfl 2 (by decide) (hts _ wd100) (fun _ h9 => h9) rfl dX2_writeBit_28 ?_
  refine lv_if_eq (tgt := 38) hx hb dX2_writeBit_31 (by decide) (fun c_31 => ?_) (fun c_31 => ?_)
  · have hP9 := hP.sub (ws' := [(ox, .inr (2, [.int st, .int lf, .int ao, .ref ow, .ref og, .ref oc, .ref od, .int bad])), (ow, .inr (0, [.int lf, .ref oaw, .int u_4.2])), (oaw, .inl (cIw, 600, .inl u_4.1)), (og, .inr (1, [.ref ow, .int st, .int sib, .int u_6.1, .int u_6.2.1, .int u_6.2.2.1, .int u_6.2.2.2])), (oc, .inr (0, [.int lf, .ref oac, .int cr.2])), (oac, .inl (cIc, 600, .inl cr.1)), (od, .inr (1, [.ref oc, .int st, .int sib, .int tr.1, .int tr.2.1, .int tr.2.2.1, .int tr.2.2.2]))]) [0, 5, 6, 4, 1, 2, 3] rfl
    have hD9 := hD.sub (ws' := [(ox, .inr (2, [.int st, .int lf, .int ao, .ref ow, .ref og, .ref oc, .ref od, .int bad])), (ow, .inr (0, [.int lf, .ref oaw, .int u_4.2])), (oaw, .inl (cIw, 600, .inl u_4.1)), (og, .inr (1, [.ref ow, .int st, .int sib, .int u_6.1, .int u_6.2.1, .int u_6.2.2.1, .int u_6.2.2.2])), (oc, .inr (0, [.int lf, .ref oac, .int cr.2])), (oac, .inl (cIc, 600, .inl cr.1)), (od, .inr (1, [.ref oc, .int st, .int sib, .int tr.1, .int tr.2.1, .int tr.2.2.1, .int tr.2.2.2]))]) [0, 5, 6, 4, 1, 2, 3] (by decide) rfl
    exact W.vret hx hb hr (fun t ht hW => ⟨⟨(u_4, u_6), rfl, (plX2_writeBit_0 st lf ao sib wr tw cr tr bad p0 _ _ hw_1 _ hw_3 _ hw_5 c_31), by rw [ht]; exact hP9, hD9⟩, hS.F ht⟩) hS.2.2 dX2_writeBit_38
  · refine lv_aload_n hx hb dX2_writeBit_34 rfl (lv_at hl 0 rfl) ?_
    have hPc := hP.sub (ws' := [(ox, .inr (2, [.int st, .int lf, .int ao, .ref ow, .ref og, .ref oc, .ref od, .int bad])), (ow, .inr (0, [.int lf, .ref oaw, .int u_4.2])), (oaw, .inl (cIw, 600, .inl u_4.1)), (og, .inr (1, [.ref ow, .int st, .int sib, .int u_6.1, .int u_6.2.1, .int u_6.2.2.1, .int u_6.2.2.2])), (oc, .inr (0, [.int lf, .ref oac, .int cr.2])), (oac, .inl (cIc, 600, .inl cr.1)), (od, .inr (1, [.ref oc, .int st, .int sib, .int tr.1, .int tr.2.1, .int tr.2.2.1, .int tr.2.2.2]))]) [0, 5, 6, 4, 1, 2, 3] rfl
    have hKc := hK.sub (tys' := [(cIw, .int), (cIc, .int)]) [0, 1] rfl
    have hDc := hD.sub (ws' := [(ox, .inr (2, [.int st, .int lf, .int ao, .ref ow, .ref og, .ref oc, .ref od, .int bad])), (ow, .inr (0, [.int lf, .ref oaw, .int u_4.2])), (oaw, .inl (cIw, 600, .inl u_4.1)), (og, .inr (1, [.ref ow, .int st, .int sib, .int u_6.1, .int u_6.2.1, .int u_6.2.2.1, .int u_6.2.2.2])), (oc, .inr (0, [.int lf, .ref oac, .int cr.2])), (oac, .inl (cIc, 600, .inl cr.1)), (od, .inr (1, [.ref oc, .int st, .int sib, .int tr.1, .int tr.2.1, .int tr.2.2.1, .int tr.2.2.2]))]) [0, 5, 6, 4, 1, 2, 3] (by decide) rfl
    have hFc := va_free (wc := [(ox, .inr (2, [.int st, .int lf, .int ao, .ref ow, .ref og, .ref oc, .ref od, .int bad])), (ow, .inr (0, [.int lf, .ref oaw, .int u_4.2])), (oaw, .inl (cIw, 600, .inl u_4.1)), (og, .inr (1, [.ref ow, .int st, .int sib, .int u_6.1, .int u_6.2.1, .int u_6.2.2.1, .int u_6.2.2.2])), (oc, .inr (0, [.int lf, .ref oac, .int cr.2])), (oac, .inl (cIc, 600, .inl cr.1)), (od, .inr (1, [.ref oc, .int st, .int sib, .int tr.1, .int tr.2.1, .int tr.2.2.1, .int tr.2.2.2]))]) hD hS hA [0, 5, 6, 4, 1, 2, 3] rfl
    refine va_callv (va_runV (As := []) (rest := []) ⟨hx, hb, hml, hown, hts⟩ (mX2_writeStuffedIfDue l dC dI cIw cIc ox ow oaw og oc oac od H.size st lf ao sib u_4 u_6 cr tr bad) (cwV 0 hts (gV wd288 wd289 wd3 wd26 wd290) rfl rfl rfl (by decide +kernel) ⟨Nat.le_of_ble_eq_true rfl, Nat.le_of_ble_eq_true rfl⟩) ⟨fb_rw, va_recv hKc hPc (ci := 2) (q0 := 0) rfl rfl, pre_rw hPc hKc hDc hZ⟩ rfl rfl hl.1 rfl (lv_room (Nat.le_of_ble_eq_true rfl)) dX2_writeBit_35 ⟨Nat.le_of_ble_eq_true rfl, Nat.le_of_ble_eq_true rfl⟩) hS (fun q _ h => hFc q h) hFc (fun u_8 t H1 locs ht hvm hw_7 hB hz1 hk1 hS => ?_)
    obtain ⟨u_8wr, u_8tw⟩ := u_8
    obtain ⟨hP1, hD1⟩ := hB
    rw [ht] at hP1
    obtain ⟨hP, hD⟩ := va_join (wr := []) (w1 := [(ox, .inr (2, [.int st, .int lf, .int ao, .ref ow, .ref og, .ref oc, .ref od, .int bad])), (ow, .inr (0, [.int lf, .ref oaw, .int u_8wr.2])), (oaw, .inl (cIw, 600, .inl u_8wr.1)), (og, .inr (1, [.ref ow, .int st, .int sib, .int u_8tw.1, .int u_8tw.2.1, .int u_8tw.2.2.1, .int u_8tw.2.2.2])), (oc, .inr (0, [.int lf, .ref oac, .int cr.2])), (oac, .inl (cIc, 600, .inl cr.1)), (od, .inr (1, [.ref oc, .int st, .int sib, .int tr.1, .int tr.2.1, .int tr.2.2.1, .int tr.2.2.2]))]) hP hD [0, 5, 6, 4, 1, 2, 3] [] rfl rfl (by decide) (by decide) hk1 hFc hP1 hD1
    generalize H1 = H at hP hS ⊢
    have hP : va_P (dC, dI) vwCl [(ox, .inr (2, [.int st, .int lf, .int ao, .ref ow, .ref og, .ref oc, .ref od, .int bad])), (ow, .inr (0, [.int lf, .ref oaw, .int u_8wr.2])), (oaw, .inl (cIw, 600, .inl u_8wr.1)), (og, .inr (1, [.ref ow, .int st, .int sib, .int u_8tw.1, .int u_8tw.2.1, .int u_8tw.2.2.1, .int u_8tw.2.2.2])), (oc, .inr (0, [.int lf, .ref oac, .int cr.2])), (oac, .inl (cIc, 600, .inl cr.1)), (od, .inr (1, [.ref oc, .int st, .int sib, .int tr.1, .int tr.2.1, .int tr.2.2.1, .int tr.2.2.2]))] H := hP
    have hD : va_D A [(ox, .inr (2, [.int st, .int lf, .int ao, .ref ow, .ref og, .ref oc, .ref od, .int bad])), (ow, .inr (0, [.int lf, .ref oaw, .int u_8wr.2])), (oaw, .inl (cIw, 600, .inl u_8wr.1)), (og, .inr (1, [.ref ow, .int st, .int sib, .int u_8tw.1, .int u_8tw.2.1, .int u_8tw.2.2.1, .int u_8tw.2.2.2])), (oc, .inr (0, [.int lf, .ref oac, .int cr.2])), (oac, .inl (cIc, 600, .inl cr.1)), (od, .inr (1, [.ref oc, .int st, .int sib, .int tr.1, .int tr.2.1, .int tr.2.2.1, .int tr.2.2.2]))] := hD
    have hP9 := hP.sub (ws' := [(ox, .inr (2, [.int st, .int lf, .int ao, .ref ow, .ref og, .ref oc, .ref od, .int bad])), (ow, .inr (0, [.int lf, .ref oaw, .int u_8wr.2])), (oaw, .inl (cIw, 600, .inl u_8wr.1)), (og, .inr (1, [.ref ow, .int st, .int sib, .int u_8tw.1, .int u_8tw.2.1, .int u_8tw.2.2.1, .int u_8tw.2.2.2])), (oc, .inr (0, [.int lf, .ref oac, .int cr.2])), (oac, .inl (cIc, 600, .inl cr.1)), (od, .inr (1, [.ref oc, .int st, .int sib, .int tr.1, .int tr.2.1, .int tr.2.2.1, .int tr.2.2.2]))]) [0, 1, 2, 3, 4, 5, 6] rfl
    have hD9 := hD.sub (ws' := [(ox, .inr (2, [.int st, .int lf, .int ao, .ref ow, .ref og, .ref oc, .ref od, .int bad])), (ow, .inr (0, [.int lf, .ref oaw, .int u_8wr.2])), (oaw, .inl (cIw, 600, .inl u_8wr.1)), (og, .inr (1, [.ref ow, .int st, .int sib, .int u_8tw.1, .int u_8tw.2.1, .int u_8tw.2.2.1, .int u_8tw.2.2.2])), (oc, .inr (0, [.int lf, .ref oac, .int cr.2])), (oac, .inl (cIc, 600, .inl cr.1)), (od, .inr (1, [.ref oc, .int st, .int sib, .int tr.1, .int tr.2.1, .int tr.2.2.1, .int tr.2.2.2]))]) [0, 1, 2, 3, 4, 5, 6] (by decide) rfl
    exact W.vret hx hb hr (fun t ht hW => ⟨⟨(u_8wr, u_8tw), rfl, (plX2_writeBit_1 st lf ao sib wr tw cr tr bad p0 _ _ hw_1 _ hw_3 _ hw_5 c_31 _ _ hw_7), by rw [ht]; exact hP9, hD9⟩, hS.F ht⟩) hS.2.2 dX2_writeBit_38
def LX2_writeTillAligned_4 (st : Int32) (lf : Int32) (ao : Int32) (sib : Int32) : Nat → Rw → Tk → Rw → Tk → Int32 → Int32 → Int32 → Int32 × Rw × Tk
  | 0, wr, tw, cr, tr, bad, zr, i => (0, (wr, tw))
  | n + 1, wr, tw, cr, tr, bad, zr, i =>
    if 16 ≤ i then
      (zr, (wr, tw))
    else
      let r_1 := FX1_isAligned st sib lf tw wr
      if r_1 = 0 then
        let zhw_3 := FX2_writeBit st lf ao sib wr tw cr tr bad 0
        let u_4wr := zhw_3.1
        let u_4tw := zhw_3.2
        let i_5 := zr + 1
        let i_6 := i + 1
        LX2_writeTillAligned_4 st lf ao sib n u_4wr u_4tw cr tr bad i_5 i_6
      else
        (zr, (wr, tw))
def FX2_writeTillAligned (st : Int32) (lf : Int32) (ao : Int32) (sib : Int32) (wr : Rw) (tw : Tk) (cr : Rw) (tr : Tk) (bad : Int32) : Int32 × Rw × Tk :=
  LX2_writeTillAligned_4 st lf ao sib 17 wr tw cr tr bad 0 0
set_option maxRecDepth 100000 in
theorem plX2_writeTillAligned_l4_0 (st : Int32) (lf : Int32) (ao : Int32) (sib : Int32) (n : Nat) (wr : Rw) (tw : Tk) (cr : Rw) (tr : Tk) (bad : Int32) (zr : Int32) (i : Int32) (c_7 : 16 ≤ i) : (zr, (wr, tw)) = LX2_writeTillAligned_4 st lf ao sib (n + 1) wr tw cr tr bad zr i := by
  exact (if_pos c_7).symm
set_option maxRecDepth 100000 in
theorem plX2_writeTillAligned_l4_1 (st : Int32) (lf : Int32) (ao : Int32) (sib : Int32) (n : Nat) (wr : Rw) (tw : Tk) (cr : Rw) (tr : Tk) (bad : Int32) (zr : Int32) (i : Int32) (c_7 : ¬ (16 ≤ i)) (r_1 : Int32) (hw_2 : r_1 = FX1_isAligned st sib lf tw wr) (c_17 : ¬ (r_1 = 0)) : (zr, (wr, tw)) = LX2_writeTillAligned_4 st lf ao sib (n + 1) wr tw cr tr bad zr i := by
  subst hw_2
  exact ((if_neg c_7).trans (if_neg c_17)).symm
set_option maxRecDepth 100000 in
theorem plX2_writeTillAligned_l4_2 (st : Int32) (lf : Int32) (ao : Int32) (sib : Int32) (n : Nat) (wr : Rw) (tw : Tk) (cr : Rw) (tr : Tk) (bad : Int32) (zr : Int32) (i : Int32) (c_7 : ¬ (16 ≤ i)) (r_1 : Int32) (hw_2 : r_1 = FX1_isAligned st sib lf tw wr) (c_17 : r_1 = 0) (u_4wr : Rw) (u_4tw : Tk) (hw_3 : (u_4wr, u_4tw) = FX2_writeBit st lf ao sib wr tw cr tr bad 0) (i_5 : Int32) (ei_5 : i_5 = zr + 1) (i_6 : Int32) (ei_6 : i_6 = i + 1) : LX2_writeTillAligned_4 st lf ao sib n u_4wr u_4tw cr tr bad i_5 i_6 = LX2_writeTillAligned_4 st lf ao sib (n + 1) wr tw cr tr bad zr i := by
  subst hw_2
  have q0 := congrArg (fun z => z.1) hw_3
  have q1 := congrArg (fun z => z.2) hw_3
  dsimp only at q0 q1
  subst q0
  subst q1
  clear hw_3
  subst ei_5
  subst ei_6
  exact ((if_neg c_7).trans (if_pos c_17)).symm
set_option maxRecDepth 100000 in
theorem plX2_writeTillAligned_0 (st : Int32) (lf : Int32) (ao : Int32) (sib : Int32) (wr : Rw) (tw : Tk) (cr : Rw) (tr : Tk) (bad : Int32)  : LX2_writeTillAligned_4 st lf ao sib 17 wr tw cr tr bad 0 0 = FX2_writeTillAligned st lf ao sib wr tw cr tr bad := by
  exact rfl
set_option maxHeartbeats 4000000 in
set_option maxRecDepth 100000 in
theorem kX2_writeTillAligned_4 {p : Program} {l : Launch} {e : Env} {s : State} {m : MethodId} {args : Array Value} {below : List Frame} {meth : Method} {c : Code} {dC : Nat → ClassId} {dI : Nat → Nat → Nat} {cIw cIc : ClassId} {ox ow oaw og oc oac od : Nat} {st : Int32} {lf : Int32} {ao : Int32} {sib : Int32} {z : Int32 × Rw × Tk} {A : Nat → Prop} (hx : p.tables.exec = Jvm.exec) (hb : c.code = cX2_writeTillAligned) (hr : meth.sig.returnType = (some .int)) (hml : c.maxLocals = 3) (hown : s.vm.findClass RX2 = some m.cls) (hts : ∀ w ∈ G, w.before args s = true) (hlocks : meth.locks = false) (hA : ∀ q : Nat, s.heap.size ≤ q → A q) (hZ : zOk s) (hK : va_K (dC, dI) vwCl [(cIw, .int), (cIc, .int)] s) : ∀ (n : Nat) (wr : Rw) (tw : Tk) (cr : Rw) (tr : Tk) (bad : Int32) (zr : Int32) (i : Int32), fuel n i 16 → LX2_writeTillAligned_4 st lf ao sib n wr tw cr tr bad zr i = z → ∀ (H : Heap) (locs : List Loc), va_P (dC, dI) vwCl [(ox, .inr (2, [.int st, .int lf, .int ao, .ref ow, .ref og, .ref oc, .ref od, .int bad])), (ow, .inr (0, [.int lf, .ref oaw, .int wr.2])), (oaw, .inl (cIw, 600, .inl wr.1)), (og, .inr (1, [.ref ow, .int st, .int sib, .int tw.1, .int tw.2.1, .int tw.2.2.1, .int tw.2.2.2])), (oc, .inr (0, [.int lf, .ref oac, .int cr.2])), (oac, .inl (cIc, 600, .inl cr.1)), (od, .inr (1, [.ref oc, .int st, .int sib, .int tr.1, .int tr.2.1, .int tr.2.2.1, .int tr.2.2.2]))] H → va_D A [(ox, .inr (2, [.int st, .int lf, .int ao, .ref ow, .ref og, .ref oc, .ref od, .int bad])), (ow, .inr (0, [.int lf, .ref oaw, .int wr.2])), (oaw, .inl (cIw, 600, .inl wr.1)), (og, .inr (1, [.ref ow, .int st, .int sib, .int tw.1, .int tw.2.1, .int tw.2.2.1, .int tw.2.2.2])), (oc, .inr (0, [.int lf, .ref oac, .int cr.2])), (oac, .inl (cIc, 600, .inl cr.1)), (od, .inr (1, [.ref oc, .int st, .int sib, .int tr.1, .int tr.2.1, .int tr.2.2.1, .int tr.2.2.2]))] → va_S A s.heap H locs → ∀ (ls : Array Slot), lv_has ls 3 [(0, .ref ox), (1, .int zr), (2, .int i)] → W p l e (headSpec (Cond.code yX2_writeTillAligned cX2_writeTillAligned 3 (some .int) :: G) ({ frames := 5, cells := 0, slots := 0, locals := 103 } : Room)).room s m args below meth c H locs 0 0 (MQ below (va_Qi (fun (r : Int32) (u : Rw × Tk) => (r, u) = z) (fun (u : Rw × Tk) t => va_P (dC, dI) vwCl [(ox, .inr (2, [.int st, .int lf, .int ao, .ref ow, .ref og, .ref oc, .ref od, .int bad])), (ow, .inr (0, [.int lf, .ref oaw, .int u.1.2])), (oaw, .inl (cIw, 600, .inl u.1.1)), (og, .inr (1, [.ref ow, .int st, .int sib, .int u.2.1, .int u.2.2.1, .int u.2.2.2.1, .int u.2.2.2.2])), (oc, .inr (0, [.int lf, .ref oac, .int cr.2])), (oac, .inl (cIc, 600, .inl cr.1)), (od, .inr (1, [.ref oc, .int st, .int sib, .int tr.1, .int tr.2.1, .int tr.2.2.1, .int tr.2.2.2]))] t.heap ∧ va_D A [(ox, .inr (2, [.int st, .int lf, .int ao, .ref ow, .ref og, .ref oc, .ref od, .int bad])), (ow, .inr (0, [.int lf, .ref oaw, .int u.1.2])), (oaw, .inl (cIw, 600, .inl u.1.1)), (og, .inr (1, [.ref ow, .int st, .int sib, .int u.2.1, .int u.2.2.1, .int u.2.2.2.1, .int u.2.2.2.2])), (oc, .inr (0, [.int lf, .ref oac, .int cr.2])), (oac, .inl (cIc, 600, .inl cr.1)), (od, .inr (1, [.ref oc, .int st, .int sib, .int tr.1, .int tr.2.1, .int tr.2.2.1, .int tr.2.2.2]))]) A) args s 0 0 A) (F0 m 4 ls []) := by
  intro n
  induction n with
  | zero =>
    intro wr tw cr tr bad zr i hf hz
    exact absurd hf.1 (Nat.lt_irrefl 0)
  | succ n ih =>
    intro wr tw cr tr bad zr i hf hz H locs hP hD hS ls hl
    refine lv_iload_n hx hb dX2_writeTillAligned_4 rfl (lv_at hl 2 rfl) ?_
    refine lv_bipush (v := 16) hx hb dX2_writeTillAligned_5 (by decide) ?_
    refine lv_icmp_ge (tgt := 34) hx hb dX2_writeTillAligned_7 (by decide) (fun c_7 => ?_) (fun c_7 => ?_)
    · refine lv_iload_n hx hb dX2_writeTillAligned_34 rfl (lv_at hl 1 rfl) ?_
      have hP9 := hP.sub (ws' := [(ox, .inr (2, [.int st, .int lf, .int ao, .ref ow, .ref og, .ref oc, .ref od, .int bad])), (ow, .inr (0, [.int lf, .ref oaw, .int wr.2])), (oaw, .inl (cIw, 600, .inl wr.1)), (og, .inr (1, [.ref ow, .int st, .int sib, .int tw.1, .int tw.2.1, .int tw.2.2.1, .int tw.2.2.2])), (oc, .inr (0, [.int lf, .ref oac, .int cr.2])), (oac, .inl (cIc, 600, .inl cr.1)), (od, .inr (1, [.ref oc, .int st, .int sib, .int tr.1, .int tr.2.1, .int tr.2.2.1, .int tr.2.2.2]))]) [0, 1, 2, 3, 4, 5, 6] rfl
      have hD9 := hD.sub (ws' := [(ox, .inr (2, [.int st, .int lf, .int ao, .ref ow, .ref og, .ref oc, .ref od, .int bad])), (ow, .inr (0, [.int lf, .ref oaw, .int wr.2])), (oaw, .inl (cIw, 600, .inl wr.1)), (og, .inr (1, [.ref ow, .int st, .int sib, .int tw.1, .int tw.2.1, .int tw.2.2.1, .int tw.2.2.2])), (oc, .inr (0, [.int lf, .ref oac, .int cr.2])), (oac, .inl (cIc, 600, .inl cr.1)), (od, .inr (1, [.ref oc, .int st, .int sib, .int tr.1, .int tr.2.1, .int tr.2.2.1, .int tr.2.2.2]))]) [0, 1, 2, 3, 4, 5, 6] (by decide) rfl
      exact W.iret (v := zr) hx hb hr (fun t ht hW => ⟨⟨zr, (wr, tw), rfl, ((plX2_writeTillAligned_l4_0 st lf ao sib n wr tw cr tr bad zr i c_7).trans hz), by rw [ht]; exact hP9, hD9⟩, hS.F ht⟩) hS.2.2 dX2_writeTillAligned_35
    · refine lv_aload_n hx hb dX2_writeTillAligned_10 rfl (lv_at hl 0 rfl) ?_
      refine va_get (D := (dC, dI)) (ci := 2) (v := .ref og) (C := RX2) (T := TX2) (N := 8) hx hb hts inGX2 hown hK hP 0 rfl rfl 4 (by decide) (hts _ wd102) (fun _ h9 => h9) rfl dX2_writeTillAligned_11 ?_
      have hPc := hP.sub (ws' := [(og, .inr (1, [.ref ow, .int st, .int sib, .int tw.1, .int tw.2.1, .int tw.2.2.1, .int tw.2.2.2])), (ow, .inr (0, [.int lf, .ref oaw, .int wr.2])), (oaw, .inl (cIw, 600, .inl wr.1))]) [3, 1, 2] rfl
      have hKc := hK.sub (tys' := [(cIw, .int)]) [0] rfl
      refine vp_callSi (va_Run.run (va_runV (As := []) (rest := []) ⟨hx, hb, hml, hown, hts⟩ (mX1_isAligned l dC dI cIw og ow oaw st sib lf tw wr) (cwV 0 hts (gV wd127 wd128 wd129 wd29 wd130) rfl rfl rfl (by decide +kernel) ⟨Nat.le_of_ble_eq_true rfl, Nat.le_of_ble_eq_true rfl⟩) ⟨fb_ro, va_recv hKc hPc (ci := 1) (q0 := 0) rfl rfl, pre_ro hPc hKc hZ⟩ rfl rfl hl.1 rfl (lv_room (Nat.le_of_ble_eq_true rfl)) dX2_writeTillAligned_14 ⟨Nat.le_of_ble_eq_true rfl, Nat.le_of_ble_eq_true rfl⟩)) (fun r_1 hw_2 => ?_)
      refine lv_if_ne (tgt := 34) hx hb dX2_writeTillAligned_17 (by decide) (fun c_17 => ?_) (fun c_17 => ?_)
      · refine lv_iload_n hx hb dX2_writeTillAligned_34 rfl (lv_at hl 1 rfl) ?_
        have hP9 := hP.sub (ws' := [(ox, .inr (2, [.int st, .int lf, .int ao, .ref ow, .ref og, .ref oc, .ref od, .int bad])), (ow, .inr (0, [.int lf, .ref oaw, .int wr.2])), (oaw, .inl (cIw, 600, .inl wr.1)), (og, .inr (1, [.ref ow, .int st, .int sib, .int tw.1, .int tw.2.1, .int tw.2.2.1, .int tw.2.2.2])), (oc, .inr (0, [.int lf, .ref oac, .int cr.2])), (oac, .inl (cIc, 600, .inl cr.1)), (od, .inr (1, [.ref oc, .int st, .int sib, .int tr.1, .int tr.2.1, .int tr.2.2.1, .int tr.2.2.2]))]) [0, 1, 2, 3, 4, 5, 6] rfl
        have hD9 := hD.sub (ws' := [(ox, .inr (2, [.int st, .int lf, .int ao, .ref ow, .ref og, .ref oc, .ref od, .int bad])), (ow, .inr (0, [.int lf, .ref oaw, .int wr.2])), (oaw, .inl (cIw, 600, .inl wr.1)), (og, .inr (1, [.ref ow, .int st, .int sib, .int tw.1, .int tw.2.1, .int tw.2.2.1, .int tw.2.2.2])), (oc, .inr (0, [.int lf, .ref oac, .int cr.2])), (oac, .inl (cIc, 600, .inl cr.1)), (od, .inr (1, [.ref oc, .int st, .int sib, .int tr.1, .int tr.2.1, .int tr.2.2.1, .int tr.2.2.2]))]) [0, 1, 2, 3, 4, 5, 6] (by decide) rfl
        exact W.iret (v := zr) hx hb hr (fun t ht hW => ⟨⟨zr, (wr, tw), rfl, ((plX2_writeTillAligned_l4_1 st lf ao sib n wr tw cr tr bad zr i c_7 _ hw_2 c_17).trans hz), by rw [ht]; exact hP9, hD9⟩, hS.F ht⟩) hS.2.2 dX2_writeTillAligned_35
      · refine lv_aload_n hx hb dX2_writeTillAligned_20 rfl (lv_at hl 0 rfl) ?_
        refine lv_iconst (v := 0) hx hb dX2_writeTillAligned_21 (by decide) ?_
        have hPc := hP.sub (ws' := [(ox, .inr (2, [.int st, .int lf, .int ao, .ref ow, .ref og, .ref oc, .ref od, .int bad])), (ow, .inr (0, [.int lf, .ref oaw, .int wr.2])), (oaw, .inl (cIw, 600, .inl wr.1)), (og, .inr (1, [.ref ow, .int st, .int sib, .int tw.1, .int tw.2.1, .int tw.2.2.1, .int tw.2.2.2])), (oc, .inr (0, [.int lf, .ref oac, .int cr.2])), (oac, .inl (cIc, 600, .inl cr.1)), (od, .inr (1, [.ref oc, .int st, .int sib, .int tr.1, .int tr.2.1, .int tr.2.2.1, .int tr.2.2.2]))]) [0, 1, 2, 3, 4, 5, 6] rfl
        have hKc := hK.sub (tys' := [(cIw, .int), (cIc, .int)]) [0, 1] rfl
        have hDc := hD.sub (ws' := [(ox, .inr (2, [.int st, .int lf, .int ao, .ref ow, .ref og, .ref oc, .ref od, .int bad])), (ow, .inr (0, [.int lf, .ref oaw, .int wr.2])), (oaw, .inl (cIw, 600, .inl wr.1)), (og, .inr (1, [.ref ow, .int st, .int sib, .int tw.1, .int tw.2.1, .int tw.2.2.1, .int tw.2.2.2])), (oc, .inr (0, [.int lf, .ref oac, .int cr.2])), (oac, .inl (cIc, 600, .inl cr.1)), (od, .inr (1, [.ref oc, .int st, .int sib, .int tr.1, .int tr.2.1, .int tr.2.2.1, .int tr.2.2.2]))]) [0, 1, 2, 3, 4, 5, 6] (by decide) rfl
        have hFc := va_free (wc := [(ox, .inr (2, [.int st, .int lf, .int ao, .ref ow, .ref og, .ref oc, .ref od, .int bad])), (ow, .inr (0, [.int lf, .ref oaw, .int wr.2])), (oaw, .inl (cIw, 600, .inl wr.1)), (og, .inr (1, [.ref ow, .int st, .int sib, .int tw.1, .int tw.2.1, .int tw.2.2.1, .int tw.2.2.2])), (oc, .inr (0, [.int lf, .ref oac, .int cr.2])), (oac, .inl (cIc, 600, .inl cr.1)), (od, .inr (1, [.ref oc, .int st, .int sib, .int tr.1, .int tr.2.1, .int tr.2.2.1, .int tr.2.2.2]))]) hD hS hA [0, 1, 2, 3, 4, 5, 6] rfl
        refine va_callv (va_runV (As := [.int 0]) (rest := []) ⟨hx, hb, hml, hown, hts⟩ (mX2_writeBit l dC dI cIw cIc ox ow oaw og oc oac od H.size st lf ao sib wr tw cr tr bad 0) (cwV 1 hts (gV wd299 wd300 wd5 wd26 wd301) rfl rfl rfl (by decide +kernel) ⟨Nat.le_of_ble_eq_true rfl, Nat.le_of_ble_eq_true rfl⟩) ⟨fb_rw, va_recv hKc hPc (ci := 2) (q0 := 0) rfl rfl, pre_rw hPc hKc hDc hZ⟩ rfl rfl hl.1 rfl (lv_room (Nat.le_of_ble_eq_true rfl)) dX2_writeTillAligned_22 ⟨Nat.le_of_ble_eq_true rfl, Nat.le_of_ble_eq_true rfl⟩) hS (fun q _ h => hFc q h) hFc (fun u_4 t H1 locs ht hvm hw_3 hB hz1 hk1 hS => ?_)
        obtain ⟨u_4wr, u_4tw⟩ := u_4
        obtain ⟨hP1, hD1⟩ := hB
        rw [ht] at hP1
        obtain ⟨hP, hD⟩ := va_join (wr := []) (w1 := [(ox, .inr (2, [.int st, .int lf, .int ao, .ref ow, .ref og, .ref oc, .ref od, .int bad])), (ow, .inr (0, [.int lf, .ref oaw, .int u_4wr.2])), (oaw, .inl (cIw, 600, .inl u_4wr.1)), (og, .inr (1, [.ref ow, .int st, .int sib, .int u_4tw.1, .int u_4tw.2.1, .int u_4tw.2.2.1, .int u_4tw.2.2.2])), (oc, .inr (0, [.int lf, .ref oac, .int cr.2])), (oac, .inl (cIc, 600, .inl cr.1)), (od, .inr (1, [.ref oc, .int st, .int sib, .int tr.1, .int tr.2.1, .int tr.2.2.1, .int tr.2.2.2]))]) hP hD [0, 1, 2, 3, 4, 5, 6] [] rfl rfl (by decide) (by decide) hk1 hFc hP1 hD1
        generalize H1 = H at hP hS ⊢
        have hP : va_P (dC, dI) vwCl [(ox, .inr (2, [.int st, .int lf, .int ao, .ref ow, .ref og, .ref oc, .ref od, .int bad])), (ow, .inr (0, [.int lf, .ref oaw, .int u_4wr.2])), (oaw, .inl (cIw, 600, .inl u_4wr.1)), (og, .inr (1, [.ref ow, .int st, .int sib, .int u_4tw.1, .int u_4tw.2.1, .int u_4tw.2.2.1, .int u_4tw.2.2.2])), (oc, .inr (0, [.int lf, .ref oac, .int cr.2])), (oac, .inl (cIc, 600, .inl cr.1)), (od, .inr (1, [.ref oc, .int st, .int sib, .int tr.1, .int tr.2.1, .int tr.2.2.1, .int tr.2.2.2]))] H := hP
        have hD : va_D A [(ox, .inr (2, [.int st, .int lf, .int ao, .ref ow, .ref og, .ref oc, .ref od, .int bad])), (ow, .inr (0, [.int lf, .ref oaw, .int u_4wr.2])), (oaw, .inl (cIw, 600, .inl u_4wr.1)), (og, .inr (1, [.ref ow, .int st, .int sib, .int u_4tw.1, .int u_4tw.2.1, .int u_4tw.2.2.1, .int u_4tw.2.2.2])), (oc, .inr (0, [.int lf, .ref oac, .int cr.2])), (oac, .inl (cIc, 600, .inl cr.1)), (od, .inr (1, [.ref oc, .int st, .int sib, .int tr.1, .int tr.2.1, .int tr.2.2.1, .int tr.2.2.2]))] := hD
        obtain ⟨i_5, ei_5⟩ : ∃ y : Int32, y = zr + 1 := ⟨_, rfl⟩
        refine lv_iinc (v := i_5) (lv' := [(1, .int i_5), (0, .ref ox), (2, .int i)]) hx hb dX2_writeTillAligned_25 hl (k := 1) rfl (by rw [ei_5]; rfl) (by decide) rfl (fun ls hl => ?_)
        obtain ⟨i_6, ei_6⟩ : ∃ y : Int32, y = i + 1 := ⟨_, rfl⟩
        refine lv_iinc (v := i_6) (lv' := [(2, .int i_6), (1, .int i_5), (0, .ref ox)]) hx hb dX2_writeTillAligned_28 hl (k := 2) rfl (by rw [ei_6]; rfl) (by decide) rfl (fun ls hl => ?_)
        refine lv_goto (tgt := 4) hx hb dX2_writeTillAligned_31 (by decide) ?_
        exact ih u_4wr u_4tw cr tr bad i_5 i_6 (fuel_step2 hf (nle_lt c_7) (by assumption)) ((plX2_writeTillAligned_l4_2 st lf ao sib n wr tw cr tr bad zr i c_7 _ hw_2 c_17 _ _ hw_3 _ ei_5 _ ei_6).trans hz) _ _ (hP.sub (ws' := [(ox, .inr (2, [.int st, .int lf, .int ao, .ref ow, .ref og, .ref oc, .ref od, .int bad])), (ow, .inr (0, [.int lf, .ref oaw, .int u_4wr.2])), (oaw, .inl (cIw, 600, .inl u_4wr.1)), (og, .inr (1, [.ref ow, .int st, .int sib, .int u_4tw.1, .int u_4tw.2.1, .int u_4tw.2.2.1, .int u_4tw.2.2.2])), (oc, .inr (0, [.int lf, .ref oac, .int cr.2])), (oac, .inl (cIc, 600, .inl cr.1)), (od, .inr (1, [.ref oc, .int st, .int sib, .int tr.1, .int tr.2.1, .int tr.2.2.1, .int tr.2.2.2]))]) [0, 1, 2, 3, 4, 5, 6] rfl) (hD.sub (ws' := [(ox, .inr (2, [.int st, .int lf, .int ao, .ref ow, .ref og, .ref oc, .ref od, .int bad])), (ow, .inr (0, [.int lf, .ref oaw, .int u_4wr.2])), (oaw, .inl (cIw, 600, .inl u_4wr.1)), (og, .inr (1, [.ref ow, .int st, .int sib, .int u_4tw.1, .int u_4tw.2.1, .int u_4tw.2.2.1, .int u_4tw.2.2.2])), (oc, .inr (0, [.int lf, .ref oac, .int cr.2])), (oac, .inl (cIc, 600, .inl cr.1)), (od, .inr (1, [.ref oc, .int st, .int sib, .int tr.1, .int tr.2.1, .int tr.2.2.1, .int tr.2.2.2]))]) [0, 1, 2, 3, 4, 5, 6] (by decide) rfl) hS ls (lv_sub hl [2, 1, 0] rfl)
set_option maxHeartbeats 4000000 in
set_option maxRecDepth 100000 in
theorem mX2_writeTillAligned (l : Launch) (dC : Nat → ClassId) (dI : Nat → Nat → Nat) (cIw cIc : ClassId) (ox ow oaw og oc oac od : Nat) (sz : Nat) (st : Int32) (lf : Int32) (ao : Int32) (sib : Int32) (wr : Rw) (tw : Tk) (cr : Rw) (tr : Tk) (bad : Int32) : Met l yX2_writeTillAligned (Cond.code yX2_writeTillAligned cX2_writeTillAligned 3 (some .int) :: G) ({ frames := 5, cells := 0, slots := 0, locals := 103 } : Room) (va_Pc [.ref ox] (fun U => U.heap.size = sz ∧ va_P (dC, dI) vwCl [(ox, .inr (2, [.int st, .int lf, .int ao, .ref ow, .ref og, .ref oc, .ref od, .int bad])), (ow, .inr (0, [.int lf, .ref oaw, .int wr.2])), (oaw, .inl (cIw, 600, .inl wr.1)), (og, .inr (1, [.ref ow, .int st, .int sib, .int tw.1, .int tw.2.1, .int tw.2.2.1, .int tw.2.2.2])), (oc, .inr (0, [.int lf, .ref oac, .int cr.2])), (oac, .inl (cIc, 600, .inl cr.1)), (od, .inr (1, [.ref oc, .int st, .int sib, .int tr.1, .int tr.2.1, .int tr.2.2.1, .int tr.2.2.2]))] U.heap ∧ va_K (dC, dI) vwCl [(cIw, .int), (cIc, .int)] U ∧ va_D (fun _ => True) [(ox, .inr (2, [.int st, .int lf, .int ao, .ref ow, .ref og, .ref oc, .ref od, .int bad])), (ow, .inr (0, [.int lf, .ref oaw, .int wr.2])), (oaw, .inl (cIw, 600, .inl wr.1)), (og, .inr (1, [.ref ow, .int st, .int sib, .int tw.1, .int tw.2.1, .int tw.2.2.1, .int tw.2.2.2])), (oc, .inr (0, [.int lf, .ref oac, .int cr.2])), (oac, .inl (cIc, 600, .inl cr.1)), (od, .inr (1, [.ref oc, .int st, .int sib, .int tr.1, .int tr.2.1, .int tr.2.2.1, .int tr.2.2.2]))] ∧ zOk U)) (va_Qi (fun (r : Int32) (u : Rw × Tk) => (r, u) = (FX2_writeTillAligned st lf ao sib wr tw cr tr bad)) (fun (u : Rw × Tk) t => va_P (dC, dI) vwCl [(ox, .inr (2, [.int st, .int lf, .int ao, .ref ow, .ref og, .ref oc, .ref od, .int bad])), (ow, .inr (0, [.int lf, .ref oaw, .int u.1.2])), (oaw, .inl (cIw, 600, .inl u.1.1)), (og, .inr (1, [.ref ow, .int st, .int sib, .int u.2.1, .int u.2.2.1, .int u.2.2.2.1, .int u.2.2.2.2])), (oc, .inr (0, [.int lf, .ref oac, .int cr.2])), (oac, .inl (cIc, 600, .inl cr.1)), (od, .inr (1, [.ref oc, .int st, .int sib, .int tr.1, .int tr.2.1, .int tr.2.2.1, .int tr.2.2.2]))] t.heap ∧ va_D (va_A [(ox, .inr (2, [.int st, .int lf, .int ao, .ref ow, .ref og, .ref oc, .ref od, .int bad])), (ow, .inr (0, [.int lf, .ref oaw, .int wr.2])), (oaw, .inl (cIw, 600, .inl wr.1)), (og, .inr (1, [.ref ow, .int st, .int sib, .int tw.1, .int tw.2.1, .int tw.2.2.1, .int tw.2.2.2])), (oc, .inr (0, [.int lf, .ref oac, .int cr.2])), (oac, .inl (cIc, 600, .inl cr.1)), (od, .inr (1, [.ref oc, .int st, .int sib, .int tr.1, .int tr.2.1, .int tr.2.2.1, .int tr.2.2.2]))] sz) [(ox, .inr (2, [.int st, .int lf, .int ao, .ref ow, .ref og, .ref oc, .ref od, .int bad])), (ow, .inr (0, [.int lf, .ref oaw, .int u.1.2])), (oaw, .inl (cIw, 600, .inl u.1.1)), (og, .inr (1, [.ref ow, .int st, .int sib, .int u.2.1, .int u.2.2.1, .int u.2.2.2.1, .int u.2.2.2.2])), (oc, .inr (0, [.int lf, .ref oac, .int cr.2])), (oac, .inl (cIc, 600, .inl cr.1)), (od, .inr (1, [.ref oc, .int st, .int sib, .int tr.1, .int tr.2.1, .int tr.2.2.1, .int tr.2.2.2]))]) (va_A [(ox, .inr (2, [.int st, .int lf, .int ao, .ref ow, .ref og, .ref oc, .ref od, .int bad])), (ow, .inr (0, [.int lf, .ref oaw, .int wr.2])), (oaw, .inl (cIw, 600, .inl wr.1)), (og, .inr (1, [.ref ow, .int st, .int sib, .int tw.1, .int tw.2.1, .int tw.2.2.1, .int tw.2.2.2])), (oc, .inr (0, [.int lf, .ref oac, .int cr.2])), (oac, .inl (cIc, 600, .inl cr.1)), (od, .inr (1, [.ref oc, .int st, .int sib, .int tr.1, .int tr.2.1, .int tr.2.2.1, .int tr.2.2.2]))] sz)) 0 0 (va_A [(ox, .inr (2, [.int st, .int lf, .int ao, .ref ow, .ref og, .ref oc, .ref od, .int bad])), (ow, .inr (0, [.int lf, .ref oaw, .int wr.2])), (oaw, .inl (cIw, 600, .inl wr.1)), (og, .inr (1, [.ref ow, .int st, .int sib, .int tw.1, .int tw.2.1, .int tw.2.2.1, .int tw.2.2.2])), (oc, .inr (0, [.int lf, .ref oac, .int cr.2])), (oac, .inl (cIc, 600, .inl cr.1)), (od, .inr (1, [.ref oc, .int st, .int sib, .int tr.1, .int tr.2.1, .int tr.2.2.1, .int tr.2.2.2]))] sz) := by
  refine Met.ofW (cc := cX2_writeTillAligned) (maxL := 3) (ret := (some .int)) (by decide) rfl ?_
  intro p e s m args below meth c s₁ B hml hv
  obtain ⟨rfl, hsz, hP, hK, hD0, hZ⟩ := hv
  have hx := B.exec
  have hb := B.bytes
  have hr := B.returns
  have hts : ∀ w ∈ G, w.before [.ref ox].toArray s = true := fun w h => atoms_spec (ws := (Cond.code yX2_writeTillAligned cX2_writeTillAligned 3 (some .int) :: G)) B.pre w (List.mem_cons_of_mem _ h)
  have hown : s.vm.findClass RX2 = some m.cls := findClass_of_methodNamed B.named
  have hlocks := B.notSynchronized
  subst hsz
  have hD := hD0.self (sz := s.heap.size)
  generalize hAe : va_A [(ox, .inr (2, [.int st, .int lf, .int ao, .ref ow, .ref og, .ref oc, .ref od, .int bad])), (ow, .inr (0, [.int lf, .ref oaw, .int wr.2])), (oaw, .inl (cIw, 600, .inl wr.1)), (og, .inr (1, [.ref ow, .int st, .int sib, .int tw.1, .int tw.2.1, .int tw.2.2.1, .int tw.2.2.2])), (oc, .inr (0, [.int lf, .ref oac, .int cr.2])), (oac, .inl (cIc, 600, .inl cr.1)), (od, .inr (1, [.ref oc, .int st, .int sib, .int tr.1, .int tr.2.1, .int tr.2.2.1, .int tr.2.2.2]))] s.heap.size = A at hD ⊢
  have hA : ∀ q : Nat, s.heap.size ≤ q → A q := fun q h => by rw [← hAe]; exact Or.inr h
  have hS : va_S A s.heap s.heap [] := va_S.rf
  have hP : va_P (dC, dI) vwCl [(ox, .inr (2, [.int st, .int lf, .int ao, .ref ow, .ref og, .ref oc, .ref od, .int bad])), (ow, .inr (0, [.int lf, .ref oaw, .int wr.2])), (oaw, .inl (cIw, 600, .inl wr.1)), (og, .inr (1, [.ref ow, .int st, .int sib, .int tw.1, .int tw.2.1, .int tw.2.2.1, .int tw.2.2.2])), (oc, .inr (0, [.int lf, .ref oac, .int cr.2])), (oac, .inl (cIc, 600, .inl cr.1)), (od, .inr (1, [.ref oc, .int st, .int sib, .int tr.1, .int tr.2.1, .int tr.2.2.1, .int tr.2.2.2]))] s.heap := hP
  have hl := lv_entry ([.ref ox]) (n := 3) (Nat.le_of_ble_eq_true rfl)
  rw [lg_entry_eq]
  generalize (lg_sl ([.ref ox]) ++ List.replicate (3 - (lg_sl ([.ref ox])).length) Slot.unset).toArray = ls at hl ⊢
  have hl : lv_has ls 3 [(0, .ref ox)] := hl
  refine lv_iconst (v := 0) hx hb dX2_writeTillAligned_0 (by decide) ?_
  refine lv_istore_n (lv' := [(1, .int 0), (0, .ref ox)]) hx hb dX2_writeTillAligned_1 rfl hl (by decide) rfl (fun ls hl => ?_)
  refine lv_iconst (v := 0) hx hb dX2_writeTillAligned_2 (by decide) ?_
  refine lv_istore_n (lv' := [(2, .int 0), (1, .int 0), (0, .ref ox)]) hx hb dX2_writeTillAligned_3 rfl hl (by decide) rfl (fun ls hl => ?_)
  exact kX2_writeTillAligned_4 hx hb hr hml hown hts hlocks hA hZ hK 17 wr tw cr tr bad 0 0 (fuel_of (by decide) (by decide)) (plX2_writeTillAligned_0 st lf ao sib wr tw cr tr bad) _ _ (hP.sub (ws' := [(ox, .inr (2, [.int st, .int lf, .int ao, .ref ow, .ref og, .ref oc, .ref od, .int bad])), (ow, .inr (0, [.int lf, .ref oaw, .int wr.2])), (oaw, .inl (cIw, 600, .inl wr.1)), (og, .inr (1, [.ref ow, .int st, .int sib, .int tw.1, .int tw.2.1, .int tw.2.2.1, .int tw.2.2.2])), (oc, .inr (0, [.int lf, .ref oac, .int cr.2])), (oac, .inl (cIc, 600, .inl cr.1)), (od, .inr (1, [.ref oc, .int st, .int sib, .int tr.1, .int tr.2.1, .int tr.2.2.1, .int tr.2.2.2]))]) [0, 1, 2, 3, 4, 5, 6] rfl) (hD.sub (ws' := [(ox, .inr (2, [.int st, .int lf, .int ao, .ref ow, .ref og, .ref oc, .ref od, .int bad])), (ow, .inr (0, [.int lf, .ref oaw, .int wr.2])), (oaw, .inl (cIw, 600, .inl wr.1)), (og, .inr (1, [.ref ow, .int st, .int sib, .int tw.1, .int tw.2.1, .int tw.2.2.1, .int tw.2.2.2])), (oc, .inr (0, [.int lf, .ref oac, .int cr.2])), (oac, .inl (cIc, 600, .inl cr.1)), (od, .inr (1, [.ref oc, .int st, .int sib, .int tr.1, .int tr.2.1, .int tr.2.2.1, .int tr.2.2.2]))]) [0, 1, 2, 3, 4, 5, 6] (by decide) rfl) hS ls (lv_sub hl [2, 1, 0] rfl)
def FX2_meetHere (st : Int32) (lf : Int32) (ao : Int32) (sib : Int32) (wr : Rw) (tw : Tk) (cr : Rw) (tr : Tk) (bad : Int32) : Int32 :=
  let r_1 := FX1_isWithin st sib lf tr cr
  if r_1 = 0 then
    (-1)
  else
    let x_3 := tr.1 >>> (3 &&& 31)
    if st = 1 then
      let r_4 := FX1_isAtByte st sib lf tr cr
      if r_4 = 0 then
        0
      else
        let r_6 := FX0_byteOf lf cr x_3
        if r_6 = 255 then
          if (x_3 + 1) < cr.2 then
            let r_8 := FX0_isMarkAt lf cr x_3
            if r_8 = 0 then
              0
            else
              (-2)
          else
            (-1)
        else
          0
    else
      0
set_option maxRecDepth 100000 in
theorem plX2_meetHere_0 (st : Int32) (lf : Int32) (ao : Int32) (sib : Int32) (wr : Rw) (tw : Tk) (cr : Rw) (tr : Tk) (bad : Int32) (r_1 : Int32) (hw_2 : r_1 = FX1_isWithin st sib lf tr cr) (c_7 : ¬ (r_1 = 0)) (x_3 : Int32) (ex_3 : x_3 = tr.1 >>> (3 &&& 31)) (c_27 : ¬ (st = 1)) : 0 = FX2_meetHere st lf ao sib wr tw cr tr bad := by
  subst hw_2
  subst ex_3
  exact ((if_neg c_7).trans (if_neg c_27)).symm
set_option maxRecDepth 100000 in
theorem plX2_meetHere_1 (st : Int32) (lf : Int32) (ao : Int32) (sib : Int32) (wr : Rw) (tw : Tk) (cr : Rw) (tr : Tk) (bad : Int32) (r_1 : Int32) (hw_2 : r_1 = FX1_isWithin st sib lf tr cr) (c_7 : ¬ (r_1 = 0)) (x_3 : Int32) (ex_3 : x_3 = tr.1 >>> (3 &&& 31)) (c_27 : st = 1) (r_4 : Int32) (hw_5 : r_4 = FX1_isAtByte st sib lf tr cr) (c_37 : r_4 = 0) : 0 = FX2_meetHere st lf ao sib wr tw cr tr bad := by
  subst hw_2
  subst ex_3
  subst hw_5
  exact (((if_neg c_7).trans (if_pos c_27)).trans (if_pos c_37)).symm
set_option maxRecDepth 100000 in
theorem plX2_meetHere_2 (st : Int32) (lf : Int32) (ao : Int32) (sib : Int32) (wr : Rw) (tw : Tk) (cr : Rw) (tr : Tk) (bad : Int32) (r_1 : Int32) (hw_2 : r_1 = FX1_isWithin st sib lf tr cr) (c_7 : ¬ (r_1 = 0)) (x_3 : Int32) (ex_3 : x_3 = tr.1 >>> (3 &&& 31)) (c_27 : st = 1) (r_4 : Int32) (hw_5 : r_4 = FX1_isAtByte st sib lf tr cr) (c_37 : ¬ (r_4 = 0)) (r_6 : Int32) (hw_7 : r_6 = FX0_byteOf lf cr x_3) (c_51 : r_6 = 255) (c_66 : (x_3 + 1) < cr.2) (r_8 : Int32) (hw_9 : r_8 = FX0_isMarkAt lf cr x_3) (c_79 : r_8 = 0) : 0 = FX2_meetHere st lf ao sib wr tw cr tr bad := by
  subst hw_2
  subst ex_3
  subst hw_5
  subst hw_7
  subst hw_9
  exact ((((((if_neg c_7).trans (if_pos c_27)).trans (if_neg c_37)).trans (if_pos c_51)).trans (if_pos c_66)).trans (if_pos c_79)).symm
set_option maxRecDepth 100000 in
theorem plX2_meetHere_3 (st : Int32) (lf : Int32) (ao : Int32) (sib : Int32) (wr : Rw) (tw : Tk) (cr : Rw) (tr : Tk) (bad : Int32) (r_1 : Int32) (hw_2 : r_1 = FX1_isWithin st sib lf tr cr) (c_7 : ¬ (r_1 = 0)) (x_3 : Int32) (ex_3 : x_3 = tr.1 >>> (3 &&& 31)) (c_27 : st = 1) (r_4 : Int32) (hw_5 : r_4 = FX1_isAtByte st sib lf tr cr) (c_37 : ¬ (r_4 = 0)) (r_6 : Int32) (hw_7 : r_6 = FX0_byteOf lf cr x_3) (c_51 : r_6 = 255) (c_66 : (x_3 + 1) < cr.2) (r_8 : Int32) (hw_9 : r_8 = FX0_isMarkAt lf cr x_3) (c_79 : ¬ (r_8 = 0)) : (-2) = FX2_meetHere st lf ao sib wr tw cr tr bad := by
  subst hw_2
  subst ex_3
  subst hw_5
  subst hw_7
  subst hw_9
  exact ((((((if_neg c_7).trans (if_pos c_27)).trans (if_neg c_37)).trans (if_pos c_51)).trans (if_pos c_66)).trans (if_neg c_79)).symm
set_option maxRecDepth 100000 in
theorem plX2_meetHere_4 (st : Int32) (lf : Int32) (ao : Int32) (sib : Int32) (wr : Rw) (tw : Tk) (cr : Rw) (tr : Tk) (bad : Int32) (r_1 : Int32) (hw_2 : r_1 = FX1_isWithin st sib lf tr cr) (c_7 : ¬ (r_1 = 0)) (x_3 : Int32) (ex_3 : x_3 = tr.1 >>> (3 &&& 31)) (c_27 : st = 1) (r_4 : Int32) (hw_5 : r_4 = FX1_isAtByte st sib lf tr cr) (c_37 : ¬ (r_4 = 0)) (r_6 : Int32) (hw_7 : r_6 = FX0_byteOf lf cr x_3) (c_51 : r_6 = 255) (c_66 : ¬ ((x_3 + 1) < cr.2)) : (-1) = FX2_meetHere st lf ao sib wr tw cr tr bad := by
  subst hw_2
  subst ex_3
  subst hw_5
  subst hw_7
  exact (((((if_neg c_7).trans (if_pos c_27)).trans (if_neg c_37)).trans (if_pos c_51)).trans (if_neg c_66)).symm
set_option maxRecDepth 100000 in
theorem plX2_meetHere_5 (st : Int32) (lf : Int32) (ao : Int32) (sib : Int32) (wr : Rw) (tw : Tk) (cr : Rw) (tr : Tk) (bad : Int32) (r_1 : Int32) (hw_2 : r_1 = FX1_isWithin st sib lf tr cr) (c_7 : ¬ (r_1 = 0)) (x_3 : Int32) (ex_3 : x_3 = tr.1 >>> (3 &&& 31)) (c_27 : st = 1) (r_4 : Int32) (hw_5 : r_4 = FX1_isAtByte st sib lf tr cr) (c_37 : ¬ (r_4 = 0)) (r_6 : Int32) (hw_7 : r_6 = FX0_byteOf lf cr x_3) (c_51 : ¬ (r_6 = 255)) : 0 = FX2_meetHere st lf ao sib wr tw cr tr bad := by
  subst hw_2
  subst ex_3
  subst hw_5
  subst hw_7
  exact ((((if_neg c_7).trans (if_pos c_27)).trans (if_neg c_37)).trans (if_neg c_51)).symm
set_option maxRecDepth 100000 in
theorem plX2_meetHere_6 (st : Int32) (lf : Int32) (ao : Int32) (sib : Int32) (wr : Rw) (tw : Tk) (cr : Rw) (tr : Tk) (bad : Int32) (r_1 : Int32) (hw_2 : r_1 = FX1_isWithin st sib lf tr cr) (c_7 : r_1 = 0) : (-1) = FX2_meetHere st lf ao sib wr tw cr tr bad := by
  subst hw_2
  exact (if_pos c_7).symm
set_option maxHeartbeats 4000000 in
set_option maxRecDepth 100000 in
theorem mX2_meetHere (l : Launch) (dC : Nat → ClassId) (dI : Nat → Nat → Nat) (cIw cIc : ClassId) (ox ow oaw og oc oac od : Nat) (st : Int32) (lf : Int32) (ao : Int32) (sib : Int32) (wr : Rw) (tw : Tk) (cr : Rw) (tr : Tk) (bad : Int32) : Met l yX2_meetHere (Cond.code yX2_meetHere cX2_meetHere 2 (some .int) :: G) ({ frames := 2, cells := 0, slots := 0, locals := 42 } : Room) (va_Pc [.ref ox] (fun U => va_P (dC, dI) vwCl [(ox, .inr (2, [.int st, .int lf, .int ao, .ref ow, .ref og, .ref oc, .ref od, .int bad])), (ow, .inr (0, [.int lf, .ref oaw, .int wr.2])), (oaw, .inl (cIw, 600, .inl wr.1)), (og, .inr (1, [.ref ow, .int st, .int sib, .int tw.1, .int tw.2.1, .int tw.2.2.1, .int tw.2.2.2])), (oc, .inr (0, [.int lf, .ref oac, .int cr.2])), (oac, .inl (cIc, 600, .inl cr.1)), (od, .inr (1, [.ref oc, .int st, .int sib, .int tr.1, .int tr.2.1, .int tr.2.2.1, .int tr.2.2.2]))] U.heap ∧ va_K (dC, dI) vwCl [(cIw, .int), (cIc, .int)] U ∧ zOk U)) (vp_Si (fun r => r = (FX2_meetHere st lf ao sib wr tw cr tr bad))) 0 0 (fun _ => False) := by
  refine Met.ofW (cc := cX2_meetHere) (maxL := 2) (ret := (some .int)) (by decide) rfl ?_
  intro p e s m args below meth c s₁ B hml hv
  obtain ⟨rfl, hP, hK, hZ⟩ := hv
  have hx := B.exec
  have hb := B.bytes
  have hr := B.returns
  have hts : ∀ w ∈ G, w.before [.ref ox].toArray s = true := fun w h => atoms_spec (ws := (Cond.code yX2_meetHere cX2_meetHere 2 (some .int) :: G)) B.pre w (List.mem_cons_of_mem _ h)
  have hown : s.vm.findClass RX2 = some m.cls := findClass_of_methodNamed B.named
  have hlocks := B.notSynchronized
  have hl := lv_entry ([.ref ox]) (n := 2) (Nat.le_of_ble_eq_true rfl)
  rw [lg_entry_eq]
  generalize (lg_sl ([.ref ox]) ++ List.replicate (2 - (lg_sl ([.ref ox])).length) Slot.unset).toArray = ls at hl ⊢
  have hl : lv_has ls 2 [(0, .ref ox)] := hl
  refine lv_aload_n hx hb dX2_meetHere_0 rfl (lv_at hl 0 rfl) ?_
  refine va_get (D := (dC, dI)) (ci := 2) (v := .ref od) (C := RX2) (T := TX2) (N := 8) hx hb hts inGX2 hown hK hP 0 rfl rfl 6 (by decide) (hts _ wd104) (fun _ h9 => h9) rfl dX2_meetHere_1 ?_
  have hPc := hP.sub (ws' := [(od, .inr (1, [.ref oc, .int st, .int sib, .int tr.1, .int tr.2.1, .int tr.2.2.1, .int tr.2.2.2])), (oc, .inr (0, [.int lf, .ref oac, .int cr.2])), (oac, .inl (cIc, 600, .inl cr.1))]) [6, 4, 5] rfl
  have hKc := hK.sub (tys' := [(cIc, .int)]) [1] rfl
  refine vp_callSi (va_Run.run (va_runV (As := []) (rest := []) ⟨hx, hb, hml, hown, hts⟩ (mX1_isWithin l dC dI cIc od oc oac st sib lf tr cr) (cwV 0 hts (gV wd398 wd399 wd400 wd29 wd401) rfl rfl rfl (by decide +kernel) ⟨Nat.le_of_ble_eq_true rfl, Nat.le_of_ble_eq_true rfl⟩) ⟨fb_ro, va_recv hKc hPc (ci := 1) (q0 := 0) rfl rfl, pre_ro hPc hKc hZ⟩ rfl rfl hl.1 rfl (lv_room (Nat.le_of_ble_eq_true rfl)) dX2_meetHere_4 ⟨Nat.le_of_ble_eq_true rfl, Nat.le_of_ble_eq_true rfl⟩)) (fun r_1 hw_2 => ?_)
  refine lv_if_ne (tgt := 12) hx hb dX2_meetHere_7 (by decide) (fun c_7 => ?_) (fun c_7 => ?_)
  · refine lv_aload_n hx hb dX2_meetHere_12 rfl (lv_at hl 0 rfl) ?_
    refine va_get (D := (dC, dI)) (ci := 2) (v := .ref od) (C := RX2) (T := TX2) (N := 8) hx hb hts inGX2 hown hK hP 0 rfl rfl 6 (by decide) (hts _ wd104) (fun _ h9 => h9) rfl dX2_meetHere_13 ?_
    refine va_getN (D := (dC, dI)) (ci := 1) (v := .int tr.1) (C := RX1) (T := TX1) (N := 7) hx hb hts inGX1 hown hK hP 6 rfl rfl 3 (by decide) (hZ.use zw2 rfl) (fun _ h9 => h9) rfl dX2_meetHere_16 ?_
    refine lv_iconst (v := 3) hx hb dX2_meetHere_19 (by decide) ?_
    refine lv_ishr hx hb dX2_meetHere_20 ?_
    refine lv_topi (fun x_3 ex_3 => ?_)
    refine lv_istore_n (lv' := [(1, .int x_3), (0, .ref ox)]) hx hb dX2_meetHere_21 rfl hl (by decide) rfl (fun ls hl => ?_)
    refine lv_aload_n hx hb dX2_meetHere_22 rfl (lv_at hl 1 rfl) ?_
    refine va_get (D := (dC, dI)) (ci := 2) (v := .int st) (C := RX2) (T := TX2) (N := 8) hx hb hts inGX2 hown hK hP 0 rfl rfl 0 (by decide) (hts _ wd98) (fun _ h9 => h9) rfl dX2_meetHere_23 ?_
    refine lv_iconst (v := 1) hx hb dX2_meetHere_26 (by decide) ?_
    refine lv_icmp_ne (tgt := 54) hx hb dX2_meetHere_27 (by decide) (fun c_27 => ?_) (fun c_27 => ?_)
    · refine lv_iconst (v := 0) hx hb dX2_meetHere_54 (by decide) ?_
      exact W.iret (v := 0) hx hb hr (fun t ht hW => ⟨0, rfl, (plX2_meetHere_0 st lf ao sib wr tw cr tr bad _ hw_2 c_7 _ ex_3 c_27), ht⟩) (fun q h => nomatch h) dX2_meetHere_55
    · refine lv_aload_n hx hb dX2_meetHere_30 rfl (lv_at hl 1 rfl) ?_
      refine va_get (D := (dC, dI)) (ci := 2) (v := .ref od) (C := RX2) (T := TX2) (N := 8) hx hb hts inGX2 hown hK hP 0 rfl rfl 6 (by decide) (hts _ wd104) (fun _ h9 => h9) rfl dX2_meetHere_31 ?_
      have hPc := hP.sub (ws' := [(od, .inr (1, [.ref oc, .int st, .int sib, .int tr.1, .int tr.2.1, .int tr.2.2.1, .int tr.2.2.2])), (oc, .inr (0, [.int lf, .ref oac, .int cr.2])), (oac, .inl (cIc, 600, .inl cr.1))]) [6, 4, 5] rfl
      have hKc := hK.sub (tys' := [(cIc, .int)]) [1] rfl
      refine vp_callSi (va_Run.run (va_runV (As := []) (rest := []) ⟨hx, hb, hml, hown, hts⟩ (mX1_isAtByte l dC dI cIc od oc oac st sib lf tr cr) (cwV 0 hts (gV wd166 wd132 wd133 wd29 wd134) rfl rfl rfl (by decide +kernel) ⟨Nat.le_of_ble_eq_true rfl, Nat.le_of_ble_eq_true rfl⟩) ⟨fb_ro, va_recv hKc hPc (ci := 1) (q0 := 0) rfl rfl, pre_ro hPc hKc hZ⟩ rfl rfl hl.1 rfl (lv_room (Nat.le_of_ble_eq_true rfl)) dX2_meetHere_34 ⟨Nat.le_of_ble_eq_true rfl, Nat.le_of_ble_eq_true rfl⟩)) (fun r_4 hw_5 => ?_)
      refine lv_if_eq (tgt := 54) hx hb dX2_meetHere_37 (by decide) (fun c_37 => ?_) (fun c_37 => ?_)
      · refine lv_iconst (v := 0) hx hb dX2_meetHere_54 (by decide) ?_
        exact W.iret (v := 0) hx hb hr (fun t ht hW => ⟨0, rfl, (plX2_meetHere_1 st lf ao sib wr tw cr tr bad _ hw_2 c_7 _ ex_3 c_27 _ hw_5 c_37), ht⟩) (fun q h => nomatch h) dX2_meetHere_55
      · refine lv_aload_n hx hb dX2_meetHere_40 rfl (lv_at hl 1 rfl) ?_
        refine va_get (D := (dC, dI)) (ci := 2) (v := .ref oc) (C := RX2) (T := TX2) (N := 8) hx hb hts inGX2 hown hK hP 0 rfl rfl 5 (by decide) (hts _ wd103) (fun _ h9 => h9) rfl dX2_meetHere_41 ?_
        refine lv_iload_n hx hb dX2_meetHere_44 rfl (lv_at hl 0 rfl) ?_
        have hPc := hP.sub (ws' := [(oc, .inr (0, [.int lf, .ref oac, .int cr.2])), (oac, .inl (cIc, 600, .inl cr.1))]) [4, 5] rfl
        have hKc := hK.sub (tys' := [(cIc, .int)]) [1] rfl
        refine vp_callSi (va_Run.run (va_runV (As := [.int x_3]) (rest := []) ⟨hx, hb, hml, hown, hts⟩ (mX0_byteOf l dC dI cIc oc oac lf cr x_3) (cwV 1 hts (gV wd175 wd139 wd140 wd28 wd141) rfl rfl rfl (by decide +kernel) ⟨Nat.le_of_ble_eq_true rfl, Nat.le_of_ble_eq_true rfl⟩) ⟨fb_ro, va_recv hKc hPc (ci := 0) (q0 := 0) rfl rfl, pre_ro hPc hKc hZ⟩ rfl rfl hl.1 rfl (lv_room (Nat.le_of_ble_eq_true rfl)) dX2_meetHere_45 ⟨Nat.le_of_ble_eq_true rfl, Nat.le_of_ble_eq_true rfl⟩)) (fun r_6 hw_7 => ?_)
        refine lv_sipush (v := 255) hx hb dX2_meetHere_48 (by decide) ?_
        refine lv_icmp_eq (tgt := 56) hx hb dX2_meetHere_51 (by decide) (fun c_51 => ?_) (fun c_51 => ?_)
        · refine lv_iload_n hx hb dX2_meetHere_56 rfl (lv_at hl 0 rfl) ?_
          refine lv_iconst (v := 1) hx hb dX2_meetHere_57 (by decide) ?_
          refine lv_iadd hx hb dX2_meetHere_58 ?_
          refine lv_aload_n hx hb dX2_meetHere_59 rfl (lv_at hl 1 rfl) ?_
          refine va_get (D := (dC, dI)) (ci := 2) (v := .ref oc) (C := RX2) (T := TX2) (N := 8) hx hb hts inGX2 hown hK hP 0 rfl rfl 5 (by decide) (hts _ wd103) (fun _ h9 => h9) rfl dX2_meetHere_60 ?_
          refine va_getN (D := (dC, dI)) (ci := 0) (v := .int cr.2) (C := RX0) (T := TX0) (N := 3) hx hb hts inGX0 hown hK hP 4 rfl rfl 2 (by decide) (hZ.use zw1 rfl) (fun _ h9 => h9) rfl dX2_meetHere_63 ?_
          refine lv_icmp_lt (tgt := 71) hx hb dX2_meetHere_66 (by decide) (fun c_66 => ?_) (fun c_66 => ?_)
          · refine lv_aload_n hx hb dX2_meetHere_71 rfl (lv_at hl 1 rfl) ?_
            refine va_get (D := (dC, dI)) (ci := 2) (v := .ref oc) (C := RX2) (T := TX2) (N := 8) hx hb hts inGX2 hown hK hP 0 rfl rfl 5 (by decide) (hts _ wd103) (fun _ h9 => h9) rfl dX2_meetHere_72 ?_
            refine lv_iload_n hx hb dX2_meetHere_75 rfl (lv_at hl 0 rfl) ?_
            have hPc := hP.sub (ws' := [(oc, .inr (0, [.int lf, .ref oac, .int cr.2])), (oac, .inl (cIc, 600, .inl cr.1))]) [4, 5] rfl
            have hKc := hK.sub (tys' := [(cIc, .int)]) [1] rfl
            refine vp_callSi (va_Run.run (va_runV (As := [.int x_3]) (rest := []) ⟨hx, hb, hml, hown, hts⟩ (mX0_isMarkAt l dC dI cIc oc oac lf cr x_3) (cwV 1 hts (gV wd167 wd168 wd169 wd28 wd170) rfl rfl rfl (by decide +kernel) ⟨Nat.le_of_ble_eq_true rfl, Nat.le_of_ble_eq_true rfl⟩) ⟨fb_ro, va_recv hKc hPc (ci := 0) (q0 := 0) rfl rfl, pre_ro hPc hKc hZ⟩ rfl rfl hl.1 rfl (lv_room (Nat.le_of_ble_eq_true rfl)) dX2_meetHere_76 ⟨Nat.le_of_ble_eq_true rfl, Nat.le_of_ble_eq_true rfl⟩)) (fun r_8 hw_9 => ?_)
            refine lv_if_eq (tgt := 87) hx hb dX2_meetHere_79 (by decide) (fun c_79 => ?_) (fun c_79 => ?_)
            · refine lv_iconst (v := 0) hx hb dX2_meetHere_87 (by decide) ?_
              exact W.iret (v := 0) hx hb hr (fun t ht hW => ⟨0, rfl, (plX2_meetHere_2 st lf ao sib wr tw cr tr bad _ hw_2 c_7 _ ex_3 c_27 _ hw_5 c_37 _ hw_7 c_51 c_66 _ hw_9 c_79), ht⟩) (fun q h => nomatch h) dX2_meetHere_88
            · refine lv_bipush (v := (-2)) hx hb dX2_meetHere_82 (by decide) ?_
              refine lv_goto (tgt := 88) hx hb dX2_meetHere_84 (by decide) ?_
              exact W.iret (v := (-2)) hx hb hr (fun t ht hW => ⟨(-2), rfl, (plX2_meetHere_3 st lf ao sib wr tw cr tr bad _ hw_2 c_7 _ ex_3 c_27 _ hw_5 c_37 _ hw_7 c_51 c_66 _ hw_9 c_79), ht⟩) (fun q h => nomatch h) dX2_meetHere_88
          · refine lv_iconst (v := (-1)) hx hb dX2_meetHere_69 (by decide) ?_
            exact W.iret (v := (-1)) hx hb hr (fun t ht hW => ⟨(-1), rfl, (plX2_meetHere_4 st lf ao sib wr tw cr tr bad _ hw_2 c_7 _ ex_3 c_27 _ hw_5 c_37 _ hw_7 c_51 c_66), ht⟩) (fun q h => nomatch h) dX2_meetHere_70
        · refine lv_iconst (v := 0) hx hb dX2_meetHere_54 (by decide) ?_
          exact W.iret (v := 0) hx hb hr (fun t ht hW => ⟨0, rfl, (plX2_meetHere_5 st lf ao sib wr tw cr tr bad _ hw_2 c_7 _ ex_3 c_27 _ hw_5 c_37 _ hw_7 c_51), ht⟩) (fun q h => nomatch h) dX2_meetHere_55
  · refine lv_iconst (v := (-1)) hx hb dX2_meetHere_10 (by decide) ?_
    exact W.iret (v := (-1)) hx hb hr (fun t ht hW => ⟨(-1), rfl, (plX2_meetHere_6 st lf ao sib wr tw cr tr bad _ hw_2 c_7), ht⟩) (fun q h => nomatch h) dX2_meetHere_11
def FX2_readStuffedIfDue (st : Int32) (lf : Int32) (ao : Int32) (sib : Int32) (wr : Rw) (tw : Tk) (cr : Rw) (tr : Tk) (bad : Int32) : Int32 × Tk :=
  let r_1 := FX1_isStuffedDue st sib lf tr cr
  if r_1 = 0 then
    (0, tr)
  else
    let r_3 := FX1_isWithin st sib lf tr cr
    if r_3 = 0 then
      ((-1), tr)
    else
      let r_5 := FX0_bitOf lf cr tr.1
      if r_5 = 0 then
        let u_8 := FX1_stepOverStuffed st sib lf tr cr
        (0, u_8)
      else
        ((-3), tr)
set_option maxRecDepth 100000 in
theorem plX2_readStuffedIfDue_0 (st : Int32) (lf : Int32) (ao : Int32) (sib : Int32) (wr : Rw) (tw : Tk) (cr : Rw) (tr : Tk) (bad : Int32) (r_1 : Int32) (hw_2 : r_1 = FX1_isStuffedDue st sib lf tr cr) (c_7 : ¬ (r_1 = 0)) (r_3 : Int32) (hw_4 : r_3 = FX1_isWithin st sib lf tr cr) (c_19 : ¬ (r_3 = 0)) (r_5 : Int32) (hw_6 : r_5 = FX0_bitOf lf cr tr.1) (c_38 : r_5 = 0) (u_8 : Tk) (hw_7 : u_8 = FX1_stepOverStuffed st sib lf tr cr) : (0, u_8) = FX2_readStuffedIfDue st lf ao sib wr tw cr tr bad := by
  subst hw_2
  subst hw_4
  subst hw_6
  subst hw_7
  exact (((if_neg c_7).trans (if_neg c_19)).trans (if_pos c_38)).symm
set_option maxRecDepth 100000 in
theorem plX2_readStuffedIfDue_1 (st : Int32) (lf : Int32) (ao : Int32) (sib : Int32) (wr : Rw) (tw : Tk) (cr : Rw) (tr : Tk) (bad : Int32) (r_1 : Int32) (hw_2 : r_1 = FX1_isStuffedDue st sib lf tr cr) (c_7 : ¬ (r_1 = 0)) (r_3 : Int32) (hw_4 : r_3 = FX1_isWithin st sib lf tr cr) (c_19 : ¬ (r_3 = 0)) (r_5 : Int32) (hw_6 : r_5 = FX0_bitOf lf cr tr.1) (c_38 : ¬ (r_5 = 0)) : ((-3), tr) = FX2_readStuffedIfDue st lf ao sib wr tw cr tr bad := by
  subst hw_2
  subst hw_4
  subst hw_6
  exact (((if_neg c_7).trans (if_neg c_19)).trans (if_neg c_38)).symm
set_option maxRecDepth 100000 in
theorem plX2_readStuffedIfDue_2 (st : Int32) (lf : Int32) (ao : Int32) (sib : Int32) (wr : Rw) (tw : Tk) (cr : Rw) (tr : Tk) (bad : Int32) (r_1 : Int32) (hw_2 : r_1 = FX1_isStuffedDue st sib lf tr cr) (c_7 : ¬ (r_1 = 0)) (r_3 : Int32) (hw_4 : r_3 = FX1_isWithin st sib lf tr cr) (c_19 : r_3 = 0) : ((-1), tr) = FX2_readStuffedIfDue st lf ao sib wr tw cr tr bad := by
  subst hw_2
  subst hw_4
  exact ((if_neg c_7).trans (if_pos c_19)).symm
set_option maxRecDepth 100000 in
theorem plX2_readStuffedIfDue_3 (st : Int32) (lf : Int32) (ao : Int32) (sib : Int32) (wr : Rw) (tw : Tk) (cr : Rw) (tr : Tk) (bad : Int32) (r_1 : Int32) (hw_2 : r_1 = FX1_isStuffedDue st sib lf tr cr) (c_7 : r_1 = 0) : (0, tr) = FX2_readStuffedIfDue st lf ao sib wr tw cr tr bad := by
  subst hw_2
  exact (if_pos c_7).symm
set_option maxHeartbeats 4000000 in
set_option maxRecDepth 100000 in
theorem mX2_readStuffedIfDue (l : Launch) (dC : Nat → ClassId) (dI : Nat → Nat → Nat) (cIw cIc : ClassId) (ox ow oaw og oc oac od : Nat) (sz : Nat) (st : Int32) (lf : Int32) (ao : Int32) (sib : Int32) (wr : Rw) (tw : Tk) (cr : Rw) (tr : Tk) (bad : Int32) : Met l yX2_readStuffedIfDue (Cond.code yX2_readStuffedIfDue cX2_readStuffedIfDue 1 (some .int) :: G) ({ frames := 3, cells := 0, slots := 0, locals := 62 } : Room) (va_Pc [.ref ox] (fun U => U.heap.size = sz ∧ va_P (dC, dI) vwCl [(ox, .inr (2, [.int st, .int lf, .int ao, .ref ow, .ref og, .ref oc, .ref od, .int bad])), (ow, .inr (0, [.int lf, .ref oaw, .int wr.2])), (oaw, .inl (cIw, 600, .inl wr.1)), (og, .inr (1, [.ref ow, .int st, .int sib, .int tw.1, .int tw.2.1, .int tw.2.2.1, .int tw.2.2.2])), (oc, .inr (0, [.int lf, .ref oac, .int cr.2])), (oac, .inl (cIc, 600, .inl cr.1)), (od, .inr (1, [.ref oc, .int st, .int sib, .int tr.1, .int tr.2.1, .int tr.2.2.1, .int tr.2.2.2]))] U.heap ∧ va_K (dC, dI) vwCl [(cIw, .int), (cIc, .int)] U ∧ va_D (fun _ => True) [(ox, .inr (2, [.int st, .int lf, .int ao, .ref ow, .ref og, .ref oc, .ref od, .int bad])), (ow, .inr (0, [.int lf, .ref oaw, .int wr.2])), (oaw, .inl (cIw, 600, .inl wr.1)), (og, .inr (1, [.ref ow, .int st, .int sib, .int tw.1, .int tw.2.1, .int tw.2.2.1, .int tw.2.2.2])), (oc, .inr (0, [.int lf, .ref oac, .int cr.2])), (oac, .inl (cIc, 600, .inl cr.1)), (od, .inr (1, [.ref oc, .int st, .int sib, .int tr.1, .int tr.2.1, .int tr.2.2.1, .int tr.2.2.2]))] ∧ zOk U)) (va_Qi (fun (r : Int32) (u : Tk) => (r, u) = (FX2_readStuffedIfDue st lf ao sib wr tw cr tr bad)) (fun (u : Tk) t => va_P (dC, dI) vwCl [(ox, .inr (2, [.int st, .int lf, .int ao, .ref ow, .ref og, .ref oc, .ref od, .int bad])), (ow, .inr (0, [.int lf, .ref oaw, .int wr.2])), (oaw, .inl (cIw, 600, .inl wr.1)), (og, .inr (1, [.ref ow, .int st, .int sib, .int tw.1, .int tw.2.1, .int tw.2.2.1, .int tw.2.2.2])), (oc, .inr (0, [.int lf, .ref oac, .int cr.2])), (oac, .inl (cIc, 600, .inl cr.1)), (od, .inr (1, [.ref oc, .int st, .int sib, .int u.1, .int u.2.1, .int u.2.2.1, .int u.2.2.2]))] t.heap ∧ va_D (va_A [(ox, .inr (2, [.int st, .int lf, .int ao, .ref ow, .ref og, .ref oc, .ref od, .int bad])), (ow, .inr (0, [.int lf, .ref oaw, .int wr.2])), (oaw, .inl (cIw, 600, .inl wr.1)), (og, .inr (1, [.ref ow, .int st, .int sib, .int tw.1, .int tw.2.1, .int tw.2.2.1, .int tw.2.2.2])), (oc, .inr (0, [.int lf, .ref oac, .int cr.2])), (oac, .inl (cIc, 600, .inl cr.1)), (od, .inr (1, [.ref oc, .int st, .int sib, .int tr.1, .int tr.2.1, .int tr.2.2.1, .int tr.2.2.2]))] sz) [(ox, .inr (2, [.int st, .int lf, .int ao, .ref ow, .ref og, .ref oc, .ref od, .int bad])), (ow, .inr (0, [.int lf, .ref oaw, .int wr.2])), (oaw, .inl (cIw, 600, .inl wr.1)), (og, .inr (1, [.ref ow, .int st, .int sib, .int tw.1, .int tw.2.1, .int tw.2.2.1, .int tw.2.2.2])), (oc, .inr (0, [.int lf, .ref oac, .int cr.2])), (oac, .inl (cIc, 600, .inl cr.1)), (od, .inr (1, [.ref oc, .int st, .int sib, .int u.1, .int u.2.1, .int u.2.2.1, .int u.2.2.2]))]) (va_A [(ox, .inr (2, [.int st, .int lf, .int ao, .ref ow, .ref og, .ref oc, .ref od, .int bad])), (ow, .inr (0, [.int lf, .ref oaw, .int wr.2])), (oaw, .inl (cIw, 600, .inl wr.1)), (og, .inr (1, [.ref ow, .int st, .int sib, .int tw.1, .int tw.2.1, .int tw.2.2.1, .int tw.2.2.2])), (oc, .inr (0, [.int lf, .ref oac, .int cr.2])), (oac, .inl (cIc, 600, .inl cr.1)), (od, .inr (1, [.ref oc, .int st, .int sib, .int tr.1, .int tr.2.1, .int tr.2.2.1, .int tr.2.2.2]))] sz)) 0 0 (va_A [(ox, .inr (2, [.int st, .int lf, .int ao, .ref ow, .ref og, .ref oc, .ref od, .int bad])), (ow, .inr (0, [.int lf, .ref oaw, .int wr.2])), (oaw, .inl (cIw, 600, .inl wr.1)), (og, .inr (1, [.ref ow, .int st, .int sib, .int tw.1, .int tw.2.1, .int tw.2.2.1, .int tw.2.2.2])), (oc, .inr (0, [.int lf, .ref oac, .int cr.2])), (oac, .inl (cIc, 600, .inl cr.1)), (od, .inr (1, [.ref oc, .int st, .int sib, .int tr.1, .int tr.2.1, .int tr.2.2.1, .int tr.2.2.2]))] sz) := by
  refine Met.ofW (cc := cX2_readStuffedIfDue) (maxL := 1) (ret := (some .int)) (by decide) rfl ?_
  intro p e s m args below meth c s₁ B hml hv
  obtain ⟨rfl, hsz, hP, hK, hD0, hZ⟩ := hv
  have hx := B.exec
  have hb := B.bytes
  have hr := B.returns
  have hts : ∀ w ∈ G, w.before [.ref ox].toArray s = true := fun w h => atoms_spec (ws := (Cond.code yX2_readStuffedIfDue cX2_readStuffedIfDue 1 (some .int) :: G)) B.pre w (List.mem_cons_of_mem _ h)
  have hown : s.vm.findClass RX2 = some m.cls := findClass_of_methodNamed B.named
  have hlocks := B.notSynchronized
  subst hsz
  have hD := hD0.self (sz := s.heap.size)
  generalize hAe : va_A [(ox, .inr (2, [.int st, .int lf, .int ao, .ref ow, .ref og, .ref oc, .ref od, .int bad])), (ow, .inr (0, [.int lf, .ref oaw, .int wr.2])), (oaw, .inl (cIw, 600, .inl wr.1)), (og, .inr (1, [.ref ow, .int st, .int sib, .int tw.1, .int tw.2.1, .int tw.2.2.1, .int tw.2.2.2])), (oc, .inr (0, [.int lf, .ref oac, .int cr.2])), (oac, .inl (cIc, 600, .inl cr.1)), (od, .inr (1, [.ref oc, .int st, .int sib, .int tr.1, .int tr.2.1, .int tr.2.2.1, .int tr.2.2.2]))] s.heap.size = A at hD ⊢
  have hA : ∀ q : Nat, s.heap.size ≤ q → A q := fun q h => by rw [← hAe]; exact Or.inr h
  have hS : va_S A s.heap s.heap [] := va_S.rf
  have hP : va_P (dC, dI) vwCl [(ox, .inr (2, [.int st, .int lf, .int ao, .ref ow, .ref og, .ref oc, .ref od, .int bad])), (ow, .inr (0, [.int lf, .ref oaw, .int wr.2])), (oaw, .inl (cIw, 600, .inl wr.1)), (og, .inr (1, [.ref ow, .int st, .int sib, .int tw.1, .int tw.2.1, .int tw.2.2.1, .int tw.2.2.2])), (oc, .inr (0, [.int lf, .ref oac, .int cr.2])), (oac, .inl (cIc, 600, .inl cr.1)), (od, .inr (1, [.ref oc, .int st, .int sib, .int tr.1, .int tr.2.1, .int tr.2.2.1, .int tr.2.2.2]))] s.heap := hP
  have hl := lv_entry ([.ref ox]) (n := 1) (Nat.le_of_ble_eq_true rfl)
  rw [lg_entry_eq]
  generalize (lg_sl ([.ref ox]) ++ List.replicate (1 - (lg_sl ([.ref ox])).length) Slot.unset).toArray = ls at hl ⊢
  have hl : lv_has ls 1 [(0, .ref ox)] := hl
  refine lv_aload_n hx hb dX2_readStuffedIfDue_0 rfl (lv_at hl 0 rfl) ?_
  refine va_get (D := (dC, dI)) (ci := 2) (v := .ref od) (C := RX2) (T := TX2) (N := 8) hx hb hts inGX2 hown hK hP 0 rfl rfl 6 (by decide) (hts _ wd104) (fun _ h9 => h9) rfl dX2_readStuffedIfDue_1 ?_
  have hPc := hP.sub (ws' := [(od, .inr (1, [.ref oc, .int st, .int sib, .int tr.1, .int tr.2.1, .int tr.2.2.1, .int tr.2.2.2])), (oc, .inr (0, [.int lf, .ref oac, .int cr.2])), (oac, .inl (cIc, 600, .inl cr.1))]) [6, 4, 5] rfl
  have hKc := hK.sub (tys' := [(cIc, .int)]) [1] rfl
  refine vp_callSi (va_Run.run (va_runV (As := []) (rest := []) ⟨hx, hb, hml, hown, hts⟩ (mX1_isStuffedDue l dC dI cIc od oc oac st sib lf tr cr) (cwV 0 hts (gV wd142 wd143 wd144 wd29 wd145) rfl rfl rfl (by decide +kernel) ⟨Nat.le_of_ble_eq_true rfl, Nat.le_of_ble_eq_true rfl⟩) ⟨fb_ro, va_recv hKc hPc (ci := 1) (q0 := 0) rfl rfl, pre_ro hPc hKc hZ⟩ rfl rfl hl.1 rfl (lv_room (Nat.le_of_ble_eq_true rfl)) dX2_readStuffedIfDue_4 ⟨Nat.le_of_ble_eq_true rfl, Nat.le_of_ble_eq_true rfl⟩)) (fun r_1 hw_2 => ?_)
  refine lv_if_ne (tgt := 12) hx hb dX2_readStuffedIfDue_7 (by decide) (fun c_7 => ?_) (fun c_7 => ?_)
  · refine lv_aload_n hx hb dX2_readStuffedIfDue_12 rfl (lv_at hl 0 rfl) ?_
    refine va_get (D := (dC, dI)) (ci := 2) (v := .ref od) (C := RX2) (T := TX2) (N := 8) hx hb hts inGX2 hown hK hP 0 rfl rfl 6 (by decide) (hts _ wd104) (fun _ h9 => h9) rfl dX2_readStuffedIfDue_13 ?_
    have hPc := hP.sub (ws' := [(od, .inr (1, [.ref oc, .int st, .int sib, .int tr.1, .int tr.2.1, .int tr.2.2.1, .int tr.2.2.2])), (oc, .inr (0, [.int lf, .ref oac, .int cr.2])), (oac, .inl (cIc, 600, .inl cr.1))]) [6, 4, 5] rfl
    have hKc := hK.sub (tys' := [(cIc, .int)]) [1] rfl
    refine vp_callSi (va_Run.run (va_runV (As := []) (rest := []) ⟨hx, hb, hml, hown, hts⟩ (mX1_isWithin l dC dI cIc od oc oac st sib lf tr cr) (cwV 0 hts (gV wd398 wd399 wd400 wd29 wd401) rfl rfl rfl (by decide +kernel) ⟨Nat.le_of_ble_eq_true rfl, Nat.le_of_ble_eq_true rfl⟩) ⟨fb_ro, va_recv hKc hPc (ci := 1) (q0 := 0) rfl rfl, pre_ro hPc hKc hZ⟩ rfl rfl hl.1 rfl (lv_room (Nat.le_of_ble_eq_true rfl)) dX2_readStuffedIfDue_16 ⟨Nat.le_of_ble_eq_true rfl, Nat.le_of_ble_eq_true rfl⟩)) (fun r_3 hw_4 => ?_)
    refine lv_if_ne (tgt := 24) hx hb dX2_readStuffedIfDue_19 (by decide) (fun c_19 => ?_) (fun c_19 => ?_)
    · refine lv_aload_n hx hb dX2_readStuffedIfDue_24 rfl (lv_at hl 0 rfl) ?_
      refine va_get (D := (dC, dI)) (ci := 2) (v := .ref oc) (C := RX2) (T := TX2) (N := 8) hx hb hts inGX2 hown hK hP 0 rfl rfl 5 (by decide) (hts _ wd103) (fun _ h9 => h9) rfl dX2_readStuffedIfDue_25 ?_
      refine lv_aload_n hx hb dX2_readStuffedIfDue_28 rfl (lv_at hl 0 rfl) ?_
      refine va_get (D := (dC, dI)) (ci := 2) (v := .ref od) (C := RX2) (T := TX2) (N := 8) hx hb hts inGX2 hown hK hP 0 rfl rfl 6 (by decide) (hts _ wd104) (fun _ h9 => h9) rfl dX2_readStuffedIfDue_29 ?_
      refine va_getN (D := (dC, dI)) (ci := 1) (v := .int tr.1) (C := RX1) (T := TX1) (N := 7) hx hb hts inGX1 hown hK hP 6 rfl rfl 3 (by decide) (hZ.use zw2 rfl) (fun _ h9 => h9) rfl dX2_readStuffedIfDue_32 ?_
      have hPc := hP.sub (ws' := [(oc, .inr (0, [.int lf, .ref oac, .int cr.2])), (oac, .inl (cIc, 600, .inl cr.1))]) [4, 5] rfl
      have hKc := hK.sub (tys' := [(cIc, .int)]) [1] rfl
      refine vp_callSi (va_Run.run (va_runV (As := [.int tr.1]) (rest := []) ⟨hx, hb, hml, hown, hts⟩ (mX0_bitOf l dC dI cIc oc oac lf cr tr.1) (cwV 1 hts (gV wd150 wd151 wd152 wd28 wd153) rfl rfl rfl (by decide +kernel) ⟨Nat.le_of_ble_eq_true rfl, Nat.le_of_ble_eq_true rfl⟩) ⟨fb_ro, va_recv hKc hPc (ci := 0) (q0 := 0) rfl rfl, pre_ro hPc hKc hZ⟩ rfl rfl hl.1 rfl (lv_room (Nat.le_of_ble_eq_true rfl)) dX2_readStuffedIfDue_35 ⟨Nat.le_of_ble_eq_true rfl, Nat.le_of_ble_eq_true rfl⟩)) (fun r_5 hw_6 => ?_)
      refine lv_if_eq (tgt := 44) hx hb dX2_readStuffedIfDue_38 (by decide) (fun c_38 => ?_) (fun c_38 => ?_)
      · refine lv_aload_n hx hb dX2_readStuffedIfDue_44 rfl (lv_at hl 0 rfl) ?_
        refine va_get (D := (dC, dI)) (ci := 2) (v := .ref od) (C := RX2) (T := TX2) (N := 8) hx hb hts inGX2 hown hK hP 0 rfl rfl 6 (by decide) (hts _ wd104) (fun _ h9 => h9) rfl dX2_readStuffedIfDue_45 ?_
        have hPc := hP.sub (ws' := [(od, .inr (1, [.ref oc, .int st, .int sib, .int tr.1, .int tr.2.1, .int tr.2.2.1, .int tr.2.2.2])), (oc, .inr (0, [.int lf, .ref oac, .int cr.2])), (oac, .inl (cIc, 600, .inl cr.1))]) [6, 4, 5] rfl
        have hKc := hK.sub (tys' := [(cIc, .int)]) [1] rfl
        have hDc := hD.sub (ws' := [(od, .inr (1, [.ref oc, .int st, .int sib, .int tr.1, .int tr.2.1, .int tr.2.2.1, .int tr.2.2.2])), (oc, .inr (0, [.int lf, .ref oac, .int cr.2])), (oac, .inl (cIc, 600, .inl cr.1))]) [6, 4, 5] (by decide) rfl
        have hFc := va_free (wc := [(od, .inr (1, [.ref oc, .int st, .int sib, .int tr.1, .int tr.2.1, .int tr.2.2.1, .int tr.2.2.2])), (oc, .inr (0, [.int lf, .ref oac, .int cr.2])), (oac, .inl (cIc, 600, .inl cr.1))]) hD hS hA [6, 4, 5] rfl
        refine va_callv (va_runV (As := []) (rest := []) ⟨hx, hb, hml, hown, hts⟩ (mX1_stepOverStuffed l dC dI cIc od oc oac s.heap.size st sib lf tr cr) (cwV 0 hts (gV wd146 wd147 wd148 wd29 wd149) rfl rfl rfl (by decide +kernel) ⟨Nat.le_of_ble_eq_true rfl, Nat.le_of_ble_eq_true rfl⟩) ⟨fb_rw, va_recv hKc hPc (ci := 1) (q0 := 0) rfl rfl, pre_rw hPc hKc hDc hZ⟩ rfl rfl hl.1 rfl (lv_room (Nat.le_of_ble_eq_true rfl)) dX2_readStuffedIfDue_48 ⟨Nat.le_of_ble_eq_true rfl, Nat.le_of_ble_eq_true rfl⟩) hS (fun q _ h => hFc q h) hFc (fun u_8 t H1 locs ht hvm hw_7 hB hz1 hk1 hS => ?_)
        obtain ⟨hP1, hD1⟩ := hB
        rw [ht] at hP1
        obtain ⟨hP, hD⟩ := va_join (wr := [(ox, .inr (2, [.int st, .int lf, .int ao, .ref ow, .ref og, .ref oc, .ref od, .int bad])), (ow, .inr (0, [.int lf, .ref oaw, .int wr.2])), (oaw, .inl (cIw, 600, .inl wr.1)), (og, .inr (1, [.ref ow, .int st, .int sib, .int tw.1, .int tw.2.1, .int tw.2.2.1, .int tw.2.2.2]))]) (w1 := [(od, .inr (1, [.ref oc, .int st, .int sib, .int u_8.1, .int u_8.2.1, .int u_8.2.2.1, .int u_8.2.2.2])), (oc, .inr (0, [.int lf, .ref oac, .int cr.2])), (oac, .inl (cIc, 600, .inl cr.1))]) hP hD [6, 4, 5] [0, 1, 2, 3] rfl rfl (by decide) (by decide) hk1 hFc hP1 hD1
        generalize H1 = H at hP hS ⊢
        have hP : va_P (dC, dI) vwCl [(ox, .inr (2, [.int st, .int lf, .int ao, .ref ow, .ref og, .ref oc, .ref od, .int bad])), (ow, .inr (0, [.int lf, .ref oaw, .int wr.2])), (oaw, .inl (cIw, 600, .inl wr.1)), (og, .inr (1, [.ref ow, .int st, .int sib, .int tw.1, .int tw.2.1, .int tw.2.2.1, .int tw.2.2.2])), (od, .inr (1, [.ref oc, .int st, .int sib, .int u_8.1, .int u_8.2.1, .int u_8.2.2.1, .int u_8.2.2.2])), (oc, .inr (0, [.int lf, .ref oac, .int cr.2])), (oac, .inl (cIc, 600, .inl cr.1))] H := hP
        have hD : va_D A [(ox, .inr (2, [.int st, .int lf, .int ao, .ref ow, .ref og, .ref oc, .ref od, .int bad])), (ow, .inr (0, [.int lf, .ref oaw, .int wr.2])), (oaw, .inl (cIw, 600, .inl wr.1)), (og, .inr (1, [.ref ow, .int st, .int sib, .int tw.1, .int tw.2.1, .int tw.2.2.1, .int tw.2.2.2])), (od, .inr (1, [.ref oc, .int st, .int sib, .int u_8.1, .int u_8.2.1, .int u_8.2.2.1, .int u_8.2.2.2])), (oc, .inr (0, [.int lf, .ref oac, .int cr.2])), (oac, .inl (cIc, 600, .inl cr.1))] := hD
        refine lv_iconst (v := 0) hx hb dX2_readStuffedIfDue_51 (by decide) ?_
        have hP9 := hP.sub (ws' := [(ox, .inr (2, [.int st, .int lf, .int ao, .ref ow, .ref og, .ref oc, .ref od, .int bad])), (ow, .inr (0, [.int lf, .ref oaw, .int wr.2])), (oaw, .inl (cIw, 600, .inl wr.1)), (og, .inr (1, [.ref ow, .int st, .int sib, .int tw.1, .int tw.2.1, .int tw.2.2.1, .int tw.2.2.2])), (oc, .inr (0, [.int lf, .ref oac, .int cr.2])), (oac, .inl (cIc, 600, .inl cr.1)), (od, .inr (1, [.ref oc, .int st, .int sib, .int u_8.1, .int u_8.2.1, .int u_8.2.2.1, .int u_8.2.2.2]))]) [0, 1, 2, 3, 5, 6, 4] rfl
        have hD9 := hD.sub (ws' := [(ox, .inr (2, [.int st, .int lf, .int ao, .ref ow, .ref og, .ref oc, .ref od, .int bad])), (ow, .inr (0, [.int lf, .ref oaw, .int wr.2])), (oaw, .inl (cIw, 600, .inl wr.1)), (og, .inr (1, [.ref ow, .int st, .int sib, .int tw.1, .int tw.2.1, .int tw.2.2.1, .int tw.2.2.2])), (oc, .inr (0, [.int lf, .ref oac, .int cr.2])), (oac, .inl (cIc, 600, .inl cr.1)), (od, .inr (1, [.ref oc, .int st, .int sib, .int u_8.1, .int u_8.2.1, .int u_8.2.2.1, .int u_8.2.2.2]))]) [0, 1, 2, 3, 5, 6, 4] (by decide) rfl
        exact W.iret (v := 0) hx hb hr (fun t ht hW => ⟨⟨0, u_8, rfl, (plX2_readStuffedIfDue_0 st lf ao sib wr tw cr tr bad _ hw_2 c_7 _ hw_4 c_19 _ hw_6 c_38 _ hw_7), by rw [ht]; exact hP9, hD9⟩, hS.F ht⟩) hS.2.2 dX2_readStuffedIfDue_52
      · refine lv_bipush (v := (-3)) hx hb dX2_readStuffedIfDue_41 (by decide) ?_
        have hP9 := hP.sub (ws' := [(ox, .inr (2, [.int st, .int lf, .int ao, .ref ow, .ref og, .ref oc, .ref od, .int bad])), (ow, .inr (0, [.int lf, .ref oaw, .int wr.2])), (oaw, .inl (cIw, 600, .inl wr.1)), (og, .inr (1, [.ref ow, .int st, .int sib, .int tw.1, .int tw.2.1, .int tw.2.2.1, .int tw.2.2.2])), (oc, .inr (0, [.int lf, .ref oac, .int cr.2])), (oac, .inl (cIc, 600, .inl cr.1)), (od, .inr (1, [.ref oc, .int st, .int sib, .int tr.1, .int tr.2.1, .int tr.2.2.1, .int tr.2.2.2]))]) [0, 1, 2, 3, 4, 5, 6] rfl
        have hD9 := hD.sub (ws' := [(ox, .inr (2, [.int st, .int lf, .int ao, .ref ow, .ref og, .ref oc, .ref od, .int bad])), (ow, .inr (0, [.int lf, .ref oaw, .int wr.2])), (oaw, .inl (cIw, 600, .inl wr.1)), (og, .inr (1, [.ref ow, .int st, .int sib, .int tw.1, .int tw.2.1, .int tw.2.2.1, .int tw.2.2.2])), (oc, .inr (0, [.int lf, .ref oac, .int cr.2])), (oac, .inl (cIc, 600, .inl cr.1)), (od, .inr (1, [.ref oc, .int st, .int sib, .int tr.1, .int tr.2.1, .int tr.2.2.1, .int tr.2.2.2]))]) [0, 1, 2, 3, 4, 5, 6] (by decide) rfl
        exact W.iret (v := (-3)) hx hb hr (fun t ht hW => ⟨⟨(-3), tr, rfl, (plX2_readStuffedIfDue_1 st lf ao sib wr tw cr tr bad _ hw_2 c_7 _ hw_4 c_19 _ hw_6 c_38), by rw [ht]; exact hP9, hD9⟩, hS.F ht⟩) hS.2.2 dX2_readStuffedIfDue_43
    · refine lv_iconst (v := (-1)) hx hb dX2_readStuffedIfDue_22 (by decide) ?_
      have hP9 := hP.sub (ws' := [(ox, .inr (2, [.int st, .int lf, .int ao, .ref ow, .ref og, .ref oc, .ref od, .int bad])), (ow, .inr (0, [.int lf, .ref oaw, .int wr.2])), (oaw, .inl (cIw, 600, .inl wr.1)), (og, .inr (1, [.ref ow, .int st, .int sib, .int tw.1, .int tw.2.1, .int tw.2.2.1, .int tw.2.2.2])), (oc, .inr (0, [.int lf, .ref oac, .int cr.2])), (oac, .inl (cIc, 600, .inl cr.1)), (od, .inr (1, [.ref oc, .int st, .int sib, .int tr.1, .int tr.2.1, .int tr.2.2.1, .int tr.2.2.2]))]) [0, 1, 2, 3, 4, 5, 6] rfl
      have hD9 := hD.sub (ws' := [(ox, .inr (2, [.int st, .int lf, .int ao, .ref ow, .ref og, .ref oc, .ref od, .int bad])), (ow, .inr (0, [.int lf, .ref oaw, .int wr.2])), (oaw, .inl (cIw, 600, .inl wr.1)), (og, .inr (1, [.ref ow, .int st, .int sib, .int tw.1, .int tw.2.1, .int tw.2.2.1, .int tw.2.2.2])), (oc, .inr (0, [.int lf, .ref oac, .int cr.2])), (oac, .inl (cIc, 600, .inl cr.1)), (od, .inr (1, [.ref oc, .int st, .int sib, .int tr.1, .int tr.2.1, .int tr.2.2.1, .int tr.2.2.2]))]) [0, 1, 2, 3, 4, 5, 6] (by decide) rfl
      exact W.iret (v := (-1)) hx hb hr (fun t ht hW => ⟨⟨(-1), tr, rfl, (plX2_readStuffedIfDue_2 st lf ao sib wr tw cr tr bad _ hw_2 c_7 _ hw_4 c_19), by rw [ht]; exact hP9, hD9⟩, hS.F ht⟩) hS.2.2 dX2_readStuffedIfDue_23
  · refine lv_iconst (v := 0) hx hb dX2_readStuffedIfDue_10 (by decide) ?_
    have hP9 := hP.sub (ws' := [(ox, .inr (2, [.int st, .int lf, .int ao, .ref ow, .ref og, .ref oc, .ref od, .int bad])), (ow, .inr (0, [.int lf, .ref oaw, .int wr.2])), (oaw, .inl (cIw, 600, .inl wr.1)), (og, .inr (1, [.ref ow, .int st, .int sib, .int tw.1, .int tw.2.1, .int tw.2.2.1, .int tw.2.2.2])), (oc, .inr (0, [.int lf, .ref oac, .int cr.2])), (oac, .inl (cIc, 600, .inl cr.1)), (od, .inr (1, [.ref oc, .int st, .int sib, .int tr.1, .int tr.2.1, .int tr.2.2.1, .int tr.2.2.2]))]) [0, 1, 2, 3, 4, 5, 6] rfl
    have hD9 := hD.sub (ws' := [(ox, .inr (2, [.int st, .int lf, .int ao, .ref ow, .ref og, .ref oc, .ref od, .int bad])), (ow, .inr (0, [.int lf, .ref oaw, .int wr.2])), (oaw, .inl (cIw, 600, .inl wr.1)), (og, .inr (1, [.ref ow, .int st, .int sib, .int tw.1, .int tw.2.1, .int tw.2.2.1, .int tw.2.2.2])), (oc, .inr (0, [.int lf, .ref oac, .int cr.2])), (oac, .inl (cIc, 600, .inl cr.1)), (od, .inr (1, [.ref oc, .int st, .int sib, .int tr.1, .int tr.2.1, .int tr.2.2.1, .int tr.2.2.2]))]) [0, 1, 2, 3, 4, 5, 6] (by decide) rfl
    exact W.iret (v := 0) hx hb hr (fun t ht hW => ⟨⟨0, tr, rfl, (plX2_readStuffedIfDue_3 st lf ao sib wr tw cr tr bad _ hw_2 c_7), by rw [ht]; exact hP9, hD9⟩, hS.F ht⟩) hS.2.2 dX2_readStuffedIfDue_11
def FX2_readBit (st : Int32) (lf : Int32) (ao : Int32) (sib : Int32) (wr : Rw) (tw : Tk) (cr : Rw) (tr : Tk) (bad : Int32) : Int32 × Tk :=
  let r_1 := FX2_meetHere st lf ao sib wr tw cr tr bad
  if r_1 = 0 then
    let zhw_11 := FX2_readStuffedIfDue st lf ao sib wr tw cr tr bad
    let r_10 := zhw_11.1
    let u_12 := zhw_11.2
    if r_10 = 0 then
      let r_13 := FX0_bitOf lf cr u_12.1
      let u_16 := FX1_stepOver st sib lf u_12 cr r_13
      if ao = 0 then
        if r_10 = 0 then
          (r_13, u_16)
        else
          (r_10, u_16)
      else
        let zhw_18 := FX2_readStuffedIfDue st lf ao sib wr tw cr u_16 bad
        let r_17 := zhw_18.1
        let u_19 := zhw_18.2
        if r_17 = 0 then
          (r_13, u_19)
        else
          (r_17, u_19)
    else
      (r_10, u_12)
  else
    if r_1 = 0 then
      let r_3 := FX0_bitOf lf cr tr.1
      let u_6 := FX1_stepOver st sib lf tr cr r_3
      if ao = 0 then
        if r_1 = 0 then
          (r_3, u_6)
        else
          (r_1, u_6)
      else
        let zhw_8 := FX2_readStuffedIfDue st lf ao sib wr tw cr u_6 bad
        let r_7 := zhw_8.1
        let u_9 := zhw_8.2
        if r_7 = 0 then
          (r_3, u_9)
        else
          (r_7, u_9)
    else
      (r_1, tr)
set_option maxRecDepth 100000 in
theorem plX2_readBit_0 (st : Int32) (lf : Int32) (ao : Int32) (sib : Int32) (wr : Rw) (tw : Tk) (cr : Rw) (tr : Tk) (bad : Int32) (r_1 : Int32) (hw_2 : r_1 = FX2_meetHere st lf ao sib wr tw cr tr bad) (c_6 : ¬ (r_1 = 0)) (c_15 : r_1 = 0) (r_3 : Int32) (hw_4 : r_3 = FX0_bitOf lf cr tr.1) (u_6 : Tk) (hw_5 : u_6 = FX1_stepOver st sib lf tr cr r_3) (c_47 : ao = 0) (c_56 : ¬ (r_1 = 0)) : (r_1, u_6) = FX2_readBit st lf ao sib wr tw cr tr bad := by
  subst hw_2
  subst hw_4
  subst hw_5
  exact ((((if_neg c_6).trans (if_pos c_15)).trans (if_pos c_47)).trans (if_neg c_56)).symm
set_option maxRecDepth 100000 in
theorem plX2_readBit_1 (st : Int32) (lf : Int32) (ao : Int32) (sib : Int32) (wr : Rw) (tw : Tk) (cr : Rw) (tr : Tk) (bad : Int32) (r_1 : Int32) (hw_2 : r_1 = FX2_meetHere st lf ao sib wr tw cr tr bad) (c_6 : ¬ (r_1 = 0)) (c_15 : r_1 = 0) (r_3 : Int32) (hw_4 : r_3 = FX0_bitOf lf cr tr.1) (u_6 : Tk) (hw_5 : u_6 = FX1_stepOver st sib lf tr cr r_3) (c_47 : ao = 0) (c_56 : r_1 = 0) : (r_3, u_6) = FX2_readBit st lf ao sib wr tw cr tr bad := by
  subst hw_2
  subst hw_4
  subst hw_5
  exact ((((if_neg c_6).trans (if_pos c_15)).trans (if_pos c_47)).trans (if_pos c_56)).symm
set_option maxRecDepth 100000 in
theorem plX2_readBit_2 (st : Int32) (lf : Int32) (ao : Int32) (sib : Int32) (wr : Rw) (tw : Tk) (cr : Rw) (tr : Tk) (bad : Int32) (r_1 : Int32) (hw_2 : r_1 = FX2_meetHere st lf ao sib wr tw cr tr bad) (c_6 : ¬ (r_1 = 0)) (c_15 : r_1 = 0) (r_3 : Int32) (hw_4 : r_3 = FX0_bitOf lf cr tr.1) (u_6 : Tk) (hw_5 : u_6 = FX1_stepOver st sib lf tr cr r_3) (c_47 : ¬ (ao = 0)) (r_7 : Int32) (u_9 : Tk) (hw_8 : (r_7, u_9) = FX2_readStuffedIfDue st lf ao sib wr tw cr u_6 bad) (c_56 : ¬ (r_7 = 0)) : (r_7, u_9) = FX2_readBit st lf ao sib wr tw cr tr bad := by
  subst hw_2
  subst hw_4
  subst hw_5
  have q0 := congrArg (fun z => z.1) hw_8
  have q1 := congrArg (fun z => z.2) hw_8
  dsimp only at q0 q1
  subst q0
  subst q1
  clear hw_8
  exact ((((if_neg c_6).trans (if_pos c_15)).trans (if_neg c_47)).trans (if_neg c_56)).symm
set_option maxRecDepth 100000 in
theorem plX2_readBit_3 (st : Int32) (lf : Int32) (ao : Int32) (sib : Int32) (wr : Rw) (tw : Tk) (cr : Rw) (tr : Tk) (bad : Int32) (r_1 : Int32) (hw_2 : r_1 = FX2_meetHere st lf ao sib wr tw cr tr bad) (c_6 : ¬ (r_1 = 0)) (c_15 : r_1 = 0) (r_3 : Int32) (hw_4 : r_3 = FX0_bitOf lf cr tr.1) (u_6 : Tk) (hw_5 : u_6 = FX1_stepOver st sib lf tr cr r_3) (c_47 : ¬ (ao = 0)) (r_7 : Int32) (u_9 : Tk) (hw_8 : (r_7, u_9) = FX2_readStuffedIfDue st lf ao sib wr tw cr u_6 bad) (c_56 : r_7 = 0) : (r_3, u_9) = FX2_readBit st lf ao sib wr tw cr tr bad := by
  subst hw_2
  subst hw_4
  subst hw_5
  have q0 := congrArg (fun z => z.1) hw_8
  have q1 := congrArg (fun z => z.2) hw_8
  dsimp only at q0 q1
  subst q0
  subst q1
  clear hw_8
  exact ((((if_neg c_6).trans (if_pos c_15)).trans (if_neg c_47)).trans (if_pos c_56)).symm
set_option maxRecDepth 100000 in
theorem plX2_readBit_4 (st : Int32) (lf : Int32) (ao : Int32) (sib : Int32) (wr : Rw) (tw : Tk) (cr : Rw) (tr : Tk) (bad : Int32) (r_1 : Int32) (hw_2 : r_1 = FX2_meetHere st lf ao sib wr tw cr tr bad) (c_6 : ¬ (r_1 = 0)) (c_15 : ¬ (r_1 = 0)) : (r_1, tr) = FX2_readBit st lf ao sib wr tw cr tr bad := by
  subst hw_2
  exact ((if_neg c_6).trans (if_neg c_15)).symm
set_option maxRecDepth 100000 in
theorem plX2_readBit_5 (st : Int32) (lf : Int32) (ao : Int32) (sib : Int32) (wr : Rw) (tw : Tk) (cr : Rw) (tr : Tk) (bad : Int32) (r_1 : Int32) (hw_2 : r_1 = FX2_meetHere st lf ao sib wr tw cr tr bad) (c_6 : r_1 = 0) (r_10 : Int32) (u_12 : Tk) (hw_11 : (r_10, u_12) = FX2_readStuffedIfDue st lf ao sib wr tw cr tr bad) (c_15 : r_10 = 0) (r_13 : Int32) (hw_14 : r_13 = FX0_bitOf lf cr u_12.1) (u_16 : Tk) (hw_15 : u_16 = FX1_stepOver st sib lf u_12 cr r_13) (c_47 : ao = 0) (c_56 : ¬ (r_10 = 0)) : (r_10, u_16) = FX2_readBit st lf ao sib wr tw cr tr bad := by
  subst hw_2
  have q0 := congrArg (fun z => z.1) hw_11
  have q1 := congrArg (fun z => z.2) hw_11
  dsimp only at q0 q1
  subst q0
  subst q1
  clear hw_11
  subst hw_14
  subst hw_15
  exact ((((if_pos c_6).trans (if_pos c_15)).trans (if_pos c_47)).trans (if_neg c_56)).symm
set_option maxRecDepth 100000 in
theorem plX2_readBit_6 (st : Int32) (lf : Int32) (ao : Int32) (sib : Int32) (wr : Rw) (tw : Tk) (cr : Rw) (tr : Tk) (bad : Int32) (r_1 : Int32) (hw_2 : r_1 = FX2_meetHere st lf ao sib wr tw cr tr bad) (c_6 : r_1 = 0) (r_10 : Int32) (u_12 : Tk) (hw_11 : (r_10, u_12) = FX2_readStuffedIfDue st lf ao sib wr tw cr tr bad) (c_15 : r_10 = 0) (r_13 : Int32) (hw_14 : r_13 = FX0_bitOf lf cr u_12.1) (u_16 : Tk) (hw_15 : u_16 = FX1_stepOver st sib lf u_12 cr r_13) (c_47 : ao = 0) (c_56 : r_10 = 0) : (r_13, u_16) = FX2_readBit st lf ao sib wr tw cr tr bad := by
  subst hw_2
  have q0 := congrArg (fun z => z.1) hw_11
  have q1 := congrArg (fun z => z.2) hw_11
  dsimp only at q0 q1
  subst q0
  subst q1
  clear hw_11
  subst hw_14
  subst hw_15
  exact ((((if_pos c_6).trans (if_pos c_15)).trans (if_pos c_47)).trans (if_pos c_56)).symm
set_option maxRecDepth 100000 in
theorem plX2_readBit_7 (st : Int32) (lf : Int32) (ao : Int32) (sib : Int32) (wr : Rw) (tw : Tk) (cr : Rw) (tr : Tk) (bad : Int32) (r_1 : Int32) (hw_2 : r_1 = FX2_meetHere st lf ao sib wr tw cr tr bad) (c_6 : r_1 = 0) (r_10 : Int32) (u_12 : Tk) (hw_11 : (r_10, u_12) = FX2_readStuffedIfDue st lf ao sib wr tw cr tr bad) (c_15 : r_10 = 0) (r_13 : Int32) (hw_14 : r_13 = FX0_bitOf lf cr u_12.1) (u_16 : Tk) (hw_15 : u_16 = FX1_stepOver st sib lf u_12 cr r_13) (c_47 : ¬ (ao = 0)) (r_17 : Int32) (u_19 : Tk) (hw_18 : (r_17, u_19) = FX2_readStuffedIfDue st lf ao sib wr tw cr u_16 bad) (c_56 : ¬ (r_17 = 0)) : (r_17, u_19) = FX2_readBit st lf ao sib wr tw cr tr bad := by
  subst hw_2
  have q0 := congrArg (fun z => z.1) hw_11
  have q1 := congrArg (fun z => z.2) hw_11
  dsimp only at q0 q1
  subst q0
  subst q1
  clear hw_11
  subst hw_14
  subst hw_15
  have q0 := congrArg (fun z => z.1) hw_18
  have q1 := congrArg (fun z => z.2) hw_18
  dsimp only at q0 q1
  subst q0
  subst q1
  clear hw_18
  exact ((((if_pos c_6).trans (if_pos c_15)).trans (if_neg c_47)).trans (if_neg c_56)).symm
set_option maxRecDepth 100000 in
theorem plX2_readBit_8 (st : Int32) (lf : Int32) (ao : Int32) (sib : Int32) (wr : Rw) (tw : Tk) (cr : Rw) (tr : Tk) (bad : Int32) (r_1 : Int32) (hw_2 : r_1 = FX2_meetHere st lf ao sib wr tw cr tr bad) (c_6 : r_1 = 0) (r_10 : Int32) (u_12 : Tk) (hw_11 : (r_10, u_12) = FX2_readStuffedIfDue st lf ao sib wr tw cr tr bad) (c_15 : r_10 = 0) (r_13 : Int32) (hw_14 : r_13 = FX0_bitOf lf cr u_12.1) (u_16 : Tk) (hw_15 : u_16 = FX1_stepOver st sib lf u_12 cr r_13) (c_47 : ¬ (ao = 0)) (r_17 : Int32) (u_19 : Tk) (hw_18 : (r_17, u_19) = FX2_readStuffedIfDue st lf ao sib wr tw cr u_16 bad) (c_56 : r_17 = 0) : (r_13, u_19) = FX2_readBit st lf ao sib wr tw cr tr bad := by
  subst hw_2
  have q0 := congrArg (fun z => z.1) hw_11
  have q1 := congrArg (fun z => z.2) hw_11
  dsimp only at q0 q1
  subst q0
  subst q1
  clear hw_11
  subst hw_14
  subst hw_15
  have q0 := congrArg (fun z => z.1) hw_18
  have q1 := congrArg (fun z => z.2) hw_18
  dsimp only at q0 q1
  subst q0
  subst q1
  clear hw_18
  exact ((((if_pos c_6).trans (if_pos c_15)).trans (if_neg c_47)).trans (if_pos c_56)).symm
set_option maxRecDepth 100000 in
theorem plX2_readBit_9 (st : Int32) (lf : Int32) (ao : Int32) (sib : Int32) (wr : Rw) (tw : Tk) (cr : Rw) (tr : Tk) (bad : Int32) (r_1 : Int32) (hw_2 : r_1 = FX2_meetHere st lf ao sib wr tw cr tr bad) (c_6 : r_1 = 0) (r_10 : Int32) (u_12 : Tk) (hw_11 : (r_10, u_12) = FX2_readStuffedIfDue st lf ao sib wr tw cr tr bad) (c_15 : ¬ (r_10 = 0)) : (r_10, u_12) = FX2_readBit st lf ao sib wr tw cr tr bad := by
  subst hw_2
  have q0 := congrArg (fun z => z.1) hw_11
  have q1 := congrArg (fun z => z.2) hw_11
  dsimp only at q0 q1
  subst q0
  subst q1
  clear hw_11
  exact ((if_pos c_6).trans (if_neg c_15)).symm
set_option maxHeartbeats 4000000 in
set_option maxRecDepth 100000 in
theorem mX2_readBit (l : Launch) (dC : Nat → ClassId) (dI : Nat → Nat → Nat) (cIw cIc : ClassId) (ox ow oaw og oc oac od : Nat) (sz : Nat) (st : Int32) (lf : Int32) (ao : Int32) (sib : Int32) (wr : Rw) (tw : Tk) (cr : Rw) (tr : Tk) (bad : Int32) : Met l yX2_readBit (Cond.code yX2_readBit cX2_readBit 3 (some .int) :: G) ({ frames := 4, cells := 0, slots := 0, locals := 82 } : Room) (va_Pc [.ref ox] (fun U => U.heap.size = sz ∧ va_P (dC, dI) vwCl [(ox, .inr (2, [.int st, .int lf, .int ao, .ref ow, .ref og, .ref oc, .ref od, .int bad])), (ow, .inr (0, [.int lf, .ref oaw, .int wr.2])), (oaw, .inl (cIw, 600, .inl wr.1)), (og, .inr (1, [.ref ow, .int st, .int sib, .int tw.1, .int tw.2.1, .int tw.2.2.1, .int tw.2.2.2])), (oc, .inr (0, [.int lf, .ref oac, .int cr.2])), (oac, .inl (cIc, 600, .inl cr.1)), (od, .inr (1, [.ref oc, .int st, .int sib, .int tr.1, .int tr.2.1, .int tr.2.2.1, .int tr.2.2.2]))] U.heap ∧ va_K (dC, dI) vwCl [(cIw, .int), (cIc, .int)] U ∧ va_D (fun _ => True) [(ox, .inr (2, [.int st, .int lf, .int ao, .ref ow, .ref og, .ref oc, .ref od, .int bad])), (ow, .inr (0, [.int lf, .ref oaw, .int wr.2])), (oaw, .inl (cIw, 600, .inl wr.1)), (og, .inr (1, [.ref ow, .int st, .int sib, .int tw.1, .int tw.2.1, .int tw.2.2.1, .int tw.2.2.2])), (oc, .inr (0, [.int lf, .ref oac, .int cr.2])), (oac, .inl (cIc, 600, .inl cr.1)), (od, .inr (1, [.ref oc, .int st, .int sib, .int tr.1, .int tr.2.1, .int tr.2.2.1, .int tr.2.2.2]))] ∧ zOk U)) (va_Qi (fun (r : Int32) (u : Tk) => (r, u) = (FX2_readBit st lf ao sib wr tw cr tr bad)) (fun (u : Tk) t => va_P (dC, dI) vwCl [(ox, .inr (2, [.int st, .int lf, .int ao, .ref ow, .ref og, .ref oc, .ref od, .int bad])), (ow, .inr (0, [.int lf, .ref oaw, .int wr.2])), (oaw, .inl (cIw, 600, .inl wr.1)), (og, .inr (1, [.ref ow, .int st, .int sib, .int tw.1, .int tw.2.1, .int tw.2.2.1, .int tw.2.2.2])), (oc, .inr (0, [.int lf, .ref oac, .int cr.2])), (oac, .inl (cIc, 600, .inl cr.1)), (od, .inr (1, [.ref oc, .int st, .int sib, .int u.1, .int u.2.1, .int u.2.2.1, .int u.2.2.2]))] t.heap ∧ va_D (va_A [(ox, .inr (2, [.int st, .int lf, .int ao, .ref ow, .ref og, .ref oc, .ref od, .int bad])), (ow, .inr (0, [.int lf, .ref oaw, .int wr.2])), (oaw, .inl (cIw, 600, .inl wr.1)), (og, .inr (1, [.ref ow, .int st, .int sib, .int tw.1, .int tw.2.1, .int tw.2.2.1, .int tw.2.2.2])), (oc, .inr (0, [.int lf, .ref oac, .int cr.2])), (oac, .inl (cIc, 600, .inl cr.1)), (od, .inr (1, [.ref oc, .int st, .int sib, .int tr.1, .int tr.2.1, .int tr.2.2.1, .int tr.2.2.2]))] sz) [(ox, .inr (2, [.int st, .int lf, .int ao, .ref ow, .ref og, .ref oc, .ref od, .int bad])), (ow, .inr (0, [.int lf, .ref oaw, .int wr.2])), (oaw, .inl (cIw, 600, .inl wr.1)), (og, .inr (1, [.ref ow, .int st, .int sib, .int tw.1, .int tw.2.1, .int tw.2.2.1, .int tw.2.2.2])), (oc, .inr (0, [.int lf, .ref oac, .int cr.2])), (oac, .inl (cIc, 600, .inl cr.1)), (od, .inr (1, [.ref oc, .int st, .int sib, .int u.1, .int u.2.1, .int u.2.2.1, .int u.2.2.2]))]) (va_A [(ox, .inr (2, [.int st, .int lf, .int ao, .ref ow, .ref og, .ref oc, .ref od, .int bad])), (ow, .inr (0, [.int lf, .ref oaw, .int wr.2])), (oaw, .inl (cIw, 600, .inl wr.1)), (og, .inr (1, [.ref ow, .int st, .int sib, .int tw.1, .int tw.2.1, .int tw.2.2.1, .int tw.2.2.2])), (oc, .inr (0, [.int lf, .ref oac, .int cr.2])), (oac, .inl (cIc, 600, .inl cr.1)), (od, .inr (1, [.ref oc, .int st, .int sib, .int tr.1, .int tr.2.1, .int tr.2.2.1, .int tr.2.2.2]))] sz)) 0 0 (va_A [(ox, .inr (2, [.int st, .int lf, .int ao, .ref ow, .ref og, .ref oc, .ref od, .int bad])), (ow, .inr (0, [.int lf, .ref oaw, .int wr.2])), (oaw, .inl (cIw, 600, .inl wr.1)), (og, .inr (1, [.ref ow, .int st, .int sib, .int tw.1, .int tw.2.1, .int tw.2.2.1, .int tw.2.2.2])), (oc, .inr (0, [.int lf, .ref oac, .int cr.2])), (oac, .inl (cIc, 600, .inl cr.1)), (od, .inr (1, [.ref oc, .int st, .int sib, .int tr.1, .int tr.2.1, .int tr.2.2.1, .int tr.2.2.2]))] sz) := by
  refine Met.ofW (cc := cX2_readBit) (maxL := 3) (ret := (some .int)) (by decide) rfl ?_
  intro p e s m args below meth c s₁ B hml hv
  obtain ⟨rfl, hsz, hP, hK, hD0, hZ⟩ := hv
  have hx := B.exec
  have hb := B.bytes
  have hr := B.returns
  have hts : ∀ w ∈ G, w.before [.ref ox].toArray s = true := fun w h => atoms_spec (ws := (Cond.code yX2_readBit cX2_readBit 3 (some .int) :: G)) B.pre w (List.mem_cons_of_mem _ h)
  have hown : s.vm.findClass RX2 = some m.cls := findClass_of_methodNamed B.named
  have hlocks := B.notSynchronized
  subst hsz
  have hD := hD0.self (sz := s.heap.size)
  generalize hAe : va_A [(ox, .inr (2, [.int st, .int lf, .int ao, .ref ow, .ref og, .ref oc, .ref od, .int bad])), (ow, .inr (0, [.int lf, .ref oaw, .int wr.2])), (oaw, .inl (cIw, 600, .inl wr.1)), (og, .inr (1, [.ref ow, .int st, .int sib, .int tw.1, .int tw.2.1, .int tw.2.2.1, .int tw.2.2.2])), (oc, .inr (0, [.int lf, .ref oac, .int cr.2])), (oac, .inl (cIc, 600, .inl cr.1)), (od, .inr (1, [.ref oc, .int st, .int sib, .int tr.1, .int tr.2.1, .int tr.2.2.1, .int tr.2.2.2]))] s.heap.size = A at hD ⊢
  have hA : ∀ q : Nat, s.heap.size ≤ q → A q := fun q h => by rw [← hAe]; exact Or.inr h
  have hS : va_S A s.heap s.heap [] := va_S.rf
  have hP : va_P (dC, dI) vwCl [(ox, .inr (2, [.int st, .int lf, .int ao, .ref ow, .ref og, .ref oc, .ref od, .int bad])), (ow, .inr (0, [.int lf, .ref oaw, .int wr.2])), (oaw, .inl (cIw, 600, .inl wr.1)), (og, .inr (1, [.ref ow, .int st, .int sib, .int tw.1, .int tw.2.1, .int tw.2.2.1, .int tw.2.2.2])), (oc, .inr (0, [.int lf, .ref oac, .int cr.2])), (oac, .inl (cIc, 600, .inl cr.1)), (od, .inr (1, [.ref oc, .int st, .int sib, .int tr.1, .int tr.2.1, .int tr.2.2.1, .int tr.2.2.2]))] s.heap := hP
  have hl := lv_entry ([.ref ox]) (n := 3) (Nat.le_of_ble_eq_true rfl)
  rw [lg_entry_eq]
  generalize (lg_sl ([.ref ox]) ++ List.replicate (3 - (lg_sl ([.ref ox])).length) Slot.unset).toArray = ls at hl ⊢
  have hl : lv_has ls 3 [(0, .ref ox)] := hl
  refine lv_aload_n hx hb dX2_readBit_0 rfl (lv_at hl 0 rfl) ?_
  have hPc := hP.sub (ws' := [(ox, .inr (2, [.int st, .int lf, .int ao, .ref ow, .ref og, .ref oc, .ref od, .int bad])), (ow, .inr (0, [.int lf, .ref oaw, .int wr.2])), (oaw, .inl (cIw, 600, .inl wr.1)), (og, .inr (1, [.ref ow, .int st, .int sib, .int tw.1, .int tw.2.1, .int tw.2.2.1, .int tw.2.2.2])), (oc, .inr (0, [.int lf, .ref oac, .int cr.2])), (oac, .inl (cIc, 600, .inl cr.1)), (od, .inr (1, [.ref oc, .int st, .int sib, .int tr.1, .int tr.2.1, .int tr.2.2.1, .int tr.2.2.2]))]) [0, 1, 2, 3, 4, 5, 6] rfl
  have hKc := hK.sub (tys' := [(cIw, .int), (cIc, .int)]) [0, 1] rfl
  refine vp_callSi (va_Run.run (va_runV (As := []) (rest := []) ⟨hx, hb, hml, hown, hts⟩ (mX2_meetHere l dC dI cIw cIc ox ow oaw og oc oac od st lf ao sib wr tw cr tr bad) (cwV 0 hts (gV wd395 wd396 wd9 wd26 wd397) rfl rfl rfl (by decide +kernel) ⟨Nat.le_of_ble_eq_true rfl, Nat.le_of_ble_eq_true rfl⟩) ⟨fb_ro, va_recv hKc hPc (ci := 2) (q0 := 0) rfl rfl, pre_ro hPc hKc hZ⟩ rfl rfl hl.1 rfl (lv_room (Nat.le_of_ble_eq_true rfl)) dX2_readBit_1 ⟨Nat.le_of_ble_eq_true rfl, Nat.le_of_ble_eq_true rfl⟩)) (fun r_1 hw_2 => ?_)
  refine lv_istore_n (lv' := [(1, .int r_1), (0, .ref ox)]) hx hb dX2_readBit_4 rfl hl (by decide) rfl (fun ls hl => ?_)
  refine lv_iload_n hx hb dX2_readBit_5 rfl (lv_at hl 0 rfl) ?_
  refine lv_if_ne (tgt := 14) hx hb dX2_readBit_6 (by decide) (fun c_6 => ?_) (fun c_6 => ?_)
  · refine lv_iload_n hx hb dX2_readBit_14 rfl (lv_at hl 0 rfl) ?_
    refine lv_if_eq (tgt := 20) hx hb dX2_readBit_15 (by decide) (fun c_15 => ?_) (fun c_15 => ?_)
    · refine lv_aload_n hx hb dX2_readBit_20 rfl (lv_at hl 1 rfl) ?_
      refine va_get (D := (dC, dI)) (ci := 2) (v := .ref oc) (C := RX2) (T := TX2) (N := 8) hx hb hts inGX2 hown hK hP 0 rfl rfl 5 (by decide) (hts _ wd103) (fun _ h9 => h9) rfl dX2_readBit_21 ?_
      refine lv_aload_n hx hb dX2_readBit_24 rfl (lv_at hl 1 rfl) ?_
      refine va_get (D := (dC, dI)) (ci := 2) (v := .ref od) (C := RX2) (T := TX2) (N := 8) hx hb hts inGX2 hown hK hP 0 rfl rfl 6 (by decide) (hts _ wd104) (fun _ h9 => h9) rfl dX2_readBit_25 ?_
      refine va_getN (D := (dC, dI)) (ci := 1) (v := .int tr.1) (C := RX1) (T := TX1) (N := 7) hx hb hts inGX1 hown hK hP 6 rfl rfl 3 (by decide) (hZ.use zw2 rfl) (fun _ h9 => h9) rfl dX2_readBit_28 ?_
      have hPc := hP.sub (ws' := [(oc, .inr (0, [.int lf, .ref oac, .int cr.2])), (oac, .inl (cIc, 600, .inl cr.1))]) [4, 5] rfl
      have hKc := hK.sub (tys' := [(cIc, .int)]) [1] rfl
      refine vp_callSi (va_Run.run (va_runV (As := [.int tr.1]) (rest := []) ⟨hx, hb, hml, hown, hts⟩ (mX0_bitOf l dC dI cIc oc oac lf cr tr.1) (cwV 1 hts (gV wd150 wd151 wd152 wd28 wd153) rfl rfl rfl (by decide +kernel) ⟨Nat.le_of_ble_eq_true rfl, Nat.le_of_ble_eq_true rfl⟩) ⟨fb_ro, va_recv hKc hPc (ci := 0) (q0 := 0) rfl rfl, pre_ro hPc hKc hZ⟩ rfl rfl hl.1 rfl (lv_room (Nat.le_of_ble_eq_true rfl)) dX2_readBit_31 ⟨Nat.le_of_ble_eq_true rfl, Nat.le_of_ble_eq_true rfl⟩)) (fun r_3 hw_4 => ?_)
      refine lv_istore_n (lv' := [(2, .int r_3), (1, .int r_1), (0, .ref ox)]) hx hb dX2_readBit_34 rfl hl (by decide) rfl (fun ls hl => ?_)
      refine lv_aload_n hx hb dX2_readBit_35 rfl (lv_at hl 2 rfl) ?_
      refine va_get (D := (dC, dI)) (ci := 2) (v := .ref od) (C := RX2) (T := TX2) (N := 8) hx hb hts inGX2 hown hK hP 0 rfl rfl 6 (by decide) (hts _ wd104) (fun _ h9 => h9) rfl dX2_readBit_36 ?_
      refine lv_iload_n hx hb dX2_readBit_39 rfl (lv_at hl 0 rfl) ?_
      have hPc := hP.sub (ws' := [(od, .inr (1, [.ref oc, .int st, .int sib, .int tr.1, .int tr.2.1, .int tr.2.2.1, .int tr.2.2.2])), (oc, .inr (0, [.int lf, .ref oac, .int cr.2])), (oac, .inl (cIc, 600, .inl cr.1))]) [6, 4, 5] rfl
      have hKc := hK.sub (tys' := [(cIc, .int)]) [1] rfl
      have hDc := hD.sub (ws' := [(od, .inr (1, [.ref oc, .int st, .int sib, .int tr.1, .int tr.2.1, .int tr.2.2.1, .int tr.2.2.2])), (oc, .inr (0, [.int lf, .ref oac, .int cr.2])), (oac, .inl (cIc, 600, .inl cr.1))]) [6, 4, 5] (by decide) rfl
      have hFc := va_free (wc := [(od, .inr (1, [.ref oc, .int st, .int sib, .int tr.1, .int tr.2.1, .int tr.2.2.1, .int tr.2.2.2])), (oc, .inr (0, [.int lf, .ref oac, .int cr.2])), (oac, .inl (cIc, 600, .inl cr.1))]) hD hS hA [6, 4, 5] rfl
      refine va_callv (va_runV (As := [.int r_3]) (rest := []) ⟨hx, hb, hml, hown, hts⟩ (mX1_stepOver l dC dI cIc od oc oac s.heap.size st sib lf tr cr r_3) (cwV 1 hts (gV wd158 wd159 wd160 wd29 wd161) rfl rfl rfl (by decide +kernel) ⟨Nat.le_of_ble_eq_true rfl, Nat.le_of_ble_eq_true rfl⟩) ⟨fb_rw, va_recv hKc hPc (ci := 1) (q0 := 0) rfl rfl, pre_rw hPc hKc hDc hZ⟩ rfl rfl hl.1 rfl (lv_room (Nat.le_of_ble_eq_true rfl)) dX2_readBit_40 ⟨Nat.le_of_ble_eq_true rfl, Nat.le_of_ble_eq_true rfl⟩) hS (fun q _ h => hFc q h) hFc (fun u_6 t H1 locs ht hvm hw_5 hB hz1 hk1 hS => ?_)
      obtain ⟨hP1, hD1⟩ := hB
      rw [ht] at hP1
      obtain ⟨hP, hD⟩ := va_join (wr := [(ox, .inr (2, [.int st, .int lf, .int ao, .ref ow, .ref og, .ref oc, .ref od, .int bad])), (ow, .inr (0, [.int lf, .ref oaw, .int wr.2])), (oaw, .inl (cIw, 600, .inl wr.1)), (og, .inr (1, [.ref ow, .int st, .int sib, .int tw.1, .int tw.2.1, .int tw.2.2.1, .int tw.2.2.2]))]) (w1 := [(od, .inr (1, [.ref oc, .int st, .int sib, .int u_6.1, .int u_6.2.1, .int u_6.2.2.1, .int u_6.2.2.2])), (oc, .inr (0, [.int lf, .ref oac, .int cr.2])), (oac, .inl (cIc, 600, .inl cr.1))]) hP hD [6, 4, 5] [0, 1, 2, 3] rfl rfl (by decide) (by decide) hk1 hFc hP1 hD1
      generalize H1 = H at hP hS ⊢
      have hP : va_P (dC, dI) vwCl [(ox, .inr (2, [.int st, .int lf, .int ao, .ref ow, .ref og, .ref oc, .ref od, .int bad])), (ow, .inr (0, [.int lf, .ref oaw, .int wr.2])), (oaw, .inl (cIw, 600, .inl wr.1)), (og, .inr (1, [.ref ow, .int st, .int sib, .int tw.1, .int tw.2.1, .int tw.2.2.1, .int tw.2.2.2])), (od, .inr (1, [.ref oc, .int st, .int sib, .int u_6.1, .int u_6.2.1, .int u_6.2.2.1, .int u_6.2.2.2])), (oc, .inr (0, [.int lf, .ref oac, .int cr.2])), (oac, .inl (cIc, 600, .inl cr.1))] H := hP
      have hD : va_D A [(ox, .inr (2, [.int st, .int lf, .int ao, .ref ow, .ref og, .ref oc, .ref od, .int bad])), (ow, .inr (0, [.int lf, .ref oaw, .int wr.2])), (oaw, .inl (cIw, 600, .inl wr.1)), (og, .inr (1, [.ref ow, .int st, .int sib, .int tw.1, .int tw.2.1, .int tw.2.2.1, .int tw.2.2.2])), (od, .inr (1, [.ref oc, .int st, .int sib, .int u_6.1, .int u_6.2.1, .int u_6.2.2.1, .int u_6.2.2.2])), (oc, .inr (0, [.int lf, .ref oac, .int cr.2])), (oac, .inl (cIc, 600, .inl cr.1))] := hD
      refine lv_aload_n hx hb dX2_readBit_43 rfl (lv_at hl 2 rfl) ?_
      refine va_get (D := (dC, dI)) (ci := 2) (v := .int ao) (C := RX2) (T := TX2) (N := 8) hx hb hts inGX2 hown hK hP 0 rfl rfl 2 (by decide) (hts _ wd100) (fun _ h9 => h9) rfl dX2_readBit_44 ?_
      refine lv_if_eq (tgt := 55) hx hb dX2_readBit_47 (by decide) (fun c_47 => ?_) (fun c_47 => ?_)
      · refine lv_iload_n hx hb dX2_readBit_55 rfl (lv_at hl 1 rfl) ?_
        refine lv_if_ne (tgt := 63) hx hb dX2_readBit_56 (by decide) (fun c_56 => ?_) (fun c_56 => ?_)
        · refine lv_iload_n hx hb dX2_readBit_63 rfl (lv_at hl 1 rfl) ?_
          have hP9 := hP.sub (ws' := [(ox, .inr (2, [.int st, .int lf, .int ao, .ref ow, .ref og, .ref oc, .ref od, .int bad])), (ow, .inr (0, [.int lf, .ref oaw, .int wr.2])), (oaw, .inl (cIw, 600, .inl wr.1)), (og, .inr (1, [.ref ow, .int st, .int sib, .int tw.1, .int tw.2.1, .int tw.2.2.1, .int tw.2.2.2])), (oc, .inr (0, [.int lf, .ref oac, .int cr.2])), (oac, .inl (cIc, 600, .inl cr.1)), (od, .inr (1, [.ref oc, .int st, .int sib, .int u_6.1, .int u_6.2.1, .int u_6.2.2.1, .int u_6.2.2.2]))]) [0, 1, 2, 3, 5, 6, 4] rfl
          have hD9 := hD.sub (ws' := [(ox, .inr (2, [.int st, .int lf, .int ao, .ref ow, .ref og, .ref oc, .ref od, .int bad])), (ow, .inr (0, [.int lf, .ref oaw, .int wr.2])), (oaw, .inl (cIw, 600, .inl wr.1)), (og, .inr (1, [.ref ow, .int st, .int sib, .int tw.1, .int tw.2.1, .int tw.2.2.1, .int tw.2.2.2])), (oc, .inr (0, [.int lf, .ref oac, .int cr.2])), (oac, .inl (cIc, 600, .inl cr.1)), (od, .inr (1, [.ref oc, .int st, .int sib, .int u_6.1, .int u_6.2.1, .int u_6.2.2.1, .int u_6.2.2.2]))]) [0, 1, 2, 3, 5, 6, 4] (by decide) rfl
          exact W.iret (v := r_1) hx hb hr (fun t ht hW => ⟨⟨r_1, u_6, rfl, (plX2_readBit_0 st lf ao sib wr tw cr tr bad _ hw_2 c_6 c_15 _ hw_4 _ hw_5 c_47 c_56), by rw [ht]; exact hP9, hD9⟩, hS.F ht⟩) hS.2.2 dX2_readBit_64
        · refine lv_iload_n hx hb dX2_readBit_59 rfl (lv_at hl 0 rfl) ?_
          refine lv_goto (tgt := 64) hx hb dX2_readBit_60 (by decide) ?_
          have hP9 := hP.sub (ws' := [(ox, .inr (2, [.int st, .int lf, .int ao, .ref ow, .ref og, .ref oc, .ref od, .int bad])), (ow, .inr (0, [.int lf, .ref oaw, .int wr.2])), (oaw, .inl (cIw, 600, .inl wr.1)), (og, .inr (1, [.ref ow, .int st, .int sib, .int tw.1, .int tw.2.1, .int tw.2.2.1, .int tw.2.2.2])), (oc, .inr (0, [.int lf, .ref oac, .int cr.2])), (oac, .inl (cIc, 600, .inl cr.1)), (od, .inr (1, [.ref oc, .int st, .int sib, .int u_6.1, .int u_6.2.1, .int u_6.2.2.1, .int u_6.2.2.2]))]) [0, 1, 2, 3, 5, 6, 4] rfl
          have hD9 := hD.sub (ws' := [(ox, .inr (2, [.int st, .int lf, .int ao, .ref ow, .ref og, .ref oc, .ref od, .int bad])), (ow, .inr (0, [.int lf, .ref oaw, .int wr.2])), (oaw, .inl (cIw, 600, .inl wr.1)), (og, .inr (1, [.ref ow, .int st, .int sib, .int tw.1, .int tw.2.1, .int tw.2.2.1, .int tw.2.2.2])), (oc, .inr (0, [.int lf, .ref oac, .int cr.2])), (oac, .inl (cIc, 600, .inl cr.1)), (od, .inr (1, [.ref oc, .int st, .int sib, .int u_6.1, .int u_6.2.1, .int u_6.2.2.1, .int u_6.2.2.2]))]) [0, 1, 2, 3, 5, 6, 4] (by decide) rfl
          exact W.iret (v := r_3) hx hb hr (fun t ht hW => ⟨⟨r_3, u_6, rfl, (plX2_readBit_1 st lf ao sib wr tw cr tr bad _ hw_2 c_6 c_15 _ hw_4 _ hw_5 c_47 c_56), by rw [ht]; exact hP9, hD9⟩, hS.F ht⟩) hS.2.2 dX2_readBit_64
      · refine lv_aload_n hx hb dX2_readBit_50 rfl (lv_at hl 2 rfl) ?_
        have hPc := hP.sub (ws' := [(ox, .inr (2, [.int st, .int lf, .int ao, .ref ow, .ref og, .ref oc, .ref od, .int bad])), (ow, .inr (0, [.int lf, .ref oaw, .int wr.2])), (oaw, .inl (cIw, 600, .inl wr.1)), (og, .inr (1, [.ref ow, .int st, .int sib, .int tw.1, .int tw.2.1, .int tw.2.2.1, .int tw.2.2.2])), (oc, .inr (0, [.int lf, .ref oac, .int cr.2])), (oac, .inl (cIc, 600, .inl cr.1)), (od, .inr (1, [.ref oc, .int st, .int sib, .int u_6.1, .int u_6.2.1, .int u_6.2.2.1, .int u_6.2.2.2]))]) [0, 1, 2, 3, 5, 6, 4] rfl
        have hKc := hK.sub (tys' := [(cIw, .int), (cIc, .int)]) [0, 1] rfl
        have hDc := hD.sub (ws' := [(ox, .inr (2, [.int st, .int lf, .int ao, .ref ow, .ref og, .ref oc, .ref od, .int bad])), (ow, .inr (0, [.int lf, .ref oaw, .int wr.2])), (oaw, .inl (cIw, 600, .inl wr.1)), (og, .inr (1, [.ref ow, .int st, .int sib, .int tw.1, .int tw.2.1, .int tw.2.2.1, .int tw.2.2.2])), (oc, .inr (0, [.int lf, .ref oac, .int cr.2])), (oac, .inl (cIc, 600, .inl cr.1)), (od, .inr (1, [.ref oc, .int st, .int sib, .int u_6.1, .int u_6.2.1, .int u_6.2.2.1, .int u_6.2.2.2]))]) [0, 1, 2, 3, 5, 6, 4] (by decide) rfl
        have hFc := va_free (wc := [(ox, .inr (2, [.int st, .int lf, .int ao, .ref ow, .ref og, .ref oc, .ref od, .int bad])), (ow, .inr (0, [.int lf, .ref oaw, .int wr.2])), (oaw, .inl (cIw, 600, .inl wr.1)), (og, .inr (1, [.ref ow, .int st, .int sib, .int tw.1, .int tw.2.1, .int tw.2.2.1, .int tw.2.2.2])), (oc, .inr (0, [.int lf, .ref oac, .int cr.2])), (oac, .inl (cIc, 600, .inl cr.1)), (od, .inr (1, [.ref oc, .int st, .int sib, .int u_6.1, .int u_6.2.1, .int u_6.2.2.1, .int u_6.2.2.2]))]) hD hS hA [0, 1, 2, 3, 5, 6, 4] rfl
        refine va_calli (va_runV (As := []) (rest := []) ⟨hx, hb, hml, hown, hts⟩ (mX2_readStuffedIfDue l dC dI cIw cIc ox ow oaw og oc oac od H.size st lf ao sib wr tw cr u_6 bad) (cwV 0 hts (gV wd402 wd403 wd10 wd26 wd404) rfl rfl rfl (by decide +kernel) ⟨Nat.le_of_ble_eq_true rfl, Nat.le_of_ble_eq_true rfl⟩) ⟨fb_rw, va_recv hKc hPc (ci := 2) (q0 := 0) rfl rfl, pre_rw hPc hKc hDc hZ⟩ rfl rfl hl.1 rfl (lv_room (Nat.le_of_ble_eq_true rfl)) dX2_readBit_51 ⟨Nat.le_of_ble_eq_true rfl, Nat.le_of_ble_eq_true rfl⟩) hS (fun q _ h => hFc q h) hFc (fun r_7 u_9 t H1 locs ht hvm hw_8 hB hz1 hk1 hS => ?_)
        obtain ⟨hP1, hD1⟩ := hB
        rw [ht] at hP1
        obtain ⟨hP, hD⟩ := va_join (wr := []) (w1 := [(ox, .inr (2, [.int st, .int lf, .int ao, .ref ow, .ref og, .ref oc, .ref od, .int bad])), (ow, .inr (0, [.int lf, .ref oaw, .int wr.2])), (oaw, .inl (cIw, 600, .inl wr.1)), (og, .inr (1, [.ref ow, .int st, .int sib, .int tw.1, .int tw.2.1, .int tw.2.2.1, .int tw.2.2.2])), (oc, .inr (0, [.int lf, .ref oac, .int cr.2])), (oac, .inl (cIc, 600, .inl cr.1)), (od, .inr (1, [.ref oc, .int st, .int sib, .int u_9.1, .int u_9.2.1, .int u_9.2.2.1, .int u_9.2.2.2]))]) hP hD [0, 1, 2, 3, 5, 6, 4] [] rfl rfl (by decide) (by decide) hk1 hFc hP1 hD1
        generalize H1 = H at hP hS ⊢
        have hP : va_P (dC, dI) vwCl [(ox, .inr (2, [.int st, .int lf, .int ao, .ref ow, .ref og, .ref oc, .ref od, .int bad])), (ow, .inr (0, [.int lf, .ref oaw, .int wr.2])), (oaw, .inl (cIw, 600, .inl wr.1)), (og, .inr (1, [.ref ow, .int st, .int sib, .int tw.1, .int tw.2.1, .int tw.2.2.1, .int tw.2.2.2])), (oc, .inr (0, [.int lf, .ref oac, .int cr.2])), (oac, .inl (cIc, 600, .inl cr.1)), (od, .inr (1, [.ref oc, .int st, .int sib, .int u_9.1, .int u_9.2.1, .int u_9.2.2.1, .int u_9.2.2.2]))] H := hP
        have hD : va_D A [(ox, .inr (2, [.int st, .int lf, .int ao, .ref ow, .ref og, .ref oc, .ref od, .int bad])), (ow, .inr (0, [.int lf, .ref oaw, .int wr.2])), (oaw, .inl (cIw, 600, .inl wr.1)), (og, .inr (1, [.ref ow, .int st, .int sib, .int tw.1, .int tw.2.1, .int tw.2.2.1, .int tw.2.2.2])), (oc, .inr (0, [.int lf, .ref oac, .int cr.2])), (oac, .inl (cIc, 600, .inl cr.1)), (od, .inr (1, [.ref oc, .int st, .int sib, .int u_9.1, .int u_9.2.1, .int u_9.2.2.1, .int u_9.2.2.2]))] := hD
        refine lv_istore_n (lv' := [(1, .int r_7), (2, .int r_3), (0, .ref ox)]) hx hb dX2_readBit_54 rfl hl (by decide) rfl (fun ls hl => ?_)
        refine lv_iload_n hx hb dX2_readBit_55 rfl (lv_at hl 0 rfl) ?_
        refine lv_if_ne (tgt := 63) hx hb dX2_readBit_56 (by decide) (fun c_56 => ?_) (fun c_56 => ?_)
        · refine lv_iload_n hx hb dX2_readBit_63 rfl (lv_at hl 0 rfl) ?_
          have hP9 := hP.sub (ws' := [(ox, .inr (2, [.int st, .int lf, .int ao, .ref ow, .ref og, .ref oc, .ref od, .int bad])), (ow, .inr (0, [.int lf, .ref oaw, .int wr.2])), (oaw, .inl (cIw, 600, .inl wr.1)), (og, .inr (1, [.ref ow, .int st, .int sib, .int tw.1, .int tw.2.1, .int tw.2.2.1, .int tw.2.2.2])), (oc, .inr (0, [.int lf, .ref oac, .int cr.2])), (oac, .inl (cIc, 600, .inl cr.1)), (od, .inr (1, [.ref oc, .int st, .int sib, .int u_9.1, .int u_9.2.1, .int u_9.2.2.1, .int u_9.2.2.2]))]) [0, 1, 2, 3, 4, 5, 6] rfl
          have hD9 := hD.sub (ws' := [(ox, .inr (2, [.int st, .int lf, .int ao, .ref ow, .ref og, .ref oc, .ref od, .int bad])), (ow, .inr (0, [.int lf, .ref oaw, .int wr.2])), (oaw, .inl (cIw, 600, .inl wr.1)), (og, .inr (1, [.ref ow, .int st, .int sib, .int tw.1, .int tw.2.1, .int tw.2.2.1, .int tw.2.2.2])), (oc, .inr (0, [.int lf, .ref oac, .int cr.2])), (oac, .inl (cIc, 600, .inl cr.1)), (od, .inr (1, [.ref oc, .int st, .int sib, .int u_9.1, .int u_9.2.1, .int u_9.2.2.1, .int u_9.2.2.2]))]) [0, 1, 2, 3, 4, 5, 6] (by decide) rfl
          exact W.iret (v := r_7) hx hb hr (fun t ht hW => ⟨⟨r_7, u_9, rfl, (plX2_readBit_2 st lf ao sib wr tw cr tr bad _ hw_2 c_6 c_15 _ hw_4 _ hw_5 c_47 _ _ hw_8 c_56), by rw [ht]; exact hP9, hD9⟩, hS.F ht⟩) hS.2.2 dX2_readBit_64
        · refine lv_iload_n hx hb dX2_readBit_59 rfl (lv_at hl 1 rfl) ?_
          refine lv_goto (tgt := 64) hx hb dX2_readBit_60 (by decide) ?_
          have hP9 := hP.sub (ws' := [(ox, .inr (2, [.int st, .int lf, .int ao, .ref ow, .ref og, .ref oc, .ref od, .int bad])), (ow, .inr (0, [.int lf, .ref oaw, .int wr.2])), (oaw, .inl (cIw, 600, .inl wr.1)), (og, .inr (1, [.ref ow, .int st, .int sib, .int tw.1, .int tw.2.1, .int tw.2.2.1, .int tw.2.2.2])), (oc, .inr (0, [.int lf, .ref oac, .int cr.2])), (oac, .inl (cIc, 600, .inl cr.1)), (od, .inr (1, [.ref oc, .int st, .int sib, .int u_9.1, .int u_9.2.1, .int u_9.2.2.1, .int u_9.2.2.2]))]) [0, 1, 2, 3, 4, 5, 6] rfl
          have hD9 := hD.sub (ws' := [(ox, .inr (2, [.int st, .int lf, .int ao, .ref ow, .ref og, .ref oc, .ref od, .int bad])), (ow, .inr (0, [.int lf, .ref oaw, .int wr.2])), (oaw, .inl (cIw, 600, .inl wr.1)), (og, .inr (1, [.ref ow, .int st, .int sib, .int tw.1, .int tw.2.1, .int tw.2.2.1, .int tw.2.2.2])), (oc, .inr (0, [.int lf, .ref oac, .int cr.2])), (oac, .inl (cIc, 600, .inl cr.1)), (od, .inr (1, [.ref oc, .int st, .int sib, .int u_9.1, .int u_9.2.1, .int u_9.2.2.1, .int u_9.2.2.2]))]) [0, 1, 2, 3, 4, 5, 6] (by decide) rfl
          exact W.iret (v := r_3) hx hb hr (fun t ht hW => ⟨⟨r_3, u_9, rfl, (plX2_readBit_3 st lf ao sib wr tw cr tr bad _ hw_2 c_6 c_15 _ hw_4 _ hw_5 c_47 _ _ hw_8 c_56), by rw [ht]; exact hP9, hD9⟩, hS.F ht⟩) hS.2.2 dX2_readBit_64
    · refine lv_iload_n hx hb dX2_readBit_18 rfl (lv_at hl 0 rfl) ?_
      have hP9 := hP.sub (ws' := [(ox, .inr (2, [.int st, .int lf, .int ao, .ref ow, .ref og, .ref oc, .ref od, .int bad])), (ow, .inr (0, [.int lf, .ref oaw, .int wr.2])), (oaw, .inl (cIw, 600, .inl wr.1)), (og, .inr (1, [.ref ow, .int st, .int sib, .int tw.1, .int tw.2.1, .int tw.2.2.1, .int tw.2.2.2])), (oc, .inr (0, [.int lf, .ref oac, .int cr.2])), (oac, .inl (cIc, 600, .inl cr.1)), (od, .inr (1, [.ref oc, .int st, .int sib, .int tr.1, .int tr.2.1, .int tr.2.2.1, .int tr.2.2.2]))]) [0, 1, 2, 3, 4, 5, 6] rfl
      have hD9 := hD.sub (ws' := [(ox, .inr (2, [.int st, .int lf, .int ao, .ref ow, .ref og, .ref oc, .ref od, .int bad])), (ow, .inr (0, [.int lf, .ref oaw, .int wr.2])), (oaw, .inl (cIw, 600, .inl wr.1)), (og, .inr (1, [.ref ow, .int st, .int sib, .int tw.1, .int tw.2.1, .int tw.2.2.1, .int tw.2.2.2])), (oc, .inr (0, [.int lf, .ref oac, .int cr.2])), (oac, .inl (cIc, 600, .inl cr.1)), (od, .inr (1, [.ref oc, .int st, .int sib, .int tr.1, .int tr.2.1, .int tr.2.2.1, .int tr.2.2.2]))]) [0, 1, 2, 3, 4, 5, 6] (by decide) rfl
      exact W.iret (v := r_1) hx hb hr (fun t ht hW => ⟨⟨r_1, tr, rfl, (plX2_readBit_4 st lf ao sib wr tw cr tr bad _ hw_2 c_6 c_15), by rw [ht]; exact hP9, hD9⟩, hS.F ht⟩) hS.2.2 dX2_readBit_19
  · refine lv_aload_n hx hb dX2_readBit_9 rfl (lv_at hl 1 rfl) ?_
    have hPc := hP.sub (ws' := [(ox, .inr (2, [.int st, .int lf, .int ao, .ref ow, .ref og, .ref oc, .ref od, .int bad])), (ow, .inr (0, [.int lf, .ref oaw, .int wr.2])), (oaw, .inl (cIw, 600, .inl wr.1)), (og, .inr (1, [.ref ow, .int st, .int sib, .int tw.1, .int tw.2.1, .int tw.2.2.1, .int tw.2.2.2])), (oc, .inr (0, [.int lf, .ref oac, .int cr.2])), (oac, .inl (cIc, 600, .inl cr.1)), (od, .inr (1, [.ref oc, .int st, .int sib, .int tr.1, .int tr.2.1, .int tr.2.2.1, .int tr.2.2.2]))]) [0, 1, 2, 3, 4, 5, 6] rfl
    have hKc := hK.sub (tys' := [(cIw, .int), (cIc, .int)]) [0, 1] rfl
    have hDc := hD.sub (ws' := [(ox, .inr (2, [.int st, .int lf, .int ao, .ref ow, .ref og, .ref oc, .ref od, .int bad])), (ow, .inr (0, [.int lf, .ref oaw, .int wr.2])), (oaw, .inl (cIw, 600, .inl wr.1)), (og, .inr (1, [.ref ow, .int st, .int sib, .int tw.1, .int tw.2.1, .int tw.2.2.1, .int tw.2.2.2])), (oc, .inr (0, [.int lf, .ref oac, .int cr.2])), (oac, .inl (cIc, 600, .inl cr.1)), (od, .inr (1, [.ref oc, .int st, .int sib, .int tr.1, .int tr.2.1, .int tr.2.2.1, .int tr.2.2.2]))]) [0, 1, 2, 3, 4, 5, 6] (by decide) rfl
    have hFc := va_free (wc := [(ox, .inr (2, [.int st, .int lf, .int ao, .ref ow, .ref og, .ref oc, .ref od, .int bad])), (ow, .inr (0, [.int lf, .ref oaw, .int wr.2])), (oaw, .inl (cIw, 600, .inl wr.1)), (og, .inr (1, [.ref ow, .int st, .int sib, .int tw.1, .int tw.2.1, .int tw.2.2.1, .int tw.2.2.2])), (oc, .inr (0, [.int lf, .ref oac, .int cr.2])), (oac, .inl (cIc, 600, .inl cr.1)), (od, .inr (1, [.ref oc, .int st, .int sib, .int tr.1, .int tr.2.1, .int tr.2.2.1, .int tr.2.2.2]))]) hD hS hA [0, 1, 2, 3, 4, 5, 6] rfl
    refine va_calli (va_runV (As := []) (rest := []) ⟨hx, hb, hml, hown, hts⟩ (mX2_readStuffedIfDue l dC dI cIw cIc ox ow oaw og oc oac od s.heap.size st lf ao sib wr tw cr tr bad) (cwV 0 hts (gV wd402 wd403 wd10 wd26 wd404) rfl rfl rfl (by decide +kernel) ⟨Nat.le_of_ble_eq_true rfl, Nat.le_of_ble_eq_true rfl⟩) ⟨fb_rw, va_recv hKc hPc (ci := 2) (q0 := 0) rfl rfl, pre_rw hPc hKc hDc hZ⟩ rfl rfl hl.1 rfl (lv_room (Nat.le_of_ble_eq_true rfl)) dX2_readBit_10 ⟨Nat.le_of_ble_eq_true rfl, Nat.le_of_ble_eq_true rfl⟩) hS (fun q _ h => hFc q h) hFc (fun r_10 u_12 t H1 locs ht hvm hw_11 hB hz1 hk1 hS => ?_)
    obtain ⟨hP1, hD1⟩ := hB
    rw [ht] at hP1
    obtain ⟨hP, hD⟩ := va_join (wr := []) (w1 := [(ox, .inr (2, [.int st, .int lf, .int ao, .ref ow, .ref og, .ref oc, .ref od, .int bad])), (ow, .inr (0, [.int lf, .ref oaw, .int wr.2])), (oaw, .inl (cIw, 600, .inl wr.1)), (og, .inr (1, [.ref ow, .int st, .int sib, .int tw.1, .int tw.2.1, .int tw.2.2.1, .int tw.2.2.2])), (oc, .inr (0, [.int lf, .ref oac, .int cr.2])), (oac, .inl (cIc, 600, .inl cr.1)), (od, .inr (1, [.ref oc, .int st, .int sib, .int u_12.1, .int u_12.2.1, .int u_12.2.2.1, .int u_12.2.2.2]))]) hP hD [0, 1, 2, 3, 4, 5, 6] [] rfl rfl (by decide) (by decide) hk1 hFc hP1 hD1
    generalize H1 = H at hP hS ⊢
    have hP : va_P (dC, dI) vwCl [(ox, .inr (2, [.int st, .int lf, .int ao, .ref ow, .ref og, .ref oc, .ref od, .int bad])), (ow, .inr (0, [.int lf, .ref oaw, .int wr.2])), (oaw, .inl (cIw, 600, .inl wr.1)), (og, .inr (1, [.ref ow, .int st, .int sib, .int tw.1, .int tw.2.1, .int tw.2.2.1, .int tw.2.2.2])), (oc, .inr (0, [.int lf, .ref oac, .int cr.2])), (oac, .inl (cIc, 600, .inl cr.1)), (od, .inr (1, [.ref oc, .int st, .int sib, .int u_12.1, .int u_12.2.1, .int u_12.2.2.1, .int u_12.2.2.2]))] H := hP
    have hD : va_D A [(ox, .inr (2, [.int st, .int lf, .int ao, .ref ow, .ref og, .ref oc, .ref od, .int bad])), (ow, .inr (0, [.int lf, .ref oaw, .int wr.2])), (oaw, .inl (cIw, 600, .inl wr.1)), (og, .inr (1, [.ref ow, .int st, .int sib, .int tw.1, .int tw.2.1, .int tw.2.2.1, .int tw.2.2.2])), (oc, .inr (0, [.int lf, .ref oac, .int cr.2])), (oac, .inl (cIc, 600, .inl cr.1)), (od, .inr (1, [.ref oc, .int st, .int sib, .int u_12.1, .int u_12.2.1, .int u_12.2.2.1, .int u_12.2.2.2]))] := hD
    refine lv_istore_n (lv' := [(1, .int r_10), (0, .ref ox)]) hx hb dX2_readBit_13 rfl hl (by decide) rfl (fun ls hl => ?_)
    refine lv_iload_n hx hb dX2_readBit_14 rfl (lv_at hl 0 rfl) ?_
    refine lv_if_eq (tgt := 20) hx hb dX2_readBit_15 (by decide) (fun c_15 => ?_) (fun c_15 => ?_)
    · refine lv_aload_n hx hb dX2_readBit_20 rfl (lv_at hl 1 rfl) ?_
      refine va_get (D := (dC, dI)) (ci := 2) (v := .ref oc) (C := RX2) (T := TX2) (N := 8) hx hb hts inGX2 hown hK hP 0 rfl rfl 5 (by decide) (hts _ wd103) (fun _ h9 => h9) rfl dX2_readBit_21 ?_
      refine lv_aload_n hx hb dX2_readBit_24 rfl (lv_at hl 1 rfl) ?_
      refine va_get (D := (dC, dI)) (ci := 2) (v := .ref od) (C := RX2) (T := TX2) (N := 8) hx hb hts inGX2 hown hK hP 0 rfl rfl 6 (by decide) (hts _ wd104) (fun _ h9 => h9) rfl dX2_readBit_25 ?_
      refine va_getN (D := (dC, dI)) (ci := 1) (v := .int u_12.1) (C := RX1) (T := TX1) (N := 7) hx hb hts inGX1 hown hK hP 6 rfl rfl 3 (by decide) (hZ.use zw2 rfl) (fun _ h9 => h9) rfl dX2_readBit_28 ?_
      have hPc := hP.sub (ws' := [(oc, .inr (0, [.int lf, .ref oac, .int cr.2])), (oac, .inl (cIc, 600, .inl cr.1))]) [4, 5] rfl
      have hKc := hK.sub (tys' := [(cIc, .int)]) [1] rfl
      refine vp_callSi (va_Run.run (va_runV (As := [.int u_12.1]) (rest := []) ⟨hx, hb, hml, hown, hts⟩ (mX0_bitOf l dC dI cIc oc oac lf cr u_12.1) (cwV 1 hts (gV wd150 wd151 wd152 wd28 wd153) rfl rfl rfl (by decide +kernel) ⟨Nat.le_of_ble_eq_true rfl, Nat.le_of_ble_eq_true rfl⟩) ⟨fb_ro, va_recv hKc hPc (ci := 0) (q0 := 0) rfl rfl, pre_ro hPc hKc hZ⟩ rfl rfl hl.1 rfl (lv_room (Nat.le_of_ble_eq_true rfl)) dX2_readBit_31 ⟨Nat.le_of_ble_eq_true rfl, Nat.le_of_ble_eq_true rfl⟩)) (fun r_13 hw_14 => ?_)
      refine lv_istore_n (lv' := [(2, .int r_13), (1, .int r_10), (0, .ref ox)]) hx hb dX2_readBit_34 rfl hl (by decide) rfl (fun ls hl => ?_)
      refine lv_aload_n hx hb dX2_readBit_35 rfl (lv_at hl 2 rfl) ?_
      refine va_get (D := (dC, dI)) (ci := 2) (v := .ref od) (C := RX2) (T := TX2) (N := 8) hx hb hts inGX2 hown hK hP 0 rfl rfl 6 (by decide) (hts _ wd104) (fun _ h9 => h9) rfl dX2_readBit_36 ?_
      refine lv_iload_n hx hb dX2_readBit_39 rfl (lv_at hl 0 rfl) ?_
      have hPc := hP.sub (ws' := [(od, .inr (1, [.ref oc, .int st, .int sib, .int u_12.1, .int u_12.2.1, .int u_12.2.2.1, .int u_12.2.2.2])), (oc, .inr (0, [.int lf, .ref oac, .int cr.2])), (oac, .inl (cIc, 600, .inl cr.1))]) [6, 4, 5] rfl
      have hKc := hK.sub (tys' := [(cIc, .int)]) [1] rfl
      have hDc := hD.sub (ws' := [(od, .inr (1, [.ref oc, .int st, .int sib, .int u_12.1, .int u_12.2.1, .int u_12.2.2.1, .int u_12.2.2.2])), (oc, .inr (0, [.int lf, .ref oac, .int cr.2])), (oac, .inl (cIc, 600, .inl cr.1))]) [6, 4, 5] (by decide) rfl
      have hFc := va_free (wc := [(od, .inr (1, [.ref oc, .int st, .int sib, .int u_12.1, .int u_12.2.1, .int u_12.2.2.1, .int u_12.2.2.2])), (oc, .inr (0, [.int lf, .ref oac, .int cr.2])), (oac, .inl (cIc, 600, .inl cr.1))]) hD hS hA [6, 4, 5] rfl
      refine va_callv (va_runV (As := [.int r_13]) (rest := []) ⟨hx, hb, hml, hown, hts⟩ (mX1_stepOver l dC dI cIc od oc oac H.size st sib lf u_12 cr r_13) (cwV 1 hts (gV wd158 wd159 wd160 wd29 wd161) rfl rfl rfl (by decide +kernel) ⟨Nat.le_of_ble_eq_true rfl, Nat.le_of_ble_eq_true rfl⟩) ⟨fb_rw, va_recv hKc hPc (ci := 1) (q0 := 0) rfl rfl, pre_rw hPc hKc hDc hZ⟩ rfl rfl hl.1 rfl (lv_room (Nat.le_of_ble_eq_true rfl)) dX2_readBit_40 ⟨Nat.le_of_ble_eq_true rfl, Nat.le_of_ble_eq_true rfl⟩) hS (fun q _ h => hFc q h) hFc (fun u_16 t H1 locs ht hvm hw_15 hB hz1 hk1 hS => ?_)
      obtain ⟨hP1, hD1⟩ := hB
      rw [ht] at hP1
      obtain ⟨hP, hD⟩ := va_join (wr := [(ox, .inr (2, [.int st, .int lf, .int ao, .ref ow, .ref og, .ref oc, .ref od, .int bad])), (ow, .inr (0, [.int lf, .ref oaw, .int wr.2])), (oaw, .inl (cIw, 600, .inl wr.1)), (og, .inr (1, [.ref ow, .int st, .int sib, .int tw.1, .int tw.2.1, .int tw.2.2.1, .int tw.2.2.2]))]) (w1 := [(od, .inr (1, [.ref oc, .int st, .int sib, .int u_16.1, .int u_16.2.1, .int u_16.2.2.1, .int u_16.2.2.2])), (oc, .inr (0, [.int lf, .ref oac, .int cr.2])), (oac, .inl (cIc, 600, .inl cr.1))]) hP hD [6, 4, 5] [0, 1, 2, 3] rfl rfl (by decide) (by decide) hk1 hFc hP1 hD1
      generalize H1 = H at hP hS ⊢
      have hP : va_P (dC, dI) vwCl [(ox, .inr (2, [.int st, .int lf, .int ao, .ref ow, .ref og, .ref oc, .ref od, .int bad])), (ow, .inr (0, [.int lf, .ref oaw, .int wr.2])), (oaw, .inl (cIw, 600, .inl wr.1)), (og, .inr (1, [.ref ow, .int st, .int sib, .int tw.1, .int tw.2.1, .int tw.2.2.1, .int tw.2.2.2])), (od, .inr (1, [.ref oc, .int st, .int sib, .int u_16.1, .int u_16.2.1, .int u_16.2.2.1, .int u_16.2.2.2])), (oc, .inr (0, [.int lf, .ref oac, .int cr.2])), (oac, .inl (cIc, 600, .inl cr.1))] H := hP
      have hD : va_D A [(ox, .inr (2, [.int st, .int lf, .int ao, .ref ow, .ref og, .ref oc, .ref od, .int bad])), (ow, .inr (0, [.int lf, .ref oaw, .int wr.2])), (oaw, .inl (cIw, 600, .inl wr.1)), (og, .inr (1, [.ref ow, .int st, .int sib, .int tw.1, .int tw.2.1, .int tw.2.2.1, .int tw.2.2.2])), (od, .inr (1, [.ref oc, .int st, .int sib, .int u_16.1, .int u_16.2.1, .int u_16.2.2.1, .int u_16.2.2.2])), (oc, .inr (0, [.int lf, .ref oac, .int cr.2])), (oac, .inl (cIc, 600, .inl cr.1))] := hD
      refine lv_aload_n hx hb dX2_readBit_43 rfl (lv_at hl 2 rfl) ?_
      refine va_get (D := (dC, dI)) (ci := 2) (v := .int ao) (C := RX2) (T := TX2) (N := 8) hx hb hts inGX2 hown hK hP 0 rfl rfl 2 (by decide) (hts _ wd100) (fun _ h9 => h9) rfl dX2_readBit_44 ?_
      refine lv_if_eq (tgt := 55) hx hb dX2_readBit_47 (by decide) (fun c_47 => ?_) (fun c_47 => ?_)
      · refine lv_iload_n hx hb dX2_readBit_55 rfl (lv_at hl 1 rfl) ?_
        refine lv_if_ne (tgt := 63) hx hb dX2_readBit_56 (by decide) (fun c_56 => ?_) (fun c_56 => ?_)
        · refine lv_iload_n hx hb dX2_readBit_63 rfl (lv_at hl 1 rfl) ?_
          have hP9 := hP.sub (ws' := [(ox, .inr (2, [.int st, .int lf, .int ao, .ref ow, .ref og, .ref oc, .ref od, .int bad])), (ow, .inr (0, [.int lf, .ref oaw, .int wr.2])), (oaw, .inl (cIw, 600, .inl wr.1)), (og, .inr (1, [.ref ow, .int st, .int sib, .int tw.1, .int tw.2.1, .int tw.2.2.1, .int tw.2.2.2])), (oc, .inr (0, [.int lf, .ref oac, .int cr.2])), (oac, .inl (cIc, 600, .inl cr.1)), (od, .inr (1, [.ref oc, .int st, .int sib, .int u_16.1, .int u_16.2.1, .int u_16.2.2.1, .int u_16.2.2.2]))]) [0, 1, 2, 3, 5, 6, 4] rfl
          have hD9 := hD.sub (ws' := [(ox, .inr (2, [.int st, .int lf, .int ao, .ref ow, .ref og, .ref oc, .ref od, .int bad])), (ow, .inr (0, [.int lf, .ref oaw, .int wr.2])), (oaw, .inl (cIw, 600, .inl wr.1)), (og, .inr (1, [.ref ow, .int st, .int sib, .int tw.1, .int tw.2.1, .int tw.2.2.1, .int tw.2.2.2])), (oc, .inr (0, [.int lf, .ref oac, .int cr.2])), (oac, .inl (cIc, 600, .inl cr.1)), (od, .inr (1, [.ref oc, .int st, .int sib, .int u_16.1, .int u_16.2.1, .int u_16.2.2.1, .int u_16.2.2.2]))]) [0, 1, 2, 3, 5, 6, 4] (by decide) rfl
          exact W.iret (v := r_10) hx hb hr (fun t ht hW => ⟨⟨r_10, u_16, rfl, (plX2_readBit_5 st lf ao sib wr tw cr tr bad _ hw_2 c_6 _ _ hw_11 c_15 _ hw_14 _ hw_15 c_47 c_56), by rw [ht]; exact hP9, hD9⟩, hS.F ht⟩) hS.2.2 dX2_readBit_64
        · refine lv_iload_n hx hb dX2_readBit_59 rfl (lv_at hl 0 rfl) ?_
          refine lv_goto (tgt := 64) hx hb dX2_readBit_60 (by decide) ?_
          have hP9 := hP.sub (ws' := [(ox, .inr (2, [.int st, .int lf, .int ao, .ref ow, .ref og, .ref oc, .ref od, .int bad])), (ow, .inr (0, [.int lf, .ref oaw, .int wr.2])), (oaw, .inl (cIw, 600, .inl wr.1)), (og, .inr (1, [.ref ow, .int st, .int sib, .int tw.1, .int tw.2.1, .int tw.2.2.1, .int tw.2.2.2])), (oc, .inr (0, [.int lf, .ref oac, .int cr.2])), (oac, .inl (cIc, 600, .inl cr.1)), (od, .inr (1, [.ref oc, .int st, .int sib, .int u_16.1, .int u_16.2.1, .int u_16.2.2.1, .int u_16.2.2.2]))]) [0, 1, 2, 3, 5, 6, 4] rfl
          have hD9 := hD.sub (ws' := [(ox, .inr (2, [.int st, .int lf, .int ao, .ref ow, .ref og, .ref oc, .ref od, .int bad])), (ow, .inr (0, [.int lf, .ref oaw, .int wr.2])), (oaw, .inl (cIw, 600, .inl wr.1)), (og, .inr (1, [.ref ow, .int st, .int sib, .int tw.1, .int tw.2.1, .int tw.2.2.1, .int tw.2.2.2])), (oc, .inr (0, [.int lf, .ref oac, .int cr.2])), (oac, .inl (cIc, 600, .inl cr.1)), (od, .inr (1, [.ref oc, .int st, .int sib, .int u_16.1, .int u_16.2.1, .int u_16.2.2.1, .int u_16.2.2.2]))]) [0, 1, 2, 3, 5, 6, 4] (by decide) rfl
          exact W.iret (v := r_13) hx hb hr (fun t ht hW => ⟨⟨r_13, u_16, rfl, (plX2_readBit_6 st lf ao sib wr tw cr tr bad _ hw_2 c_6 _ _ hw_11 c_15 _ hw_14 _ hw_15 c_47 c_56), by rw [ht]; exact hP9, hD9⟩, hS.F ht⟩) hS.2.2 dX2_readBit_64
      · refine lv_aload_n hx hb dX2_readBit_50 rfl (lv_at hl 2 rfl) ?_
        have hPc := hP.sub (ws' := [(ox, .inr (2, [.int st, .int lf, .int ao, .ref ow, .ref og, .ref oc, .ref od, .int bad])), (ow, .inr (0, [.int lf, .ref oaw, .int wr.2])), (oaw, .inl (cIw, 600, .inl wr.1)), (og, .inr (1, [.ref ow, .int st, .int sib, .int tw.1, .int tw.2.1, .int tw.2.2.1, .int tw.2.2.2])), (oc, .inr (0, [.int lf, .ref oac, .int cr.2])), (oac, .inl (cIc, 600, .inl cr.1)), (od, .inr (1, [.ref oc, .int st, .int sib, .int u_16.1, .int u_16.2.1, .int u_16.2.2.1, .int u_16.2.2.2]))]) [0, 1, 2, 3, 5, 6, 4] rfl
        have hKc := hK.sub (tys' := [(cIw, .int), (cIc, .int)]) [0, 1] rfl
        have hDc := hD.sub (ws' := [(ox, .inr (2, [.int st, .int lf, .int ao, .ref ow, .ref og, .ref oc, .ref od, .int bad])), (ow, .inr (0, [.int lf, .ref oaw, .int wr.2])), (oaw, .inl (cIw, 600, .inl wr.1)), (og, .inr (1, [.ref ow, .int st, .int sib, .int tw.1, .int tw.2.1, .int tw.2.2.1, .int tw.2.2.2])), (oc, .inr (0, [.int lf, .ref oac, .int cr.2])), (oac, .inl (cIc, 600, .inl cr.1)), (od, .inr (1, [.ref oc, .int st, .int sib, .int u_16.1, .int u_16.2.1, .int u_16.2.2.1, .int u_16.2.2.2]))]) [0, 1, 2, 3, 5, 6, 4] (by decide) rfl
        have hFc := va_free (wc := [(ox, .inr (2, [.int st, .int lf, .int ao, .ref ow, .ref og, .ref oc, .ref od, .int bad])), (ow, .inr (0, [.int lf, .ref oaw, .int wr.2])), (oaw, .inl (cIw, 600, .inl wr.1)), (og, .inr (1, [.ref ow, .int st, .int sib, .int tw.1, .int tw.2.1, .int tw.2.2.1, .int tw.2.2.2])), (oc, .inr (0, [.int lf, .ref oac, .int cr.2])), (oac, .inl (cIc, 600, .inl cr.1)), (od, .inr (1, [.ref oc, .int st, .int sib, .int u_16.1, .int u_16.2.1, .int u_16.2.2.1, .int u_16.2.2.2]))]) hD hS hA [0, 1, 2, 3, 5, 6, 4] rfl
        refine va_calli (va_runV (As := []) (rest := []) ⟨hx, hb, hml, hown, hts⟩ (mX2_readStuffedIfDue l dC dI cIw cIc ox ow oaw og oc oac od H.size st lf ao sib wr tw cr u_16 bad) (cwV 0 hts (gV wd402 wd403 wd10 wd26 wd404) rfl rfl rfl (by decide +kernel) ⟨Nat.le_of_ble_eq_true rfl, Nat.le_of_ble_eq_true rfl⟩) ⟨fb_rw, va_recv hKc hPc (ci := 2) (q0 := 0) rfl rfl, pre_rw hPc hKc hDc hZ⟩ rfl rfl hl.1 rfl (lv_room (Nat.le_of_ble_eq_true rfl)) dX2_readBit_51 ⟨Nat.le_of_ble_eq_true rfl, Nat.le_of_ble_eq_true rfl⟩) hS (fun q _ h => hFc q h) hFc (fun r_17 u_19 t H1 locs ht hvm hw_18 hB hz1 hk1 hS => ?_)
        obtain ⟨hP1, hD1⟩ := hB
        rw [ht] at hP1
        obtain ⟨hP, hD⟩ := va_join (wr := []) (w1 := [(ox, .inr (2, [.int st, .int lf, .int ao, .ref ow, .ref og, .ref oc, .ref od, .int bad])), (ow, .inr (0, [.int lf, .ref oaw, .int wr.2])), (oaw, .inl (cIw, 600, .inl wr.1)), (og, .inr (1, [.ref ow, .int st, .int sib, .int tw.1, .int tw.2.1, .int tw.2.2.1, .int tw.2.2.2])), (oc, .inr (0, [.int lf, .ref oac, .int cr.2])), (oac, .inl (cIc, 600, .inl cr.1)), (od, .inr (1, [.ref oc, .int st, .int sib, .int u_19.1, .int u_19.2.1, .int u_19.2.2.1, .int u_19.2.2.2]))]) hP hD [0, 1, 2, 3, 5, 6, 4] [] rfl rfl (by decide) (by decide) hk1 hFc hP1 hD1
        generalize H1 = H at hP hS ⊢
        have hP : va_P (dC, dI) vwCl [(ox, .inr (2, [.int st, .int lf, .int ao, .ref ow, .ref og, .ref oc, .ref od, .int bad])), (ow, .inr (0, [.int lf, .ref oaw, .int wr.2])), (oaw, .inl (cIw, 600, .inl wr.1)), (og, .inr (1, [.ref ow, .int st, .int sib, .int tw.1, .int tw.2.1, .int tw.2.2.1, .int tw.2.2.2])), (oc, .inr (0, [.int lf, .ref oac, .int cr.2])), (oac, .inl (cIc, 600, .inl cr.1)), (od, .inr (1, [.ref oc, .int st, .int sib, .int u_19.1, .int u_19.2.1, .int u_19.2.2.1, .int u_19.2.2.2]))] H := hP
        have hD : va_D A [(ox, .inr (2, [.int st, .int lf, .int ao, .ref ow, .ref og, .ref oc, .ref od, .int bad])), (ow, .inr (0, [.int lf, .ref oaw, .int wr.2])), (oaw, .inl (cIw, 600, .inl wr.1)), (og, .inr (1, [.ref ow, .int st, .int sib, .int tw.1, .int tw.2.1, .int tw.2.2.1, .int tw.2.2.2])), (oc, .inr (0, [.int lf, .ref oac, .int cr.2])), (oac, .inl (cIc, 600, .inl cr.1)), (od, .inr (1, [.ref oc, .int st, .int sib, .int u_19.1, .int u_19.2.1, .int u_19.2.2.1, .int u_19.2.2.2]))] := hD
        refine lv_istore_n (lv' := [(1, .int r_17), (2, .int r_13), (0, .ref ox)]) hx hb dX2_readBit_54 rfl hl (by decide) rfl (fun ls hl => ?_)
        refine lv_iload_n hx hb dX2_readBit_55 rfl (lv_at hl 0 rfl) ?_
        refine lv_if_ne (tgt := 63) hx hb dX2_readBit_56 (by decide) (fun c_56 => ?_) (fun c_56 => ?_)
        · refine lv_iload_n hx hb dX2_readBit_63 rfl (lv_at hl 0 rfl) ?_
          have hP9 := hP.sub (ws' := [(ox, .inr (2, [.int st, .int lf, .int ao, .ref ow, .ref og, .ref oc, .ref od, .int bad])), (ow, .inr (0, [.int lf, .ref oaw, .int wr.2])), (oaw, .inl (cIw, 600, .inl wr.1)), (og, .inr (1, [.ref ow, .int st, .int sib, .int tw.1, .int tw.2.1, .int tw.2.2.1, .int tw.2.2.2])), (oc, .inr (0, [.int lf, .ref oac, .int cr.2])), (oac, .inl (cIc, 600, .inl cr.1)), (od, .inr (1, [.ref oc, .int st, .int sib, .int u_19.1, .int u_19.2.1, .int u_19.2.2.1, .int u_19.2.2.2]))]) [0, 1, 2, 3, 4, 5, 6] rfl
          have hD9 := hD.sub (ws' := [(ox, .inr (2, [.int st, .int lf, .int ao, .ref ow, .ref og, .ref oc, .ref od, .int bad])), (ow, .inr (0, [.int lf, .ref oaw, .int wr.2])), (oaw, .inl (cIw, 600, .inl wr.1)), (og, .inr (1, [.ref ow, .int st, .int sib, .int tw.1, .int tw.2.1, .int tw.2.2.1, .int tw.2.2.2])), (oc, .inr (0, [.int lf, .ref oac, .int cr.2])), (oac, .inl (cIc, 600, .inl cr.1)), (od, .inr (1, [.ref oc, .int st, .int sib, .int u_19.1, .int u_19.2.1, .int u_19.2.2.1, .int u_19.2.2.2]))]) [0, 1, 2, 3, 4, 5, 6] (by decide) rfl
          exact W.iret (v := r_17) hx hb hr (fun t ht hW => ⟨⟨r_17, u_19, rfl, (plX2_readBit_7 st lf ao sib wr tw cr tr bad _ hw_2 c_6 _ _ hw_11 c_15 _ hw_14 _ hw_15 c_47 _ _ hw_18 c_56), by rw [ht]; exact hP9, hD9⟩, hS.F ht⟩) hS.2.2 dX2_readBit_64
        · refine lv_iload_n hx hb dX2_readBit_59 rfl (lv_at hl 1 rfl) ?_
          refine lv_goto (tgt := 64) hx hb dX2_readBit_60 (by decide) ?_
          have hP9 := hP.sub (ws' := [(ox, .inr (2, [.int st, .int lf, .int ao, .ref ow, .ref og, .ref oc, .ref od, .int bad])), (ow, .inr (0, [.int lf, .ref oaw, .int wr.2])), (oaw, .inl (cIw, 600, .inl wr.1)), (og, .inr (1, [.ref ow, .int st, .int sib, .int tw.1, .int tw.2.1, .int tw.2.2.1, .int tw.2.2.2])), (oc, .inr (0, [.int lf, .ref oac, .int cr.2])), (oac, .inl (cIc, 600, .inl cr.1)), (od, .inr (1, [.ref oc, .int st, .int sib, .int u_19.1, .int u_19.2.1, .int u_19.2.2.1, .int u_19.2.2.2]))]) [0, 1, 2, 3, 4, 5, 6] rfl
          have hD9 := hD.sub (ws' := [(ox, .inr (2, [.int st, .int lf, .int ao, .ref ow, .ref og, .ref oc, .ref od, .int bad])), (ow, .inr (0, [.int lf, .ref oaw, .int wr.2])), (oaw, .inl (cIw, 600, .inl wr.1)), (og, .inr (1, [.ref ow, .int st, .int sib, .int tw.1, .int tw.2.1, .int tw.2.2.1, .int tw.2.2.2])), (oc, .inr (0, [.int lf, .ref oac, .int cr.2])), (oac, .inl (cIc, 600, .inl cr.1)), (od, .inr (1, [.ref oc, .int st, .int sib, .int u_19.1, .int u_19.2.1, .int u_19.2.2.1, .int u_19.2.2.2]))]) [0, 1, 2, 3, 4, 5, 6] (by decide) rfl
          exact W.iret (v := r_13) hx hb hr (fun t ht hW => ⟨⟨r_13, u_19, rfl, (plX2_readBit_8 st lf ao sib wr tw cr tr bad _ hw_2 c_6 _ _ hw_11 c_15 _ hw_14 _ hw_15 c_47 _ _ hw_18 c_56), by rw [ht]; exact hP9, hD9⟩, hS.F ht⟩) hS.2.2 dX2_readBit_64
    · refine lv_iload_n hx hb dX2_readBit_18 rfl (lv_at hl 0 rfl) ?_
      have hP9 := hP.sub (ws' := [(ox, .inr (2, [.int st, .int lf, .int ao, .ref ow, .ref og, .ref oc, .ref od, .int bad])), (ow, .inr (0, [.int lf, .ref oaw, .int wr.2])), (oaw, .inl (cIw, 600, .inl wr.1)), (og, .inr (1, [.ref ow, .int st, .int sib, .int tw.1, .int tw.2.1, .int tw.2.2.1, .int tw.2.2.2])), (oc, .inr (0, [.int lf, .ref oac, .int cr.2])), (oac, .inl (cIc, 600, .inl cr.1)), (od, .inr (1, [.ref oc, .int st, .int sib, .int u_12.1, .int u_12.2.1, .int u_12.2.2.1, .int u_12.2.2.2]))]) [0, 1, 2, 3, 4, 5, 6] rfl
      have hD9 := hD.sub (ws' := [(ox, .inr (2, [.int st, .int lf, .int ao, .ref ow, .ref og, .ref oc, .ref od, .int bad])), (ow, .inr (0, [.int lf, .ref oaw, .int wr.2])), (oaw, .inl (cIw, 600, .inl wr.1)), (og, .inr (1, [.ref ow, .int st, .int sib, .int tw.1, .int tw.2.1, .int tw.2.2.1, .int tw.2.2.2])), (oc, .inr (0, [.int lf, .ref oac, .int cr.2])), (oac, .inl (cIc, 600, .inl cr.1)), (od, .inr (1, [.ref oc, .int st, .int sib, .int u_12.1, .int u_12.2.1, .int u_12.2.2.1, .int u_12.2.2.2]))]) [0, 1, 2, 3, 4, 5, 6] (by decide) rfl
      exact W.iret (v := r_10) hx hb hr (fun t ht hW => ⟨⟨r_10, u_12, rfl, (plX2_readBit_9 st lf ao sib wr tw cr tr bad _ hw_2 c_6 _ _ hw_11 c_15), by rw [ht]; exact hP9, hD9⟩, hS.F ht⟩) hS.2.2 dX2_readBit_19
end
section
def LX2_skip_23 (st : Int32) (lf : Int32) (ao : Int32) (sib : Int32) : Nat → Rw → Tk → Rw → Tk → Int32 → Int32 → Int32 → Int32 × Tk
  | 0, wr, tw, cr, tr, bad, ps, i => (0, tr)
  | n + 1, wr, tw, cr, tr, bad, ps, i =>
    if 16 ≤ i then
      (ps, (tr.1, tr.2.1, 0, tr.2.2.2))
    else
      let r_1 := FX1_isAligned st sib lf tr cr
      if r_1 = 0 then
        let r_3 := FX1_isStuffedDue st sib lf tr cr
        if r_3 = 0 then
          let r_5 := FX0_bitOf lf cr tr.1
          let u_8 := FX1_stepOver st sib lf tr cr r_5
          let i_9 := ps + 1
          let i_10 := i + 1
          LX2_skip_23 st lf ao sib n wr tw cr u_8 bad i_9 i_10
        else
          let u_12 := FX1_stepOverStuffed st sib lf tr cr
          let i_13 := i + 1
          LX2_skip_23 st lf ao sib n wr tw cr u_12 bad ps i_13
      else
        (ps, (tr.1, tr.2.1, 0, tr.2.2.2))
def FX2_skip (st : Int32) (lf : Int32) (ao : Int32) (sib : Int32) (wr : Rw) (tw : Tk) (cr : Rw) (tr : Tk) (bad : Int32) : Int32 × Tk :=
  if bad = 0 then
    let r_1 := FX1_isAligned st sib lf tr cr
    if r_1 = 0 then
      LX2_skip_23 st lf ao sib 17 wr tw cr tr bad 0 0
    else
      (0, tr)
  else
    (0, tr)
set_option maxRecDepth 100000 in
theorem plX2_skip_l23_0 (st : Int32) (lf : Int32) (ao : Int32) (sib : Int32) (n : Nat) (wr : Rw) (tw : Tk) (cr : Rw) (tr : Tk) (bad : Int32) (ps : Int32) (i : Int32) (c_26 : 16 ≤ i) : (ps, (tr.1, tr.2.1, 0, tr.2.2.2)) = LX2_skip_23 st lf ao sib (n + 1) wr tw cr tr bad ps i := by
  exact (if_pos c_26).symm
set_option maxRecDepth 100000 in
theorem plX2_skip_l23_1 (st : Int32) (lf : Int32) (ao : Int32) (sib : Int32) (n : Nat) (wr : Rw) (tw : Tk) (cr : Rw) (tr : Tk) (bad : Int32) (ps : Int32) (i : Int32) (c_26 : ¬ (16 ≤ i)) (r_1 : Int32) (hw_2 : r_1 = FX1_isAligned st sib lf tr cr) (c_36 : ¬ (r_1 = 0)) : (ps, (tr.1, tr.2.1, 0, tr.2.2.2)) = LX2_skip_23 st lf ao sib (n + 1) wr tw cr tr bad ps i := by
  subst hw_2
  exact ((if_neg c_26).trans (if_neg c_36)).symm
set_option maxRecDepth 100000 in
theorem plX2_skip_l23_2 (st : Int32) (lf : Int32) (ao : Int32) (sib : Int32) (n : Nat) (wr : Rw) (tw : Tk) (cr : Rw) (tr : Tk) (bad : Int32) (ps : Int32) (i : Int32) (c_26 : ¬ (16 ≤ i)) (r_1 : Int32) (hw_2 : r_1 = FX1_isAligned st sib lf tr cr) (c_36 : r_1 = 0) (r_3 : Int32) (hw_4 : r_3 = FX1_isStuffedDue st sib lf tr cr) (c_46 : r_3 = 0) (r_5 : Int32) (hw_6 : r_5 = FX0_bitOf lf cr tr.1) (u_8 : Tk) (hw_7 : u_8 = FX1_stepOver st sib lf tr cr r_5) (i_9 : Int32) (ei_9 : i_9 = ps + 1) (i_10 : Int32) (ei_10 : i_10 = i + 1) : LX2_skip_23 st lf ao sib n wr tw cr u_8 bad i_9 i_10 = LX2_skip_23 st lf ao sib (n + 1) wr tw cr tr bad ps i := by
  subst hw_2
  subst hw_4
  subst hw_6
  subst hw_7
  subst ei_9
  subst ei_10
  exact (((if_neg c_26).trans (if_pos c_36)).trans (if_pos c_46)).symm
set_option maxRecDepth 100000 in
theorem plX2_skip_l23_3 (st : Int32) (lf : Int32) (ao : Int32) (sib : Int32) (n : Nat) (wr : Rw) (tw : Tk) (cr : Rw) (tr : Tk) (bad : Int32) (ps : Int32) (i : Int32) (c_26 : ¬ (16 ≤ i)) (r_1 : Int32) (hw_2 : r_1 = FX1_isAligned st sib lf tr cr) (c_36 : r_1 = 0) (r_3 : Int32) (hw_4 : r_3 = FX1_isStuffedDue st sib lf tr cr) (c_46 : ¬ (r_3 = 0)) (u_12 : Tk) (hw_11 : u_12 = FX1_stepOverStuffed st sib lf tr cr) (i_13 : Int32) (ei_13 : i_13 = i + 1) : LX2_skip_23 st lf ao sib n wr tw cr u_12 bad ps i_13 = LX2_skip_23 st lf ao sib (n + 1) wr tw cr tr bad ps i := by
  subst hw_2
  subst hw_4
  subst hw_11
  subst ei_13
  exact (((if_neg c_26).trans (if_pos c_36)).trans (if_neg c_46)).symm
set_option maxRecDepth 100000 in
theorem plX2_skip_0 (st : Int32) (lf : Int32) (ao : Int32) (sib : Int32) (wr : Rw) (tw : Tk) (cr : Rw) (tr : Tk) (bad : Int32) (c_4 : ¬ (bad = 0)) : (0, tr) = FX2_skip st lf ao sib wr tw cr tr bad := by
  exact (if_neg c_4).symm
set_option maxRecDepth 100000 in
theorem plX2_skip_1 (st : Int32) (lf : Int32) (ao : Int32) (sib : Int32) (wr : Rw) (tw : Tk) (cr : Rw) (tr : Tk) (bad : Int32) (c_4 : bad = 0) (r_1 : Int32) (hw_2 : r_1 = FX1_isAligned st sib lf tr cr) (c_14 : r_1 = 0) : LX2_skip_23 st lf ao sib 17 wr tw cr tr bad 0 0 = FX2_skip st lf ao sib wr tw cr tr bad := by
  subst hw_2
  exact ((if_pos c_4).trans (if_pos c_14)).symm
set_option maxRecDepth 100000 in
theorem plX2_skip_2 (st : Int32) (lf : Int32) (ao : Int32) (sib : Int32) (wr : Rw) (tw : Tk) (cr : Rw) (tr : Tk) (bad : Int32) (c_4 : bad = 0) (r_1 : Int32) (hw_2 : r_1 = FX1_isAligned st sib lf tr cr) (c_14 : ¬ (r_1 = 0)) : (0, tr) = FX2_skip st lf ao sib wr tw cr tr bad := by
  subst hw_2
  exact ((if_pos c_4).trans (if_neg c_14)).symm
set_option maxHeartbeats 4000000 in
set_option maxRecDepth 100000 in
theorem kX2_skip_23 {p : Program} {l : Launch} {e : Env} {s : State} {m : MethodId} {args : Array Value} {below : List Frame} {meth : Method} {c : Code} {dC : Nat → ClassId} {dI : Nat → Nat → Nat} {cIw cIc : ClassId} {ox ow oaw og oc oac od : Nat} {st : Int32} {lf : Int32} {ao : Int32} {sib : Int32} {z : Int32 × Tk} {A : Nat → Prop} (hx : p.tables.exec = Jvm.exec) (hb : c.code = cX2_skip) (hr : meth.sig.returnType = (some .int)) (hml : c.maxLocals = 3) (hown : s.vm.findClass RX2 = some m.cls) (hts : ∀ w ∈ G, w.before args s = true) (hlocks : meth.locks = false) (hA : ∀ q : Nat, s.heap.size ≤ q → A q) (hZ : zOk s) (hK : va_K (dC, dI) vwCl [(cIw, .int), (cIc, .int)] s) : ∀ (n : Nat) (wr : Rw) (tw : Tk) (cr : Rw) (tr : Tk) (bad : Int32) (ps : Int32) (i : Int32), fuel n i 16 → LX2_skip_23 st lf ao sib n wr tw cr tr bad ps i = z → ∀ (H : Heap) (locs : List Loc), va_P (dC, dI) vwCl [(ox, .inr (2, [.int st, .int lf, .int ao, .ref ow, .ref og, .ref oc, .ref od, .int bad])), (ow, .inr (0, [.int lf, .ref oaw, .int wr.2])), (oaw, .inl (cIw, 600, .inl wr.1)), (og, .inr (1, [.ref ow, .int st, .int sib, .int tw.1, .int tw.2.1, .int tw.2.2.1, .int tw.2.2.2])), (oc, .inr (0, [.int lf, .ref oac, .int cr.2])), (oac, .inl (cIc, 600, .inl cr.1)), (od, .inr (1, [.ref oc, .int st, .int sib, .int tr.1, .int tr.2.1, .int tr.2.2.1, .int tr.2.2.2]))] H → va_D A [(ox, .inr (2, [.int st, .int lf, .int ao, .ref ow, .ref og, .ref oc, .ref od, .int bad])), (ow, .inr (0, [.int lf, .ref oaw, .int wr.2])), (oaw, .inl (cIw, 600, .inl wr.1)), (og, .inr (1, [.ref ow, .int st, .int sib, .int tw.1, .int tw.2.1, .int tw.2.2.1, .int tw.2.2.2])), (oc, .inr (0, [.int lf, .ref oac, .int cr.2])), (oac, .inl (cIc, 600, .inl cr.1)), (od, .inr (1, [.ref oc, .int st, .int sib, .int tr.1, .int tr.2.1, .int tr.2.2.1, .int tr.2.2.2]))] → va_S A s.heap H locs → ∀ (ls : Array Slot), lv_has ls 3 [(0, .ref ox), (1, .int ps), (2, .int i)] → W p l e (headSpec (Cond.code yX2_skip cX2_skip 3 (some .int) :: G) ({ frames := 3, cells := 0, slots := 0, locals := 62 } : Room)).room s m args below meth c H locs 0 0 (MQ below (va_Qi (fun (r : Int32) (u : Tk) => (r, u) = z) (fun (u : Tk) t => va_P (dC, dI) vwCl [(ox, .inr (2, [.int st, .int lf, .int ao, .ref ow, .ref og, .ref oc, .ref od, .int bad])), (ow, .inr (0, [.int lf, .ref oaw, .int wr.2])), (oaw, .inl (cIw, 600, .inl wr.1)), (og, .inr (1, [.ref ow, .int st, .int sib, .int tw.1, .int tw.2.1, .int tw.2.2.1, .int tw.2.2.2])), (oc, .inr (0, [.int lf, .ref oac, .int cr.2])), (oac, .inl (cIc, 600, .inl cr.1)), (od, .inr (1, [.ref oc, .int st, .int sib, .int u.1, .int u.2.1, .int u.2.2.1, .int u.2.2.2]))] t.heap ∧ va_D A [(ox, .inr (2, [.int st, .int lf, .int ao, .ref ow, .ref og, .ref oc, .ref od, .int bad])), (ow, .inr (0, [.int lf, .ref oaw, .int wr.2])), (oaw, .inl (cIw, 600, .inl wr.1)), (og, .inr (1, [.ref ow, .int st, .int sib, .int tw.1, .int tw.2.1, .int tw.2.2.1, .int tw.2.2.2])), (oc, .inr (0, [.int lf, .ref oac, .int cr.2])), (oac, .inl (cIc, 600, .inl cr.1)), (od, .inr (1, [.ref oc, .int st, .int sib, .int u.1, .int u.2.1, .int u.2.2.1, .int u.2.2.2]))]) A) args s 0 0 A) (F0 m 23 ls []) := by
  intro n
  induction n with
  | zero =>
    intro wr tw cr tr bad ps i hf hz
    exact absurd hf.1 (Nat.lt_irrefl 0)
  | succ n ih =>
    intro wr tw cr tr bad ps i hf hz H locs hP hD hS ls hl
    refine lv_iload_n hx hb dX2_skip_23 rfl (lv_at hl 2 rfl) ?_
    refine lv_bipush (v := 16) hx hb dX2_skip_24 (by decide) ?_
    refine lv_icmp_ge (tgt := 89) hx hb dX2_skip_26 (by decide) (fun c_26 => ?_) (fun c_26 => ?_)
    · refine lv_aload_n hx hb dX2_skip_89 rfl (lv_at hl 0 rfl) ?_
      refine va_get (D := (dC, dI)) (ci := 2) (v := .ref od) (C := RX2) (T := TX2) (N := 8) hx hb hts inGX2 hown hK hP 0 rfl rfl 6 (by decide) (hts _ wd104) (fun _ h9 => h9) rfl dX2_skip_90 ?_
      refine lv_iconst (v := 0) hx hb dX2_skip_93 (by decide) ?_
      refine va_putN (D := (dC, dI)) (ci := 1) (v := .int 0) (ty := .int) (C := RX1) (T := TX1) (N := 7) hx hb hts inGX1 tyX1 tyX1_ok nmX1 hown hK hP hD hS 6 rfl rfl 5 (by decide) (hZ.use zw4 rfl) (fun _ h9 => h9) rfl (by decide +kernel) rfl rfl (Nat.le_of_ble_eq_true rfl) dX2_skip_94 (fun H locs hP hD hS => ?_)
      have hP : va_P (dC, dI) vwCl [(ox, .inr (2, [.int st, .int lf, .int ao, .ref ow, .ref og, .ref oc, .ref od, .int bad])), (ow, .inr (0, [.int lf, .ref oaw, .int wr.2])), (oaw, .inl (cIw, 600, .inl wr.1)), (og, .inr (1, [.ref ow, .int st, .int sib, .int tw.1, .int tw.2.1, .int tw.2.2.1, .int tw.2.2.2])), (oc, .inr (0, [.int lf, .ref oac, .int cr.2])), (oac, .inl (cIc, 600, .inl cr.1)), (od, .inr (1, [.ref oc, .int st, .int sib, .int tr.1, .int tr.2.1, .int 0, .int tr.2.2.2]))] H := hP
      have hD : va_D A [(ox, .inr (2, [.int st, .int lf, .int ao, .ref ow, .ref og, .ref oc, .ref od, .int bad])), (ow, .inr (0, [.int lf, .ref oaw, .int wr.2])), (oaw, .inl (cIw, 600, .inl wr.1)), (og, .inr (1, [.ref ow, .int st, .int sib, .int tw.1, .int tw.2.1, .int tw.2.2.1, .int tw.2.2.2])), (oc, .inr (0, [.int lf, .ref oac, .int cr.2])), (oac, .inl (cIc, 600, .inl cr.1)), (od, .inr (1, [.ref oc, .int st, .int sib, .int tr.1, .int tr.2.1, .int 0, .int tr.2.2.2]))] := hD
      refine lv_iload_n hx hb dX2_skip_97 rfl (lv_at hl 1 rfl) ?_
      have hP9 := hP.sub (ws' := [(ox, .inr (2, [.int st, .int lf, .int ao, .ref ow, .ref og, .ref oc, .ref od, .int bad])), (ow, .inr (0, [.int lf, .ref oaw, .int wr.2])), (oaw, .inl (cIw, 600, .inl wr.1)), (og, .inr (1, [.ref ow, .int st, .int sib, .int tw.1, .int tw.2.1, .int tw.2.2.1, .int tw.2.2.2])), (oc, .inr (0, [.int lf, .ref oac, .int cr.2])), (oac, .inl (cIc, 600, .inl cr.1)), (od, .inr (1, [.ref oc, .int st, .int sib, .int tr.1, .int tr.2.1, .int 0, .int tr.2.2.2]))]) [0, 1, 2, 3, 4, 5, 6] rfl
      have hD9 := hD.sub (ws' := [(ox, .inr (2, [.int st, .int lf, .int ao, .ref ow, .ref og, .ref oc, .ref od, .int bad])), (ow, .inr (0, [.int lf, .ref oaw, .int wr.2])), (oaw, .inl (cIw, 600, .inl wr.1)), (og, .inr (1, [.ref ow, .int st, .int sib, .int tw.1, .int tw.2.1, .int tw.2.2.1, .int tw.2.2.2])), (oc, .inr (0, [.int lf, .ref oac, .int cr.2])), (oac, .inl (cIc, 600, .inl cr.1)), (od, .inr (1, [.ref oc, .int st, .int sib, .int tr.1, .int tr.2.1, .int 0, .int tr.2.2.2]))]) [0, 1, 2, 3, 4, 5, 6] (by decide) rfl
      exact W.iret (v := ps) hx hb hr (fun t ht hW => ⟨⟨ps, (tr.1, tr.2.1, 0, tr.2.2.2), rfl, ((plX2_skip_l23_0 st lf ao sib n wr tw cr tr bad ps i c_26).trans hz), by rw [ht]; exact hP9, hD9⟩, hS.F ht⟩) hS.2.2 dX2_skip_98
    · refine lv_aload_n hx hb dX2_skip_29 rfl (lv_at hl 0 rfl) ?_
      refine va_get (D := (dC, dI)) (ci := 2) (v := .ref od) (C := RX2) (T := TX2) (N := 8) hx hb hts inGX2 hown hK hP 0 rfl rfl 6 (by decide) (hts _ wd104) (fun _ h9 => h9) rfl dX2_skip_30 ?_
      have hPc := hP.sub (ws' := [(od, .inr (1, [.ref oc, .int st, .int sib, .int tr.1, .int tr.2.1, .int tr.2.2.1, .int tr.2.2.2])), (oc, .inr (0, [.int lf, .ref oac, .int cr.2])), (oac, .inl (cIc, 600, .inl cr.1))]) [6, 4, 5] rfl
      have hKc := hK.sub (tys' := [(cIc, .int)]) [1] rfl
      refine vp_callSi (va_Run.run (va_runV (As := []) (rest := []) ⟨hx, hb, hml, hown, hts⟩ (mX1_isAligned l dC dI cIc od oc oac st sib lf tr cr) (cwV 0 hts (gV wd127 wd128 wd129 wd29 wd130) rfl rfl rfl (by decide +kernel) ⟨Nat.le_of_ble_eq_true rfl, Nat.le_of_ble_eq_true rfl⟩) ⟨fb_ro, va_recv hKc hPc (ci := 1) (q0 := 0) rfl rfl, pre_ro hPc hKc hZ⟩ rfl rfl hl.1 rfl (lv_room (Nat.le_of_ble_eq_true rfl)) dX2_skip_33 ⟨Nat.le_of_ble_eq_true rfl, Nat.le_of_ble_eq_true rfl⟩)) (fun r_1 hw_2 => ?_)
      refine lv_if_ne (tgt := 89) hx hb dX2_skip_36 (by decide) (fun c_36 => ?_) (fun c_36 => ?_)
      · refine lv_aload_n hx hb dX2_skip_89 rfl (lv_at hl 0 rfl) ?_
        refine va_get (D := (dC, dI)) (ci := 2) (v := .ref od) (C := RX2) (T := TX2) (N := 8) hx hb hts inGX2 hown hK hP 0 rfl rfl 6 (by decide) (hts _ wd104) (fun _ h9 => h9) rfl dX2_skip_90 ?_
        refine lv_iconst (v := 0) hx hb dX2_skip_93 (by decide) ?_
        refine va_putN (D := (dC, dI)) (ci := 1) (v := .int 0) (ty := .int) (C := RX1) (T := TX1) (N := 7) hx hb hts inGX1 tyX1 tyX1_ok nmX1 hown hK hP hD hS 6 rfl rfl 5 (by decide) (hZ.use zw4 rfl) (fun _ h9 => h9) rfl (by decide +kernel) rfl rfl (Nat.le_of_ble_eq_true rfl) dX2_skip_94 (fun H locs hP hD hS => ?_)
        have hP : va_P (dC, dI) vwCl [(ox, .inr (2, [.int st, .int lf, .int ao, .ref ow, .ref og, .ref oc, .ref od, .int bad])), (ow, .inr (0, [.int lf, .ref oaw, .int wr.2])), (oaw, .inl (cIw, 600, .inl wr.1)), (og, .inr (1, [.ref ow, .int st, .int sib, .int tw.1, .int tw.2.1, .int tw.2.2.1, .int tw.2.2.2])), (oc, .inr (0, [.int lf, .ref oac, .int cr.2])), (oac, .inl (cIc, 600, .inl cr.1)), (od, .inr (1, [.ref oc, .int st, .int sib, .int tr.1, .int tr.2.1, .int 0, .int tr.2.2.2]))] H := hP
        have hD : va_D A [(ox, .inr (2, [.int st, .int lf, .int ao, .ref ow, .ref og, .ref oc, .ref od, .int bad])), (ow, .inr (0, [.int lf, .ref oaw, .int wr.2])), (oaw, .inl (cIw, 600, .inl wr.1)), (og, .inr (1, [.ref ow, .int st, .int sib, .int tw.1, .int tw.2.1, .int tw.2.2.1, .int tw.2.2.2])), (oc, .inr (0, [.int lf, .ref oac, .int cr.2])), (oac, .inl (cIc, 600, .inl cr.1)), (od, .inr (1, [.ref oc, .int st, .int sib, .int tr.1, .int tr.2.1, .int 0, .int tr.2.2.2]))] := hD
        refine lv_iload_n hx hb dX2_skip_97 rfl (lv_at hl 1 rfl) ?_
        have hP9 := hP.sub (ws' := [(ox, .inr (2, [.int st, .int lf, .int ao, .ref ow, .ref og, .ref oc, .ref od, .int bad])), (ow, .inr (0, [.int lf, .ref oaw, .int wr.2])), (oaw, .inl (cIw, 600, .inl wr.1)), (og, .inr (1, [.ref ow, .int st, .int sib, .int tw.1, .int tw.2.1, .int tw.2.2.1, .int tw.2.2.2])), (oc, .inr (0, [.int lf, .ref oac, .int cr.2])), (oac, .inl (cIc, 600, .inl cr.1)), (od, .inr (1, [.ref oc, .int st, .int sib, .int tr.1, .int tr.2.1, .int 0, .int tr.2.2.2]))]) [0, 1, 2, 3, 4, 5, 6] rfl
        have hD9 := hD.sub (ws' := [(ox, .inr (2, [.int st, .int lf, .int ao, .ref ow, .ref og, .ref oc, .ref od, .int bad])), (ow, .inr (0, [.int lf, .ref oaw, .int wr.2])), (oaw, .inl (cIw, 600, .inl wr.1)), (og, .inr (1, [.ref ow, .int st, .int sib, .int tw.1, .int tw.2.1, .int tw.2.2.1, .int tw.2.2.2])), (oc, .inr (0, [.int lf, .ref oac, .int cr.2])), (oac, .inl (cIc, 600, .inl cr.1)), (od, .inr (1, [.ref oc, .int st, .int sib, .int tr.1, .int tr.2.1, .int 0, .int tr.2.2.2]))]) [0, 1, 2, 3, 4, 5, 6] (by decide) rfl
        exact W.iret (v := ps) hx hb hr (fun t ht hW => ⟨⟨ps, (tr.1, tr.2.1, 0, tr.2.2.2), rfl, ((plX2_skip_l23_1 st lf ao sib n wr tw cr tr bad ps i c_26 _ hw_2 c_36).trans hz), by rw [ht]; exact hP9, hD9⟩, hS.F ht⟩) hS.2.2 dX2_skip_98
      · refine lv_aload_n hx hb dX2_skip_39 rfl (lv_at hl 0 rfl) ?_
        refine va_get (D := (dC, dI)) (ci := 2) (v := .ref od) (C := RX2) (T := TX2) (N := 8) hx hb hts inGX2 hown hK hP 0 rfl rfl 6 (by decide) (hts _ wd104) (fun _ h9 => h9) rfl dX2_skip_40 ?_
        have hPc := hP.sub (ws' := [(od, .inr (1, [.ref oc, .int st, .int sib, .int tr.1, .int tr.2.1, .int tr.2.2.1, .int tr.2.2.2])), (oc, .inr (0, [.int lf, .ref oac, .int cr.2])), (oac, .inl (cIc, 600, .inl cr.1))]) [6, 4, 5] rfl
        have hKc := hK.sub (tys' := [(cIc, .int)]) [1] rfl
        refine vp_callSi (va_Run.run (va_runV (As := []) (rest := []) ⟨hx, hb, hml, hown, hts⟩ (mX1_isStuffedDue l dC dI cIc od oc oac st sib lf tr cr) (cwV 0 hts (gV wd142 wd143 wd144 wd29 wd145) rfl rfl rfl (by decide +kernel) ⟨Nat.le_of_ble_eq_true rfl, Nat.le_of_ble_eq_true rfl⟩) ⟨fb_ro, va_recv hKc hPc (ci := 1) (q0 := 0) rfl rfl, pre_ro hPc hKc hZ⟩ rfl rfl hl.1 rfl (lv_room (Nat.le_of_ble_eq_true rfl)) dX2_skip_43 ⟨Nat.le_of_ble_eq_true rfl, Nat.le_of_ble_eq_true rfl⟩)) (fun r_3 hw_4 => ?_)
        refine lv_if_eq (tgt := 59) hx hb dX2_skip_46 (by decide) (fun c_46 => ?_) (fun c_46 => ?_)
        · refine lv_aload_n hx hb dX2_skip_59 rfl (lv_at hl 0 rfl) ?_
          refine va_get (D := (dC, dI)) (ci := 2) (v := .ref od) (C := RX2) (T := TX2) (N := 8) hx hb hts inGX2 hown hK hP 0 rfl rfl 6 (by decide) (hts _ wd104) (fun _ h9 => h9) rfl dX2_skip_60 ?_
          refine lv_aload_n hx hb dX2_skip_63 rfl (lv_at hl 0 rfl) ?_
          refine va_get (D := (dC, dI)) (ci := 2) (v := .ref oc) (C := RX2) (T := TX2) (N := 8) hx hb hts inGX2 hown hK hP 0 rfl rfl 5 (by decide) (hts _ wd103) (fun _ h9 => h9) rfl dX2_skip_64 ?_
          refine lv_aload_n hx hb dX2_skip_67 rfl (lv_at hl 0 rfl) ?_
          refine va_get (D := (dC, dI)) (ci := 2) (v := .ref od) (C := RX2) (T := TX2) (N := 8) hx hb hts inGX2 hown hK hP 0 rfl rfl 6 (by decide) (hts _ wd104) (fun _ h9 => h9) rfl dX2_skip_68 ?_
          refine va_getN (D := (dC, dI)) (ci := 1) (v := .int tr.1) (C := RX1) (T := TX1) (N := 7) hx hb hts inGX1 hown hK hP 6 rfl rfl 3 (by decide) (hZ.use zw2 rfl) (fun _ h9 => h9) rfl dX2_skip_71 ?_
          have hPc := hP.sub (ws' := [(oc, .inr (0, [.int lf, .ref oac, .int cr.2])), (oac, .inl (cIc, 600, .inl cr.1))]) [4, 5] rfl
          have hKc := hK.sub (tys' := [(cIc, .int)]) [1] rfl
          refine vp_callSi (va_Run.run (va_runV (As := [.int tr.1]) (rest := [.ref od]) ⟨hx, hb, hml, hown, hts⟩ (mX0_bitOf l dC dI cIc oc oac lf cr tr.1) (cwV 1 hts (gV wd150 wd151 wd152 wd28 wd153) rfl rfl rfl (by decide +kernel) ⟨Nat.le_of_ble_eq_true rfl, Nat.le_of_ble_eq_true rfl⟩) ⟨fb_ro, va_recv hKc hPc (ci := 0) (q0 := 0) rfl rfl, pre_ro hPc hKc hZ⟩ rfl rfl hl.1 rfl (lv_room (Nat.le_of_ble_eq_true rfl)) dX2_skip_74 ⟨Nat.le_of_ble_eq_true rfl, Nat.le_of_ble_eq_true rfl⟩)) (fun r_5 hw_6 => ?_)
          have hPc := hP.sub (ws' := [(od, .inr (1, [.ref oc, .int st, .int sib, .int tr.1, .int tr.2.1, .int tr.2.2.1, .int tr.2.2.2])), (oc, .inr (0, [.int lf, .ref oac, .int cr.2])), (oac, .inl (cIc, 600, .inl cr.1))]) [6, 4, 5] rfl
          have hKc := hK.sub (tys' := [(cIc, .int)]) [1] rfl
          have hDc := hD.sub (ws' := [(od, .inr (1, [.ref oc, .int st, .int sib, .int tr.1, .int tr.2.1, .int tr.2.2.1, .int tr.2.2.2])), (oc, .inr (0, [.int lf, .ref oac, .int cr.2])), (oac, .inl (cIc, 600, .inl cr.1))]) [6, 4, 5] (by decide) rfl
          have hFc := va_free (wc := [(od, .inr (1, [.ref oc, .int st, .int sib, .int tr.1, .int tr.2.1, .int tr.2.2.1, .int tr.2.2.2])), (oc, .inr (0, [.int lf, .ref oac, .int cr.2])), (oac, .inl (cIc, 600, .inl cr.1))]) hD hS hA [6, 4, 5] rfl
          refine va_callv (va_runV (As := [.int r_5]) (rest := []) ⟨hx, hb, hml, hown, hts⟩ (mX1_stepOver l dC dI cIc od oc oac H.size st sib lf tr cr r_5) (cwV 1 hts (gV wd158 wd159 wd160 wd29 wd161) rfl rfl rfl (by decide +kernel) ⟨Nat.le_of_ble_eq_true rfl, Nat.le_of_ble_eq_true rfl⟩) ⟨fb_rw, va_recv hKc hPc (ci := 1) (q0 := 0) rfl rfl, pre_rw hPc hKc hDc hZ⟩ rfl rfl hl.1 rfl (lv_room (Nat.le_of_ble_eq_true rfl)) dX2_skip_77 ⟨Nat.le_of_ble_eq_true rfl, Nat.le_of_ble_eq_true rfl⟩) hS (fun q _ h => hFc q h) hFc (fun u_8 t H1 locs ht hvm hw_7 hB hz1 hk1 hS => ?_)
          obtain ⟨hP1, hD1⟩ := hB
          rw [ht] at hP1
          obtain ⟨hP, hD⟩ := va_join (wr := [(ox, .inr (2, [.int st, .int lf, .int ao, .ref ow, .ref og, .ref oc, .ref od, .int bad])), (ow, .inr (0, [.int lf, .ref oaw, .int wr.2])), (oaw, .inl (cIw, 600, .inl wr.1)), (og, .inr (1, [.ref ow, .int st, .int sib, .int tw.1, .int tw.2.1, .int tw.2.2.1, .int tw.2.2.2]))]) (w1 := [(od, .inr (1, [.ref oc, .int st, .int sib, .int u_8.1, .int u_8.2.1, .int u_8.2.2.1, .int u_8.2.2.2])), (oc, .inr (0, [.int lf, .ref oac, .int cr.2])), (oac, .inl (cIc, 600, .inl cr.1))]) hP hD [6, 4, 5] [0, 1, 2, 3] rfl rfl (by decide) (by decide) hk1 hFc hP1 hD1
          generalize H1 = H at hP hS ⊢
          have hP : va_P (dC, dI) vwCl [(ox, .inr (2, [.int st, .int lf, .int ao, .ref ow, .ref og, .ref oc, .ref od, .int bad])), (ow, .inr (0, [.int lf, .ref oaw, .int wr.2])), (oaw, .inl (cIw, 600, .inl wr.1)), (og, .inr (1, [.ref ow, .int st, .int sib, .int tw.1, .int tw.2.1, .int tw.2.2.1, .int tw.2.2.2])), (od, .inr (1, [.ref oc, .int st, .int sib, .int u_8.1, .int u_8.2.1, .int u_8.2.2.1, .int u_8.2.2.2])), (oc, .inr (0, [.int lf, .ref oac, .int cr.2])), (oac, .inl (cIc, 600, .inl cr.1))] H := hP
          have hD : va_D A [(ox, .inr (2, [.int st, .int lf, .int ao, .ref ow, .ref og, .ref oc, .ref od, .int bad])), (ow, .inr (0, [.int lf, .ref oaw, .int wr.2])), (oaw, .inl (cIw, 600, .inl wr.1)), (og, .inr (1, [.ref ow, .int st, .int sib, .int tw.1, .int tw.2.1, .int tw.2.2.1, .int tw.2.2.2])), (od, .inr (1, [.ref oc, .int st, .int sib, .int u_8.1, .int u_8.2.1, .int u_8.2.2.1, .int u_8.2.2.2])), (oc, .inr (0, [.int lf, .ref oac, .int cr.2])), (oac, .inl (cIc, 600, .inl cr.1))] := hD
          obtain ⟨i_9, ei_9⟩ : ∃ y : Int32, y = ps + 1 := ⟨_, rfl⟩
          refine lv_iinc (v := i_9) (lv' := [(1, .int i_9), (0, .ref ox), (2, .int i)]) hx hb dX2_skip_80 hl (k := 1) rfl (by rw [ei_9]; rfl) (by decide) rfl (fun ls hl => ?_)
          obtain ⟨i_10, ei_10⟩ : ∃ y : Int32, y = i + 1 := ⟨_, rfl⟩
          refine lv_iinc (v := i_10) (lv' := [(2, .int i_10), (1, .int i_9), (0, .ref ox)]) hx hb dX2_skip_83 hl (k := 2) rfl (by rw [ei_10]; rfl) (by decide) rfl (fun ls hl => ?_)
          refine lv_goto (tgt := 23) hx hb dX2_skip_86 (by decide) ?_
          exact ih wr tw cr u_8 bad i_9 i_10 (fuel_step2 hf (nle_lt c_26) (by assumption)) ((plX2_skip_l23_2 st lf ao sib n wr tw cr tr bad ps i c_26 _ hw_2 c_36 _ hw_4 c_46 _ hw_6 _ hw_7 _ ei_9 _ ei_10).trans hz) _ _ (hP.sub (ws' := [(ox, .inr (2, [.int st, .int lf, .int ao, .ref ow, .ref og, .ref oc, .ref od, .int bad])), (ow, .inr (0, [.int lf, .ref oaw, .int wr.2])), (oaw, .inl (cIw, 600, .inl wr.1)), (og, .inr (1, [.ref ow, .int st, .int sib, .int tw.1, .int tw.2.1, .int tw.2.2.1, .int tw.2.2.2])), (oc, .inr (0, [.int lf, .ref oac, .int cr.2])), (oac, .inl (cIc, 600, .inl cr.1)), (od, .inr (1, [.ref oc, .int st, .int sib, .int u_8.1, .int u_8.2.1, .int u_8.2.2.1, .int u_8.2.2.2]))]) [0, 1, 2, 3, 5, 6, 4] rfl) (hD.sub (ws' := [(ox, .inr (2, [.int st, .int lf, .int ao, .ref ow, .ref og, .ref oc, .ref od, .int bad])), (ow, .inr (0, [.int lf, .ref oaw, .int wr.2])), (oaw, .inl (cIw, 600, .inl wr.1)), (og, .inr (1, [.ref ow, .int st, .int sib, .int tw.1, .int tw.2.1, .int tw.2.2.1, .int tw.2.2.2])), (oc, .inr (0, [.int lf, .ref oac, .int cr.2])), (oac, .inl (cIc, 600, .inl cr.1)), (od, .inr (1, [.ref oc, .int st, .int sib, .int u_8.1, .int u_8.2.1, .int u_8.2.2.1, .int u_8.2.2.2]))]) [0, 1, 2, 3, 5, 6, 4] (by decide) rfl) hS ls (lv_sub hl [2, 1, 0] rfl)
        · refine lv_aload_n hx hb dX2_skip_49 rfl (lv_at hl 0 rfl) ?_
          refine va_get (D := (dC, dI)) (ci := 2) (v := .ref od) (C := RX2) (T := TX2) (N := 8) hx hb hts inGX2 hown hK hP 0 rfl rfl 6 (by decide) (hts _ wd104) (fun _ h9 => h9) rfl dX2_skip_50 ?_
          have hPc := hP.sub (ws' := [(od, .inr (1, [.ref oc, .int st, .int sib, .int tr.1, .int tr.2.1, .int tr.2.2.1, .int tr.2.2.2])), (oc, .inr (0, [.int lf, .ref oac, .int cr.2])), (oac, .inl (cIc, 600, .inl cr.1))]) [6, 4, 5] rfl
          have hKc := hK.sub (tys' := [(cIc, .int)]) [1] rfl
          have hDc := hD.sub (ws' := [(od, .inr (1, [.ref oc, .int st, .int sib, .int tr.1, .int tr.2.1, .int tr.2.2.1, .int tr.2.2.2])), (oc, .inr (0, [.int lf, .ref oac, .int cr.2])), (oac, .inl (cIc, 600, .inl cr.1))]) [6, 4, 5] (by decide) rfl
          have hFc := va_free (wc := [(od, .inr (1, [.ref oc, .int st, .int sib, .int tr.1, .int tr.2.1, .int tr.2.2.1, .int tr.2.2.2])), (oc, .inr (0, [.int lf, .ref oac, .int cr.2])), (oac, .inl (cIc, 600, .inl cr.1))]) hD hS hA [6, 4, 5] rfl
          refine va_callv (va_runV (As := []) (rest := []) ⟨hx, hb, hml, hown, hts⟩ (mX1_stepOverStuffed l dC dI cIc od oc oac H.size st sib lf tr cr) (cwV 0 hts (gV wd146 wd147 wd148 wd29 wd149) rfl rfl rfl (by decide +kernel) ⟨Nat.le_of_ble_eq_true rfl, Nat.le_of_ble_eq_true rfl⟩) ⟨fb_rw, va_recv hKc hPc (ci := 1) (q0 := 0) rfl rfl, pre_rw hPc hKc hDc hZ⟩ rfl rfl hl.1 rfl (lv_room (Nat.le_of_ble_eq_true rfl)) dX2_skip_53 ⟨Nat.le_of_ble_eq_true rfl, Nat.le_of_ble_eq_true rfl⟩) hS (fun q _ h => hFc q h) hFc (fun u_12 t H1 locs ht hvm hw_11 hB hz1 hk1 hS => ?_)
          obtain ⟨hP1, hD1⟩ := hB
          rw [ht] at hP1
          obtain ⟨hP, hD⟩ := va_join (wr := [(ox, .inr (2, [.int st, .int lf, .int ao, .ref ow, .ref og, .ref oc, .ref od, .int bad])), (ow, .inr (0, [.int lf, .ref oaw, .int wr.2])), (oaw, .inl (cIw, 600, .inl wr.1)), (og, .inr (1, [.ref ow, .int st, .int sib, .int tw.1, .int tw.2.1, .int tw.2.2.1, .int tw.2.2.2]))]) (w1 := [(od, .inr (1, [.ref oc, .int st, .int sib, .int u_12.1, .int u_12.2.1, .int u_12.2.2.1, .int u_12.2.2.2])), (oc, .inr (0, [.int lf, .ref oac, .int cr.2])), (oac, .inl (cIc, 600, .inl cr.1))]) hP hD [6, 4, 5] [0, 1, 2, 3] rfl rfl (by decide) (by decide) hk1 hFc hP1 hD1
          generalize H1 = H at hP hS ⊢
          have hP : va_P (dC, dI) vwCl [(ox, .inr (2, [.int st, .int lf, .int ao, .ref ow, .ref og, .ref oc, .ref od, .int bad])), (ow, .inr (0, [.int lf, .ref oaw, .int wr.2])), (oaw, .inl (cIw, 600, .inl wr.1)), (og, .inr (1, [.ref ow, .int st, .int sib, .int tw.1, .int tw.2.1, .int tw.2.2.1, .int tw.2.2.2])), (od, .inr (1, [.ref oc, .int st, .int sib, .int u_12.1, .int u_12.2.1, .int u_12.2.2.1, .int u_12.2.2.2])), (oc, .inr (0, [.int lf, .ref oac, .int cr.2])), (oac, .inl (cIc, 600, .inl cr.1))] H := hP
          have hD : va_D A [(ox, .inr (2, [.int st, .int lf, .int ao, .ref ow, .ref og, .ref oc, .ref od, .int bad])), (ow, .inr (0, [.int lf, .ref oaw, .int wr.2])), (oaw, .inl (cIw, 600, .inl wr.1)), (og, .inr (1, [.ref ow, .int st, .int sib, .int tw.1, .int tw.2.1, .int tw.2.2.1, .int tw.2.2.2])), (od, .inr (1, [.ref oc, .int st, .int sib, .int u_12.1, .int u_12.2.1, .int u_12.2.2.1, .int u_12.2.2.2])), (oc, .inr (0, [.int lf, .ref oac, .int cr.2])), (oac, .inl (cIc, 600, .inl cr.1))] := hD
          refine lv_goto (tgt := 83) hx hb dX2_skip_56 (by decide) ?_
          obtain ⟨i_13, ei_13⟩ : ∃ y : Int32, y = i + 1 := ⟨_, rfl⟩
          refine lv_iinc (v := i_13) (lv' := [(2, .int i_13), (0, .ref ox), (1, .int ps)]) hx hb dX2_skip_83 hl (k := 2) rfl (by rw [ei_13]; rfl) (by decide) rfl (fun ls hl => ?_)
          refine lv_goto (tgt := 23) hx hb dX2_skip_86 (by decide) ?_
          exact ih wr tw cr u_12 bad ps i_13 (fuel_step2 hf (nle_lt c_26) (by assumption)) ((plX2_skip_l23_3 st lf ao sib n wr tw cr tr bad ps i c_26 _ hw_2 c_36 _ hw_4 c_46 _ hw_11 _ ei_13).trans hz) _ _ (hP.sub (ws' := [(ox, .inr (2, [.int st, .int lf, .int ao, .ref ow, .ref og, .ref oc, .ref od, .int bad])), (ow, .inr (0, [.int lf, .ref oaw, .int wr.2])), (oaw, .inl (cIw, 600, .inl wr.1)), (og, .inr (1, [.ref ow, .int st, .int sib, .int tw.1, .int tw.2.1, .int tw.2.2.1, .int tw.2.2.2])), (oc, .inr (0, [.int lf, .ref oac, .int cr.2])), (oac, .inl (cIc, 600, .inl cr.1)), (od, .inr (1, [.ref oc, .int st, .int sib, .int u_12.1, .int u_12.2.1, .int u_12.2.2.1, .int u_12.2.2.2]))]) [0, 1, 2, 3, 5, 6, 4] rfl) (hD.sub (ws' := [(ox, .inr (2, [.int st, .int lf, .int ao, .ref ow, .ref og, .ref oc, .ref od, .int bad])), (ow, .inr (0, [.int lf, .ref oaw, .int wr.2])), (oaw, .inl (cIw, 600, .inl wr.1)), (og, .inr (1, [.ref ow, .int st, .int sib, .int tw.1, .int tw.2.1, .int tw.2.2.1, .int tw.2.2.2])), (oc, .inr (0, [.int lf, .ref oac, .int cr.2])), (oac, .inl (cIc, 600, .inl cr.1)), (od, .inr (1, [.ref oc, .int st, .int sib, .int u_12.1, .int u_12.2.1, .int u_12.2.2.1, .int u_12.2.2.2]))]) [0, 1, 2, 3, 5, 6, 4] (by decide) rfl) hS ls (lv_sub hl [1, 2, 0] rfl)
set_option maxHeartbeats 4000000 in
set_option maxRecDepth 100000 in
theorem mX2_skip (l : Launch) (dC : Nat → ClassId) (dI : Nat → Nat → Nat) (cIw cIc : ClassId) (ox ow oaw og oc oac od : Nat) (sz : Nat) (st : Int32) (lf : Int32) (ao : Int32) (sib : Int32) (wr : Rw) (tw : Tk) (cr : Rw) (tr : Tk) (bad : Int32) : Met l yX2_skip (Cond.code yX2_skip cX2_skip 3 (some .int) :: G) ({ frames := 3, cells := 0, slots := 0, locals := 62 } : Room) (va_Pc [.ref ox] (fun U => U.heap.size = sz ∧ va_P (dC, dI) vwCl [(ox, .inr (2, [.int st, .int lf, .int ao, .ref ow, .ref og, .ref oc, .ref od, .int bad])), (ow, .inr (0, [.int lf, .ref oaw, .int wr.2])), (oaw, .inl (cIw, 600, .inl wr.1)), (og, .inr (1, [.ref ow, .int st, .int sib, .int tw.1, .int tw.2.1, .int tw.2.2.1, .int tw.2.2.2])), (oc, .inr (0, [.int lf, .ref oac, .int cr.2])), (oac, .inl (cIc, 600, .inl cr.1)), (od, .inr (1, [.ref oc, .int st, .int sib, .int tr.1, .int tr.2.1, .int tr.2.2.1, .int tr.2.2.2]))] U.heap ∧ va_K (dC, dI) vwCl [(cIw, .int), (cIc, .int)] U ∧ va_D (fun _ => True) [(ox, .inr (2, [.int st, .int lf, .int ao, .ref ow, .ref og, .ref oc, .ref od, .int bad])), (ow, .inr (0, [.int lf, .ref oaw, .int wr.2])), (oaw, .inl (cIw, 600, .inl wr.1)), (og, .inr (1, [.ref ow, .int st, .int sib, .int tw.1, .int tw.2.1, .int tw.2.2.1, .int tw.2.2.2])), (oc, .inr (0, [.int lf, .ref oac, .int cr.2])), (oac, .inl (cIc, 600, .inl cr.1)), (od, .inr (1, [.ref oc, .int st, .int sib, .int tr.1, .int tr.2.1, .int tr.2.2.1, .int tr.2.2.2]))] ∧ zOk U)) (va_Qi (fun (r : Int32) (u : Tk) => (r, u) = (FX2_skip st lf ao sib wr tw cr tr bad)) (fun (u : Tk) t => va_P (dC, dI) vwCl [(ox, .inr (2, [.int st, .int lf, .int ao, .ref ow, .ref og, .ref oc, .ref od, .int bad])), (ow, .inr (0, [.int lf, .ref oaw, .int wr.2])), (oaw, .inl (cIw, 600, .inl wr.1)), (og, .inr (1, [.ref ow, .int st, .int sib, .int tw.1, .int tw.2.1, .int tw.2.2.1, .int tw.2.2.2])), (oc, .inr (0, [.int lf, .ref oac, .int cr.2])), (oac, .inl (cIc, 600, .inl cr.1)), (od, .inr (1, [.ref oc, .int st, .int sib, .int u.1, .int u.2.1, .int u.2.2.1, .int u.2.2.2]))] t.heap ∧ va_D (va_A [(ox, .inr (2, [.int st, .int lf, .int ao, .ref ow, .ref og, .ref oc, .ref od, .int bad])), (ow, .inr (0, [.int lf, .ref oaw, .int wr.2])), (oaw, .inl (cIw, 600, .inl wr.1)), (og, .inr (1, [.ref ow, .int st, .int sib, .int tw.1, .int tw.2.1, .int tw.2.2.1, .int tw.2.2.2])), (oc, .inr (0, [.int lf, .ref oac, .int cr.2])), (oac, .inl (cIc, 600, .inl cr.1)), (od, .inr (1, [.ref oc, .int st, .int sib, .int tr.1, .int tr.2.1, .int tr.2.2.1, .int tr.2.2.2]))] sz) [(ox, .inr (2, [.int st, .int lf, .int ao, .ref ow, .ref og, .ref oc, .ref od, .int bad])), (ow, .inr (0, [.int lf, .ref oaw, .int wr.2])), (oaw, .inl (cIw, 600, .inl wr.1)), (og, .inr (1, [.ref ow, .int st, .int sib, .int tw.1, .int tw.2.1, .int tw.2.2.1, .int tw.2.2.2])), (oc, .inr (0, [.int lf, .ref oac, .int cr.2])), (oac, .inl (cIc, 600, .inl cr.1)), (od, .inr (1, [.ref oc, .int st, .int sib, .int u.1, .int u.2.1, .int u.2.2.1, .int u.2.2.2]))]) (va_A [(ox, .inr (2, [.int st, .int lf, .int ao, .ref ow, .ref og, .ref oc, .ref od, .int bad])), (ow, .inr (0, [.int lf, .ref oaw, .int wr.2])), (oaw, .inl (cIw, 600, .inl wr.1)), (og, .inr (1, [.ref ow, .int st, .int sib, .int tw.1, .int tw.2.1, .int tw.2.2.1, .int tw.2.2.2])), (oc, .inr (0, [.int lf, .ref oac, .int cr.2])), (oac, .inl (cIc, 600, .inl cr.1)), (od, .inr (1, [.ref oc, .int st, .int sib, .int tr.1, .int tr.2.1, .int tr.2.2.1, .int tr.2.2.2]))] sz)) 0 0 (va_A [(ox, .inr (2, [.int st, .int lf, .int ao, .ref ow, .ref og, .ref oc, .ref od, .int bad])), (ow, .inr (0, [.int lf, .ref oaw, .int wr.2])), (oaw, .inl (cIw, 600, .inl wr.1)), (og, .inr (1, [.ref ow, .int st, .int sib, .int tw.1, .int tw.2.1, .int tw.2.2.1, .int tw.2.2.2])), (oc, .inr (0, [.int lf, .ref oac, .int cr.2])), (oac, .inl (cIc, 600, .inl cr.1)), (od, .inr (1, [.ref oc, .int st, .int sib, .int tr.1, .int tr.2.1, .int tr.2.2.1, .int tr.2.2.2]))] sz) := by
  refine Met.ofW (cc := cX2_skip) (maxL := 3) (ret := (some .int)) (by decide) rfl ?_
  intro p e s m args below meth c s₁ B hml hv
  obtain ⟨rfl, hsz, hP, hK, hD0, hZ⟩ := hv
  have hx := B.exec
  have hb := B.bytes
  have hr := B.returns
  have hts : ∀ w ∈ G, w.before [.ref ox].toArray s = true := fun w h => atoms_spec (ws := (Cond.code yX2_skip cX2_skip 3 (some .int) :: G)) B.pre w (List.mem_cons_of_mem _ h)
  have hown : s.vm.findClass RX2 = some m.cls := findClass_of_methodNamed B.named
  have hlocks := B.notSynchronized
  subst hsz
  have hD := hD0.self (sz := s.heap.size)
  generalize hAe : va_A [(ox, .inr (2, [.int st, .int lf, .int ao, .ref ow, .ref og, .ref oc, .ref od, .int bad])), (ow, .inr (0, [.int lf, .ref oaw, .int wr.2])), (oaw, .inl (cIw, 600, .inl wr.1)), (og, .inr (1, [.ref ow, .int st, .int sib, .int tw.1, .int tw.2.1, .int tw.2.2.1, .int tw.2.2.2])), (oc, .inr (0, [.int lf, .ref oac, .int cr.2])), (oac, .inl (cIc, 600, .inl cr.1)), (od, .inr (1, [.ref oc, .int st, .int sib, .int tr.1, .int tr.2.1, .int tr.2.2.1, .int tr.2.2.2]))] s.heap.size = A at hD ⊢
  have hA : ∀ q : Nat, s.heap.size ≤ q → A q := fun q h => by rw [← hAe]; exact Or.inr h
  have hS : va_S A s.heap s.heap [] := va_S.rf
  have hP : va_P (dC, dI) vwCl [(ox, .inr (2, [.int st, .int lf, .int ao, .ref ow, .ref og, .ref oc, .ref od, .int bad])), (ow, .inr (0, [.int lf, .ref oaw, .int wr.2])), (oaw, .inl (cIw, 600, .inl wr.1)), (og, .inr (1, [.ref ow, .int st, .int sib, .int tw.1, .int tw.2.1, .int tw.2.2.1, .int tw.2.2.2])), (oc, .inr (0, [.int lf, .ref oac, .int cr.2])), (oac, .inl (cIc, 600, .inl cr.1)), (od, .inr (1, [.ref oc, .int st, .int sib, .int tr.1, .int tr.2.1, .int tr.2.2.1, .int tr.2.2.2]))] s.heap := hP
  have hl := lv_entry ([.ref ox]) (n := 3) (Nat.le_of_ble_eq_true rfl)
  rw [lg_entry_eq]
  generalize (lg_sl ([.ref ox]) ++ List.replicate (3 - (lg_sl ([.ref ox])).length) Slot.unset).toArray = ls at hl ⊢
  have hl : lv_has ls 3 [(0, .ref ox)] := hl
  refine lv_aload_n hx hb dX2_skip_0 rfl (lv_at hl 0 rfl) ?_
  refine va_get (D := (dC, dI)) (ci := 2) (v := .int bad) (C := RX2) (T := TX2) (N := 8) hx hb hts inGX2 hown hK hP 0 rfl rfl 7 (by decide) (hts _ wd105) (fun _ h9 => h9) rfl dX2_skip_1 ?_
  refine lv_if_ne (tgt := 17) hx hb dX2_skip_4 (by decide) (fun c_4 => ?_) (fun c_4 => ?_)
  · refine lv_iconst (v := 0) hx hb dX2_skip_17 (by decide) ?_
    have hP9 := hP.sub (ws' := [(ox, .inr (2, [.int st, .int lf, .int ao, .ref ow, .ref og, .ref oc, .ref od, .int bad])), (ow, .inr (0, [.int lf, .ref oaw, .int wr.2])), (oaw, .inl (cIw, 600, .inl wr.1)), (og, .inr (1, [.ref ow, .int st, .int sib, .int tw.1, .int tw.2.1, .int tw.2.2.1, .int tw.2.2.2])), (oc, .inr (0, [.int lf, .ref oac, .int cr.2])), (oac, .inl (cIc, 600, .inl cr.1)), (od, .inr (1, [.ref oc, .int st, .int sib, .int tr.1, .int tr.2.1, .int tr.2.2.1, .int tr.2.2.2]))]) [0, 1, 2, 3, 4, 5, 6] rfl
    have hD9 := hD.sub (ws' := [(ox, .inr (2, [.int st, .int lf, .int ao, .ref ow, .ref og, .ref oc, .ref od, .int bad])), (ow, .inr (0, [.int lf, .ref oaw, .int wr.2])), (oaw, .inl (cIw, 600, .inl wr.1)), (og, .inr (1, [.ref ow, .int st, .int sib, .int tw.1, .int tw.2.1, .int tw.2.2.1, .int tw.2.2.2])), (oc, .inr (0, [.int lf, .ref oac, .int cr.2])), (oac, .inl (cIc, 600, .inl cr.1)), (od, .inr (1, [.ref oc, .int st, .int sib, .int tr.1, .int tr.2.1, .int tr.2.2.1, .int tr.2.2.2]))]) [0, 1, 2, 3, 4, 5, 6] (by decide) rfl
    exact W.iret (v := 0) hx hb hr (fun t ht hW => ⟨⟨0, tr, rfl, (plX2_skip_0 st lf ao sib wr tw cr tr bad c_4), by rw [ht]; exact hP9, hD9⟩, hS.F ht⟩) hS.2.2 dX2_skip_18
  · refine lv_aload_n hx hb dX2_skip_7 rfl (lv_at hl 0 rfl) ?_
    refine va_get (D := (dC, dI)) (ci := 2) (v := .ref od) (C := RX2) (T := TX2) (N := 8) hx hb hts inGX2 hown hK hP 0 rfl rfl 6 (by decide) (hts _ wd104) (fun _ h9 => h9) rfl dX2_skip_8 ?_
    have hPc := hP.sub (ws' := [(od, .inr (1, [.ref oc, .int st, .int sib, .int tr.1, .int tr.2.1, .int tr.2.2.1, .int tr.2.2.2])), (oc, .inr (0, [.int lf, .ref oac, .int cr.2])), (oac, .inl (cIc, 600, .inl cr.1))]) [6, 4, 5] rfl
    have hKc := hK.sub (tys' := [(cIc, .int)]) [1] rfl
    refine vp_callSi (va_Run.run (va_runV (As := []) (rest := []) ⟨hx, hb, hml, hown, hts⟩ (mX1_isAligned l dC dI cIc od oc oac st sib lf tr cr) (cwV 0 hts (gV wd127 wd128 wd129 wd29 wd130) rfl rfl rfl (by decide +kernel) ⟨Nat.le_of_ble_eq_true rfl, Nat.le_of_ble_eq_true rfl⟩) ⟨fb_ro, va_recv hKc hPc (ci := 1) (q0 := 0) rfl rfl, pre_ro hPc hKc hZ⟩ rfl rfl hl.1 rfl (lv_room (Nat.le_of_ble_eq_true rfl)) dX2_skip_11 ⟨Nat.le_of_ble_eq_true rfl, Nat.le_of_ble_eq_true rfl⟩)) (fun r_1 hw_2 => ?_)
    refine lv_if_eq (tgt := 19) hx hb dX2_skip_14 (by decide) (fun c_14 => ?_) (fun c_14 => ?_)
    · refine lv_iconst (v := 0) hx hb dX2_skip_19 (by decide) ?_
      refine lv_istore_n (lv' := [(1, .int 0), (0, .ref ox)]) hx hb dX2_skip_20 rfl hl (by decide) rfl (fun ls hl => ?_)
      refine lv_iconst (v := 0) hx hb dX2_skip_21 (by decide) ?_
      refine lv_istore_n (lv' := [(2, .int 0), (1, .int 0), (0, .ref ox)]) hx hb dX2_skip_22 rfl hl (by decide) rfl (fun ls hl => ?_)
      exact kX2_skip_23 hx hb hr hml hown hts hlocks hA hZ hK 17 wr tw cr tr bad 0 0 (fuel_of (by decide) (by decide)) (plX2_skip_1 st lf ao sib wr tw cr tr bad c_4 _ hw_2 c_14) _ _ (hP.sub (ws' := [(ox, .inr (2, [.int st, .int lf, .int ao, .ref ow, .ref og, .ref oc, .ref od, .int bad])), (ow, .inr (0, [.int lf, .ref oaw, .int wr.2])), (oaw, .inl (cIw, 600, .inl wr.1)), (og, .inr (1, [.ref ow, .int st, .int sib, .int tw.1, .int tw.2.1, .int tw.2.2.1, .int tw.2.2.2])), (oc, .inr (0, [.int lf, .ref oac, .int cr.2])), (oac, .inl (cIc, 600, .inl cr.1)), (od, .inr (1, [.ref oc, .int st, .int sib, .int tr.1, .int tr.2.1, .int tr.2.2.1, .int tr.2.2.2]))]) [0, 1, 2, 3, 4, 5, 6] rfl) (hD.sub (ws' := [(ox, .inr (2, [.int st, .int lf, .int ao, .ref ow, .ref og, .ref oc, .ref od, .int bad])), (ow, .inr (0, [.int lf, .ref oaw, .int wr.2])), (oaw, .inl (cIw, 600, .inl wr.1)), (og, .inr (1, [.ref ow, .int st, .int sib, .int tw.1, .int tw.2.1, .int tw.2.2.1, .int tw.2.2.2])), (oc, .inr (0, [.int lf, .ref oac, .int cr.2])), (oac, .inl (cIc, 600, .inl cr.1)), (od, .inr (1, [.ref oc, .int st, .int sib, .int tr.1, .int tr.2.1, .int tr.2.2.1, .int tr.2.2.2]))]) [0, 1, 2, 3, 4, 5, 6] (by decide) rfl) hS ls (lv_sub hl [2, 1, 0] rfl)
    · refine lv_iconst (v := 0) hx hb dX2_skip_17 (by decide) ?_
      have hP9 := hP.sub (ws' := [(ox, .inr (2, [.int st, .int lf, .int ao, .ref ow, .ref og, .ref oc, .ref od, .int bad])), (ow, .inr (0, [.int lf, .ref oaw, .int wr.2])), (oaw, .inl (cIw, 600, .inl wr.1)), (og, .inr (1, [.ref ow, .int st, .int sib, .int tw.1, .int tw.2.1, .int tw.2.2.1, .int tw.2.2.2])), (oc, .inr (0, [.int lf, .ref oac, .int cr.2])), (oac, .inl (cIc, 600, .inl cr.1)), (od, .inr (1, [.ref oc, .int st, .int sib, .int tr.1, .int tr.2.1, .int tr.2.2.1, .int tr.2.2.2]))]) [0, 1, 2, 3, 4, 5, 6] rfl
      have hD9 := hD.sub (ws' := [(ox, .inr (2, [.int st, .int lf, .int ao, .ref ow, .ref og, .ref oc, .ref od, .int bad])), (ow, .inr (0, [.int lf, .ref oaw, .int wr.2])), (oaw, .inl (cIw, 600, .inl wr.1)), (og, .inr (1, [.ref ow, .int st, .int sib, .int tw.1, .int tw.2.1, .int tw.2.2.1, .int tw.2.2.2])), (oc, .inr (0, [.int lf, .ref oac, .int cr.2])), (oac, .inl (cIc, 600, .inl cr.1)), (od, .inr (1, [.ref oc, .int st, .int sib, .int tr.1, .int tr.2.1, .int tr.2.2.1, .int tr.2.2.2]))]) [0, 1, 2, 3, 4, 5, 6] (by decide) rfl
      exact W.iret (v := 0) hx hb hr (fun t ht hW => ⟨⟨0, tr, rfl, (plX2_skip_2 st lf ao sib wr tw cr tr bad c_4 _ hw_2 c_14), by rw [ht]; exact hP9, hD9⟩, hS.F ht⟩) hS.2.2 dX2_skip_18
def FX2_take (st : Int32) (lf : Int32) (ao : Int32) (sib : Int32) (wr : Rw) (tw : Tk) (cr : Rw) (tr : Tk) (bad : Int32) : Int32 × Tk :=
  let x_1 := tr.1 >>> (3 &&& 31)
  if bad = 0 then
    if st = 1 then
      let r_2 := FX1_isAtByte st sib lf tr cr
      if r_2 = 0 then
        ((-1), tr)
      else
        let r_4 := FX0_isMarkAt lf cr x_1
        if r_4 = 0 then
          ((-1), tr)
        else
          let u_7 := FX1_stepOverMark st sib lf tr cr
          let r_8 := FX0_byteOf lf cr (x_1 + 1)
          (r_8, u_7)
    else
      ((-1), tr)
  else
    ((-1), tr)
set_option maxRecDepth 100000 in
theorem plX2_take_0 (st : Int32) (lf : Int32) (ao : Int32) (sib : Int32) (wr : Rw) (tw : Tk) (cr : Rw) (tr : Tk) (bad : Int32) (x_1 : Int32) (ex_1 : x_1 = tr.1 >>> (3 &&& 31)) (c_14 : ¬ (bad = 0)) : ((-1), tr) = FX2_take st lf ao sib wr tw cr tr bad := by
  subst ex_1
  exact (if_neg c_14).symm
set_option maxRecDepth 100000 in
theorem plX2_take_1 (st : Int32) (lf : Int32) (ao : Int32) (sib : Int32) (wr : Rw) (tw : Tk) (cr : Rw) (tr : Tk) (bad : Int32) (x_1 : Int32) (ex_1 : x_1 = tr.1 >>> (3 &&& 31)) (c_14 : bad = 0) (c_22 : ¬ (st = 1)) : ((-1), tr) = FX2_take st lf ao sib wr tw cr tr bad := by
  subst ex_1
  exact ((if_pos c_14).trans (if_neg c_22)).symm
set_option maxRecDepth 100000 in
theorem plX2_take_2 (st : Int32) (lf : Int32) (ao : Int32) (sib : Int32) (wr : Rw) (tw : Tk) (cr : Rw) (tr : Tk) (bad : Int32) (x_1 : Int32) (ex_1 : x_1 = tr.1 >>> (3 &&& 31)) (c_14 : bad = 0) (c_22 : st = 1) (r_2 : Int32) (hw_3 : r_2 = FX1_isAtByte st sib lf tr cr) (c_32 : r_2 = 0) : ((-1), tr) = FX2_take st lf ao sib wr tw cr tr bad := by
  subst ex_1
  subst hw_3
  exact (((if_pos c_14).trans (if_pos c_22)).trans (if_pos c_32)).symm
set_option maxRecDepth 100000 in
theorem plX2_take_3 (st : Int32) (lf : Int32) (ao : Int32) (sib : Int32) (wr : Rw) (tw : Tk) (cr : Rw) (tr : Tk) (bad : Int32) (x_1 : Int32) (ex_1 : x_1 = tr.1 >>> (3 &&& 31)) (c_14 : bad = 0) (c_22 : st = 1) (r_2 : Int32) (hw_3 : r_2 = FX1_isAtByte st sib lf tr cr) (c_32 : ¬ (r_2 = 0)) (r_4 : Int32) (hw_5 : r_4 = FX0_isMarkAt lf cr x_1) (c_43 : ¬ (r_4 = 0)) (u_7 : Tk) (hw_6 : u_7 = FX1_stepOverMark st sib lf tr cr) (r_8 : Int32) (hw_9 : r_8 = FX0_byteOf lf cr (x_1 + 1)) : (r_8, u_7) = FX2_take st lf ao sib wr tw cr tr bad := by
  subst ex_1
  subst hw_3
  subst hw_5
  subst hw_6
  subst hw_9
  exact ((((if_pos c_14).trans (if_pos c_22)).trans (if_neg c_32)).trans (if_neg c_43)).symm
set_option maxRecDepth 100000 in
theorem plX2_take_4 (st : Int32) (lf : Int32) (ao : Int32) (sib : Int32) (wr : Rw) (tw : Tk) (cr : Rw) (tr : Tk) (bad : Int32) (x_1 : Int32) (ex_1 : x_1 = tr.1 >>> (3 &&& 31)) (c_14 : bad = 0) (c_22 : st = 1) (r_2 : Int32) (hw_3 : r_2 = FX1_isAtByte st sib lf tr cr) (c_32 : ¬ (r_2 = 0)) (r_4 : Int32) (hw_5 : r_4 = FX0_isMarkAt lf cr x_1) (c_43 : r_4 = 0) : ((-1), tr) = FX2_take st lf ao sib wr tw cr tr bad := by
  subst ex_1
  subst hw_3
  subst hw_5
  exact ((((if_pos c_14).trans (if_pos c_22)).trans (if_neg c_32)).trans (if_pos c_43)).symm
set_option maxHeartbeats 4000000 in
set_option maxRecDepth 100000 in
theorem mX2_take (l : Launch) (dC : Nat → ClassId) (dI : Nat → Nat → Nat) (cIw cIc : ClassId) (ox ow oaw og oc oac od : Nat) (sz : Nat) (st : Int32) (lf : Int32) (ao : Int32) (sib : Int32) (wr : Rw) (tw : Tk) (cr : Rw) (tr : Tk) (bad : Int32) : Met l yX2_take (Cond.code yX2_take cX2_take 2 (some .int) :: G) ({ frames := 2, cells := 0, slots := 0, locals := 42 } : Room) (va_Pc [.ref ox] (fun U => U.heap.size = sz ∧ va_P (dC, dI) vwCl [(ox, .inr (2, [.int st, .int lf, .int ao, .ref ow, .ref og, .ref oc, .ref od, .int bad])), (ow, .inr (0, [.int lf, .ref oaw, .int wr.2])), (oaw, .inl (cIw, 600, .inl wr.1)), (og, .inr (1, [.ref ow, .int st, .int sib, .int tw.1, .int tw.2.1, .int tw.2.2.1, .int tw.2.2.2])), (oc, .inr (0, [.int lf, .ref oac, .int cr.2])), (oac, .inl (cIc, 600, .inl cr.1)), (od, .inr (1, [.ref oc, .int st, .int sib, .int tr.1, .int tr.2.1, .int tr.2.2.1, .int tr.2.2.2]))] U.heap ∧ va_K (dC, dI) vwCl [(cIw, .int), (cIc, .int)] U ∧ va_D (fun _ => True) [(ox, .inr (2, [.int st, .int lf, .int ao, .ref ow, .ref og, .ref oc, .ref od, .int bad])), (ow, .inr (0, [.int lf, .ref oaw, .int wr.2])), (oaw, .inl (cIw, 600, .inl wr.1)), (og, .inr (1, [.ref ow, .int st, .int sib, .int tw.1, .int tw.2.1, .int tw.2.2.1, .int tw.2.2.2])), (oc, .inr (0, [.int lf, .ref oac, .int cr.2])), (oac, .inl (cIc, 600, .inl cr.1)), (od, .inr (1, [.ref oc, .int st, .int sib, .int tr.1, .int tr.2.1, .int tr.2.2.1, .int tr.2.2.2]))] ∧ zOk U)) (va_Qi (fun (r : Int32) (u : Tk) => (r, u) = (FX2_take st lf ao sib wr tw cr tr bad)) (fun (u : Tk) t => va_P (dC, dI) vwCl [(ox, .inr (2, [.int st, .int lf, .int ao, .ref ow, .ref og, .ref oc, .ref od, .int bad])), (ow, .inr (0, [.int lf, .ref oaw, .int wr.2])), (oaw, .inl (cIw, 600, .inl wr.1)), (og, .inr (1, [.ref ow, .int st, .int sib, .int tw.1, .int tw.2.1, .int tw.2.2.1, .int tw.2.2.2])), (oc, .inr (0, [.int lf, .ref oac, .int cr.2])), (oac, .inl (cIc, 600, .inl cr.1)), (od, .inr (1, [.ref oc, .int st, .int sib, .int u.1, .int u.2.1, .int u.2.2.1, .int u.2.2.2]))] t.heap ∧ va_D (va_A [(ox, .inr (2, [.int st, .int lf, .int ao, .ref ow, .ref og, .ref oc, .ref od, .int bad])), (ow, .inr (0, [.int lf, .ref oaw, .int wr.2])), (oaw, .inl (cIw, 600, .inl wr.1)), (og, .inr (1, [.ref ow, .int st, .int sib, .int tw.1, .int tw.2.1, .int tw.2.2.1, .int tw.2.2.2])), (oc, .inr (0, [.int lf, .ref oac, .int cr.2])), (oac, .inl (cIc, 600, .inl cr.1)), (od, .inr (1, [.ref oc, .int st, .int sib, .int tr.1, .int tr.2.1, .int tr.2.2.1, .int tr.2.2.2]))] sz) [(ox, .inr (2, [.int st, .int lf, .int ao, .ref ow, .ref og, .ref oc, .ref od, .int bad])), (ow, .inr (0, [.int lf, .ref oaw, .int wr.2])), (oaw, .inl (cIw, 600, .inl wr.1)), (og, .inr (1, [.ref ow, .int st, .int sib, .int tw.1, .int tw.2.1, .int tw.2.2.1, .int tw.2.2.2])), (oc, .inr (0, [.int lf, .ref oac, .int cr.2])), (oac, .inl (cIc, 600, .inl cr.1)), (od, .inr (1, [.ref oc, .int st, .int sib, .int u.1, .int u.2.1, .int u.2.2.1, .int u.2.2.2]))]) (va_A [(ox, .inr (2, [.int st, .int lf, .int ao, .ref ow, .ref og, .ref oc, .ref od, .int bad])), (ow, .inr (0, [.int lf, .ref oaw, .int wr.2])), (oaw, .inl (cIw, 600, .inl wr.1)), (og, .inr (1, [.ref ow, .int st, .int sib, .int tw.1, .int tw.2.1, .int tw.2.2.1, .int tw.2.2.2])), (oc, .inr (0, [.int lf, .ref oac, .int cr.2])), (oac, .inl (cIc, 600, .inl cr.1)), (od, .inr (1, [.ref oc, .int st, .int sib, .int tr.1, .int tr.2.1, .int tr.2.2.1, .int tr.2.2.2]))] sz)) 0 0 (va_A [(ox, .inr (2, [.int st, .int lf, .int ao, .ref ow, .ref og, .ref oc, .ref od, .int bad])), (ow, .inr (0, [.int lf, .ref oaw, .int wr.2])), (oaw, .inl (cIw, 600, .inl wr.1)), (og, .inr (1, [.ref ow, .int st, .int sib, .int tw.1, .int tw.2.1, .int tw.2.2.1, .int tw.2.2.2])), (oc, .inr (0, [.int lf, .ref oac, .int cr.2])), (oac, .inl (cIc, 600, .inl cr.1)), (od, .inr (1, [.ref oc, .int st, .int sib, .int tr.1, .int tr.2.1, .int tr.2.2.1, .int tr.2.2.2]))] sz) := by
  refine Met.ofW (cc := cX2_take) (maxL := 2) (ret := (some .int)) (by decide) rfl ?_
  intro p e s m args below meth c s₁ B hml hv
  obtain ⟨rfl, hsz, hP, hK, hD0, hZ⟩ := hv
  have hx := B.exec
  have hb := B.bytes
  have hr := B.returns
  have hts : ∀ w ∈ G, w.before [.ref ox].toArray s = true := fun w h => atoms_spec (ws := (Cond.code yX2_take cX2_take 2 (some .int) :: G)) B.pre w (List.mem_cons_of_mem _ h)
  have hown : s.vm.findClass RX2 = some m.cls := findClass_of_methodNamed B.named
  have hlocks := B.notSynchronized
  subst hsz
  have hD := hD0.self (sz := s.heap.size)
  generalize hAe : va_A [(ox, .inr (2, [.int st, .int lf, .int ao, .ref ow, .ref og, .ref oc, .ref od, .int bad])), (ow, .inr (0, [.int lf, .ref oaw, .int wr.2])), (oaw, .inl (cIw, 600, .inl wr.1)), (og, .inr (1, [.ref ow, .int st, .int sib, .int tw.1, .int tw.2.1, .int tw.2.2.1, .int tw.2.2.2])), (oc, .inr (0, [.int lf, .ref oac, .int cr.2])), (oac, .inl (cIc, 600, .inl cr.1)), (od, .inr (1, [.ref oc, .int st, .int sib, .int tr.1, .int tr.2.1, .int tr.2.2.1, .int tr.2.2.2]))] s.heap.size = A at hD ⊢
  have hA : ∀ q : Nat, s.heap.size ≤ q → A q := fun q h => by rw [← hAe]; exact Or.inr h
  have hS : va_S A s.heap s.heap [] := va_S.rf
  have hP : va_P (dC, dI) vwCl [(ox, .inr (2, [.int st, .int lf, .int ao, .ref ow, .ref og, .ref oc, .ref od, .int bad])), (ow, .inr (0, [.int lf, .ref oaw, .int wr.2])), (oaw, .inl (cIw, 600, .inl wr.1)), (og, .inr (1, [.ref ow, .int st, .int sib, .int tw.1, .int tw.2.1, .int tw.2.2.1, .int tw.2.2.2])), (oc, .inr (0, [.int lf, .ref oac, .int cr.2])), (oac, .inl (cIc, 600, .inl cr.1)), (od, .inr (1, [.ref oc, .int st, .int sib, .int tr.1, .int tr.2.1, .int tr.2.2.1, .int tr.2.2.2]))] s.heap := hP
  have hl := lv_entry ([.ref ox]) (n := 2) (Nat.le_of_ble_eq_true rfl)
  rw [lg_entry_eq]
  generalize (lg_sl ([.ref ox]) ++ List.replicate (2 - (lg_sl ([.ref ox])).length) Slot.unset).toArray = ls at hl ⊢
  have hl : lv_has ls 2 [(0, .ref ox)] := hl
  refine lv_aload_n hx hb dX2_take_0 rfl (lv_at hl 0 rfl) ?_
  refine va_get (D := (dC, dI)) (ci := 2) (v := .ref od) (C := RX2) (T := TX2) (N := 8) hx hb hts inGX2 hown hK hP 0 rfl rfl 6 (by decide) (hts _ wd104) (fun _ h9 => h9) rfl dX2_take_1 ?_
  refine va_getN (D := (dC, dI)) (ci := 1) (v := .int tr.1) (C := RX1) (T := TX1) (N := 7) hx hb hts inGX1 hown hK hP 6 rfl rfl 3 (by decide) (hZ.use zw2 rfl) (fun _ h9 => h9) rfl dX2_take_4 ?_
  refine lv_iconst (v := 3) hx hb dX2_take_7 (by decide) ?_
  refine lv_ishr hx hb dX2_take_8 ?_
  refine lv_topi (fun x_1 ex_1 => ?_)
  refine lv_istore_n (lv' := [(1, .int x_1), (0, .ref ox)]) hx hb dX2_take_9 rfl hl (by decide) rfl (fun ls hl => ?_)
  refine lv_aload_n hx hb dX2_take_10 rfl (lv_at hl 1 rfl) ?_
  refine va_get (D := (dC, dI)) (ci := 2) (v := .int bad) (C := RX2) (T := TX2) (N := 8) hx hb hts inGX2 hown hK hP 0 rfl rfl 7 (by decide) (hts _ wd105) (fun _ h9 => h9) rfl dX2_take_11 ?_
  refine lv_if_ne (tgt := 46) hx hb dX2_take_14 (by decide) (fun c_14 => ?_) (fun c_14 => ?_)
  · refine lv_iconst (v := (-1)) hx hb dX2_take_46 (by decide) ?_
    have hP9 := hP.sub (ws' := [(ox, .inr (2, [.int st, .int lf, .int ao, .ref ow, .ref og, .ref oc, .ref od, .int bad])), (ow, .inr (0, [.int lf, .ref oaw, .int wr.2])), (oaw, .inl (cIw, 600, .inl wr.1)), (og, .inr (1, [.ref ow, .int st, .int sib, .int tw.1, .int tw.2.1, .int tw.2.2.1, .int tw.2.2.2])), (oc, .inr (0, [.int lf, .ref oac, .int cr.2])), (oac, .inl (cIc, 600, .inl cr.1)), (od, .inr (1, [.ref oc, .int st, .int sib, .int tr.1, .int tr.2.1, .int tr.2.2.1, .int tr.2.2.2]))]) [0, 1, 2, 3, 4, 5, 6] rfl
    have hD9 := hD.sub (ws' := [(ox, .inr (2, [.int st, .int lf, .int ao, .ref ow, .ref og, .ref oc, .ref od, .int bad])), (ow, .inr (0, [.int lf, .ref oaw, .int wr.2])), (oaw, .inl (cIw, 600, .inl wr.1)), (og, .inr (1, [.ref ow, .int st, .int sib, .int tw.1, .int tw.2.1, .int tw.2.2.1, .int tw.2.2.2])), (oc, .inr (0, [.int lf, .ref oac, .int cr.2])), (oac, .inl (cIc, 600, .inl cr.1)), (od, .inr (1, [.ref oc, .int st, .int sib, .int tr.1, .int tr.2.1, .int tr.2.2.1, .int tr.2.2.2]))]) [0, 1, 2, 3, 4, 5, 6] (by decide) rfl
    exact W.iret (v := (-1)) hx hb hr (fun t ht hW => ⟨⟨(-1), tr, rfl, (plX2_take_0 st lf ao sib wr tw cr tr bad _ ex_1 c_14), by rw [ht]; exact hP9, hD9⟩, hS.F ht⟩) hS.2.2 dX2_take_47
  · refine lv_aload_n hx hb dX2_take_17 rfl (lv_at hl 1 rfl) ?_
    refine va_get (D := (dC, dI)) (ci := 2) (v := .int st) (C := RX2) (T := TX2) (N := 8) hx hb hts inGX2 hown hK hP 0 rfl rfl 0 (by decide) (hts _ wd98) (fun _ h9 => h9) rfl dX2_take_18 ?_
    refine lv_iconst (v := 1) hx hb dX2_take_21 (by decide) ?_
    refine lv_icmp_ne (tgt := 46) hx hb dX2_take_22 (by decide) (fun c_22 => ?_) (fun c_22 => ?_)
    · refine lv_iconst (v := (-1)) hx hb dX2_take_46 (by decide) ?_
      have hP9 := hP.sub (ws' := [(ox, .inr (2, [.int st, .int lf, .int ao, .ref ow, .ref og, .ref oc, .ref od, .int bad])), (ow, .inr (0, [.int lf, .ref oaw, .int wr.2])), (oaw, .inl (cIw, 600, .inl wr.1)), (og, .inr (1, [.ref ow, .int st, .int sib, .int tw.1, .int tw.2.1, .int tw.2.2.1, .int tw.2.2.2])), (oc, .inr (0, [.int lf, .ref oac, .int cr.2])), (oac, .inl (cIc, 600, .inl cr.1)), (od, .inr (1, [.ref oc, .int st, .int sib, .int tr.1, .int tr.2.1, .int tr.2.2.1, .int tr.2.2.2]))]) [0, 1, 2, 3, 4, 5, 6] rfl
      have hD9 := hD.sub (ws' := [(ox, .inr (2, [.int st, .int lf, .int ao, .ref ow, .ref og, .ref oc, .ref od, .int bad])), (ow, .inr (0, [.int lf, .ref oaw, .int wr.2])), (oaw, .inl (cIw, 600, .inl wr.1)), (og, .inr (1, [.ref ow, .int st, .int sib, .int tw.1, .int tw.2.1, .int tw.2.2.1, .int tw.2.2.2])), (oc, .inr (0, [.int lf, .ref oac, .int cr.2])), (oac, .inl (cIc, 600, .inl cr.1)), (od, .inr (1, [.ref oc, .int st, .int sib, .int tr.1, .int tr.2.1, .int tr.2.2.1, .int tr.2.2.2]))]) [0, 1, 2, 3, 4, 5, 6] (by decide) rfl
      exact W.iret (v := (-1)) hx hb hr (fun t ht hW => ⟨⟨(-1), tr, rfl, (plX2_take_1 st lf ao sib wr tw cr tr bad _ ex_1 c_14 c_22), by rw [ht]; exact hP9, hD9⟩, hS.F ht⟩) hS.2.2 dX2_take_47
    · refine lv_aload_n hx hb dX2_take_25 rfl (lv_at hl 1 rfl) ?_
      refine va_get (D := (dC, dI)) (ci := 2) (v := .ref od) (C := RX2) (T := TX2) (N := 8) hx hb hts inGX2 hown hK hP 0 rfl rfl 6 (by decide) (hts _ wd104) (fun _ h9 => h9) rfl dX2_take_26 ?_
      have hPc := hP.sub (ws' := [(od, .inr (1, [.ref oc, .int st, .int sib, .int tr.1, .int tr.2.1, .int tr.2.2.1, .int tr.2.2.2])), (oc, .inr (0, [.int lf, .ref oac, .int cr.2])), (oac, .inl (cIc, 600, .inl cr.1))]) [6, 4, 5] rfl
      have hKc := hK.sub (tys' := [(cIc, .int)]) [1] rfl
      refine vp_callSi (va_Run.run (va_runV (As := []) (rest := []) ⟨hx, hb, hml, hown, hts⟩ (mX1_isAtByte l dC dI cIc od oc oac st sib lf tr cr) (cwV 0 hts (gV wd166 wd132 wd133 wd29 wd134) rfl rfl rfl (by decide +kernel) ⟨Nat.le_of_ble_eq_true rfl, Nat.le_of_ble_eq_true rfl⟩) ⟨fb_ro, va_recv hKc hPc (ci := 1) (q0 := 0) rfl rfl, pre_ro hPc hKc hZ⟩ rfl rfl hl.1 rfl (lv_room (Nat.le_of_ble_eq_true rfl)) dX2_take_29 ⟨Nat.le_of_ble_eq_true rfl, Nat.le_of_ble_eq_true rfl⟩)) (fun r_2 hw_3 => ?_)
      refine lv_if_eq (tgt := 46) hx hb dX2_take_32 (by decide) (fun c_32 => ?_) (fun c_32 => ?_)
      · refine lv_iconst (v := (-1)) hx hb dX2_take_46 (by decide) ?_
        have hP9 := hP.sub (ws' := [(ox, .inr (2, [.int st, .int lf, .int ao, .ref ow, .ref og, .ref oc, .ref od, .int bad])), (ow, .inr (0, [.int lf, .ref oaw, .int wr.2])), (oaw, .inl (cIw, 600, .inl wr.1)), (og, .inr (1, [.ref ow, .int st, .int sib, .int tw.1, .int tw.2.1, .int tw.2.2.1, .int tw.2.2.2])), (oc, .inr (0, [.int lf, .ref oac, .int cr.2])), (oac, .inl (cIc, 600, .inl cr.1)), (od, .inr (1, [.ref oc, .int st, .int sib, .int tr.1, .int tr.2.1, .int tr.2.2.1, .int tr.2.2.2]))]) [0, 1, 2, 3, 4, 5, 6] rfl
        have hD9 := hD.sub (ws' := [(ox, .inr (2, [.int st, .int lf, .int ao, .ref ow, .ref og, .ref oc, .ref od, .int bad])), (ow, .inr (0, [.int lf, .ref oaw, .int wr.2])), (oaw, .inl (cIw, 600, .inl wr.1)), (og, .inr (1, [.ref ow, .int st, .int sib, .int tw.1, .int tw.2.1, .int tw.2.2.1, .int tw.2.2.2])), (oc, .inr (0, [.int lf, .ref oac, .int cr.2])), (oac, .inl (cIc, 600, .inl cr.1)), (od, .inr (1, [.ref oc, .int st, .int sib, .int tr.1, .int tr.2.1, .int tr.2.2.1, .int tr.2.2.2]))]) [0, 1, 2, 3, 4, 5, 6] (by decide) rfl
        exact W.iret (v := (-1)) hx hb hr (fun t ht hW => ⟨⟨(-1), tr, rfl, (plX2_take_2 st lf ao sib wr tw cr tr bad _ ex_1 c_14 c_22 _ hw_3 c_32), by rw [ht]; exact hP9, hD9⟩, hS.F ht⟩) hS.2.2 dX2_take_47
      · refine lv_aload_n hx hb dX2_take_35 rfl (lv_at hl 1 rfl) ?_
        refine va_get (D := (dC, dI)) (ci := 2) (v := .ref oc) (C := RX2) (T := TX2) (N := 8) hx hb hts inGX2 hown hK hP 0 rfl rfl 5 (by decide) (hts _ wd103) (fun _ h9 => h9) rfl dX2_take_36 ?_
        refine lv_iload_n hx hb dX2_take_39 rfl (lv_at hl 0 rfl) ?_
        have hPc := hP.sub (ws' := [(oc, .inr (0, [.int lf, .ref oac, .int cr.2])), (oac, .inl (cIc, 600, .inl cr.1))]) [4, 5] rfl
        have hKc := hK.sub (tys' := [(cIc, .int)]) [1] rfl
        refine vp_callSi (va_Run.run (va_runV (As := [.int x_1]) (rest := []) ⟨hx, hb, hml, hown, hts⟩ (mX0_isMarkAt l dC dI cIc oc oac lf cr x_1) (cwV 1 hts (gV wd167 wd168 wd169 wd28 wd170) rfl rfl rfl (by decide +kernel) ⟨Nat.le_of_ble_eq_true rfl, Nat.le_of_ble_eq_true rfl⟩) ⟨fb_ro, va_recv hKc hPc (ci := 0) (q0 := 0) rfl rfl, pre_ro hPc hKc hZ⟩ rfl rfl hl.1 rfl (lv_room (Nat.le_of_ble_eq_true rfl)) dX2_take_40 ⟨Nat.le_of_ble_eq_true rfl, Nat.le_of_ble_eq_true rfl⟩)) (fun r_4 hw_5 => ?_)
        refine lv_if_ne (tgt := 48) hx hb dX2_take_43 (by decide) (fun c_43 => ?_) (fun c_43 => ?_)
        · refine lv_aload_n hx hb dX2_take_48 rfl (lv_at hl 1 rfl) ?_
          refine va_get (D := (dC, dI)) (ci := 2) (v := .ref od) (C := RX2) (T := TX2) (N := 8) hx hb hts inGX2 hown hK hP 0 rfl rfl 6 (by decide) (hts _ wd104) (fun _ h9 => h9) rfl dX2_take_49 ?_
          have hPc := hP.sub (ws' := [(od, .inr (1, [.ref oc, .int st, .int sib, .int tr.1, .int tr.2.1, .int tr.2.2.1, .int tr.2.2.2])), (oc, .inr (0, [.int lf, .ref oac, .int cr.2])), (oac, .inl (cIc, 600, .inl cr.1))]) [6, 4, 5] rfl
          have hKc := hK.sub (tys' := [(cIc, .int)]) [1] rfl
          have hDc := hD.sub (ws' := [(od, .inr (1, [.ref oc, .int st, .int sib, .int tr.1, .int tr.2.1, .int tr.2.2.1, .int tr.2.2.2])), (oc, .inr (0, [.int lf, .ref oac, .int cr.2])), (oac, .inl (cIc, 600, .inl cr.1))]) [6, 4, 5] (by decide) rfl
          have hFc := va_free (wc := [(od, .inr (1, [.ref oc, .int st, .int sib, .int tr.1, .int tr.2.1, .int tr.2.2.1, .int tr.2.2.2])), (oc, .inr (0, [.int lf, .ref oac, .int cr.2])), (oac, .inl (cIc, 600, .inl cr.1))]) hD hS hA [6, 4, 5] rfl
          refine va_callv (va_runV (As := []) (rest := []) ⟨hx, hb, hml, hown, hts⟩ (mX1_stepOverMark l dC dI cIc od oc oac s.heap.size st sib lf tr cr) (cwV 0 hts (gV wd171 wd172 wd173 wd29 wd174) rfl rfl rfl (by decide +kernel) ⟨Nat.le_of_ble_eq_true rfl, Nat.le_of_ble_eq_true rfl⟩) ⟨fb_rw, va_recv hKc hPc (ci := 1) (q0 := 0) rfl rfl, pre_rw hPc hKc hDc hZ⟩ rfl rfl hl.1 rfl (lv_room (Nat.le_of_ble_eq_true rfl)) dX2_take_52 ⟨Nat.le_of_ble_eq_true rfl, Nat.le_of_ble_eq_true rfl⟩) hS (fun q _ h => hFc q h) hFc (fun u_7 t H1 locs ht hvm hw_6 hB hz1 hk1 hS => ?_)
          obtain ⟨hP1, hD1⟩ := hB
          rw [ht] at hP1
          obtain ⟨hP, hD⟩ := va_join (wr := [(ox, .inr (2, [.int st, .int lf, .int ao, .ref ow, .ref og, .ref oc, .ref od, .int bad])), (ow, .inr (0, [.int lf, .ref oaw, .int wr.2])), (oaw, .inl (cIw, 600, .inl wr.1)), (og, .inr (1, [.ref ow, .int st, .int sib, .int tw.1, .int tw.2.1, .int tw.2.2.1, .int tw.2.2.2]))]) (w1 := [(od, .inr (1, [.ref oc, .int st, .int sib, .int u_7.1, .int u_7.2.1, .int u_7.2.2.1, .int u_7.2.2.2])), (oc, .inr (0, [.int lf, .ref oac, .int cr.2])), (oac, .inl (cIc, 600, .inl cr.1))]) hP hD [6, 4, 5] [0, 1, 2, 3] rfl rfl (by decide) (by decide) hk1 hFc hP1 hD1
          generalize H1 = H at hP hS ⊢
          have hP : va_P (dC, dI) vwCl [(ox, .inr (2, [.int st, .int lf, .int ao, .ref ow, .ref og, .ref oc, .ref od, .int bad])), (ow, .inr (0, [.int lf, .ref oaw, .int wr.2])), (oaw, .inl (cIw, 600, .inl wr.1)), (og, .inr (1, [.ref ow, .int st, .int sib, .int tw.1, .int tw.2.1, .int tw.2.2.1, .int tw.2.2.2])), (od, .inr (1, [.ref oc, .int st, .int sib, .int u_7.1, .int u_7.2.1, .int u_7.2.2.1, .int u_7.2.2.2])), (oc, .inr (0, [.int lf, .ref oac, .int cr.2])), (oac, .inl (cIc, 600, .inl cr.1))] H := hP
          have hD : va_D A [(ox, .inr (2, [.int st, .int lf, .int ao, .ref ow, .ref og, .ref oc, .ref od, .int bad])), (ow, .inr (0, [.int lf, .ref oaw, .int wr.2])), (oaw, .inl (cIw, 600, .inl wr.1)), (og, .inr (1, [.ref ow, .int st, .int sib, .int tw.1, .int tw.2.1, .int tw.2.2.1, .int tw.2.2.2])), (od, .inr (1, [.ref oc, .int st, .int sib, .int u_7.1, .int u_7.2.1, .int u_7.2.2.1, .int u_7.2.2.2])), (oc, .inr (0, [.int lf, .ref oac, .int cr.2])), (oac, .inl (cIc, 600, .inl cr.1))] := hD
          refine lv_aload_n hx hb dX2_take_55 rfl (lv_at hl 1 rfl) ?_
          refine va_get (D := (dC, dI)) (ci := 2) (v := .ref oc) (C := RX2) (T := TX2) (N := 8) hx hb hts inGX2 hown hK hP 0 rfl rfl 5 (by decide) (hts _ wd103) (fun _ h9 => h9) rfl dX2_take_56 ?_
          refine lv_iload_n hx hb dX2_take_59 rfl (lv_at hl 0 rfl) ?_
          refine lv_iconst (v := 1) hx hb dX2_take_60 (by decide) ?_
          refine lv_iadd hx hb dX2_take_61 ?_
          have hPc := hP.sub (ws' := [(oc, .inr (0, [.int lf, .ref oac, .int cr.2])), (oac, .inl (cIc, 600, .inl cr.1))]) [5, 6] rfl
          have hKc := hK.sub (tys' := [(cIc, .int)]) [1] rfl
          refine vp_callSi (va_Run.run (va_runV (As := [.int (x_1 + 1)]) (rest := []) ⟨hx, hb, hml, hown, hts⟩ (mX0_byteOf l dC dI cIc oc oac lf cr (x_1 + 1)) (cwV 1 hts (gV wd175 wd139 wd140 wd28 wd141) rfl rfl rfl (by decide +kernel) ⟨Nat.le_of_ble_eq_true rfl, Nat.le_of_ble_eq_true rfl⟩) ⟨fb_ro, va_recv hKc hPc (ci := 0) (q0 := 0) rfl rfl, pre_ro hPc hKc hZ⟩ rfl rfl hl.1 rfl (lv_room (Nat.le_of_ble_eq_true rfl)) dX2_take_62 ⟨Nat.le_of_ble_eq_true rfl, Nat.le_of_ble_eq_true rfl⟩)) (fun r_8 hw_9 => ?_)
          have hP9 := hP.sub (ws' := [(ox, .inr (2, [.int st, .int lf, .int ao, .ref ow, .ref og, .ref oc, .ref od, .int bad])), (ow, .inr (0, [.int lf, .ref oaw, .int wr.2])), (oaw, .inl (cIw, 600, .inl wr.1)), (og, .inr (1, [.ref ow, .int st, .int sib, .int tw.1, .int tw.2.1, .int tw.2.2.1, .int tw.2.2.2])), (oc, .inr (0, [.int lf, .ref oac, .int cr.2])), (oac, .inl (cIc, 600, .inl cr.1)), (od, .inr (1, [.ref oc, .int st, .int sib, .int u_7.1, .int u_7.2.1, .int u_7.2.2.1, .int u_7.2.2.2]))]) [0, 1, 2, 3, 5, 6, 4] rfl
          have hD9 := hD.sub (ws' := [(ox, .inr (2, [.int st, .int lf, .int ao, .ref ow, .ref og, .ref oc, .ref od, .int bad])), (ow, .inr (0, [.int lf, .ref oaw, .int wr.2])), (oaw, .inl (cIw, 600, .inl wr.1)), (og, .inr (1, [.ref ow, .int st, .int sib, .int tw.1, .int tw.2.1, .int tw.2.2.1, .int tw.2.2.2])), (oc, .inr (0, [.int lf, .ref oac, .int cr.2])), (oac, .inl (cIc, 600, .inl cr.1)), (od, .inr (1, [.ref oc, .int st, .int sib, .int u_7.1, .int u_7.2.1, .int u_7.2.2.1, .int u_7.2.2.2]))]) [0, 1, 2, 3, 5, 6, 4] (by decide) rfl
          exact W.iret (v := r_8) hx hb hr (fun t ht hW => ⟨⟨r_8, u_7, rfl, (plX2_take_3 st lf ao sib wr tw cr tr bad _ ex_1 c_14 c_22 _ hw_3 c_32 _ hw_5 c_43 _ hw_6 _ hw_9), by rw [ht]; exact hP9, hD9⟩, hS.F ht⟩) hS.2.2 dX2_take_65
        · refine lv_iconst (v := (-1)) hx hb dX2_take_46 (by decide) ?_
          have hP9 := hP.sub (ws' := [(ox, .inr (2, [.int st, .int lf, .int ao, .ref ow, .ref og, .ref oc, .ref od, .int bad])), (ow, .inr (0, [.int lf, .ref oaw, .int wr.2])), (oaw, .inl (cIw, 600, .inl wr.1)), (og, .inr (1, [.ref ow, .int st, .int sib, .int tw.1, .int tw.2.1, .int tw.2.2.1, .int tw.2.2.2])), (oc, .inr (0, [.int lf, .ref oac, .int cr.2])), (oac, .inl (cIc, 600, .inl cr.1)), (od, .inr (1, [.ref oc, .int st, .int sib, .int tr.1, .int tr.2.1, .int tr.2.2.1, .int tr.2.2.2]))]) [0, 1, 2, 3, 4, 5, 6] rfl
          have hD9 := hD.sub (ws' := [(ox, .inr (2, [.int st, .int lf, .int ao, .ref ow, .ref og, .ref oc, .ref od, .int bad])), (ow, .inr (0, [.int lf, .ref oaw, .int wr.2])), (oaw, .inl (cIw, 600, .inl wr.1)), (og, .inr (1, [.ref ow, .int st, .int sib, .int tw.1, .int tw.2.1, .int tw.2.2.1, .int tw.2.2.2])), (oc, .inr (0, [.int lf, .ref oac, .int cr.2])), (oac, .inl (cIc, 600, .inl cr.1)), (od, .inr (1, [.ref oc, .int st, .int sib, .int tr.1, .int tr.2.1, .int tr.2.2.1, .int tr.2.2.2]))]) [0, 1, 2, 3, 4, 5, 6] (by decide) rfl
          exact W.iret (v := (-1)) hx hb hr (fun t ht hW => ⟨⟨(-1), tr, rfl, (plX2_take_4 st lf ao sib wr tw cr tr bad _ ex_1 c_14 c_22 _ hw_3 c_32 _ hw_5 c_43), by rw [ht]; exact hP9, hD9⟩, hS.F ht⟩) hS.2.2 dX2_take_47
def FX2_told (st : Int32) (lf : Int32) (ao : Int32) (sib : Int32) (wr : Rw) (tw : Tk) (cr : Rw) (tr : Tk) (bad : Int32) (p0 : Int32) : Int32 :=
  if p0 = 0 then
    st
  else
    if p0 = 1 then
      if lf = 0 then
        0
      else
        1
    else
      if p0 = 2 then
        tw.1
      else
        if p0 = 3 then
          tw.2.1
        else
          if p0 = 4 then
            cr.2
          else
            if p0 = 5 then
              tr.1
            else
              if p0 = 6 then
                tr.2.1
              else
                if p0 = 7 then
                  if bad = 0 then
                    0
                  else
                    1
                else
                  (-1)
set_option maxRecDepth 100000 in
theorem plX2_told_0 (st : Int32) (lf : Int32) (ao : Int32) (sib : Int32) (wr : Rw) (tw : Tk) (cr : Rw) (tr : Tk) (bad : Int32) (p0 : Int32) (c1_0 : p0 = 0) : st = FX2_told st lf ao sib wr tw cr tr bad p0 := by
  exact (if_pos c1_0).symm
set_option maxRecDepth 100000 in
theorem plX2_told_1 (st : Int32) (lf : Int32) (ao : Int32) (sib : Int32) (wr : Rw) (tw : Tk) (cr : Rw) (tr : Tk) (bad : Int32) (p0 : Int32) (c1_0 : ¬ (p0 = 0)) (c1_1 : p0 = 1) (c_57 : lf = 0) : 0 = FX2_told st lf ao sib wr tw cr tr bad p0 := by
  exact (((if_neg c1_0).trans (if_pos c1_1)).trans (if_pos c_57)).symm
set_option maxRecDepth 100000 in
theorem plX2_told_2 (st : Int32) (lf : Int32) (ao : Int32) (sib : Int32) (wr : Rw) (tw : Tk) (cr : Rw) (tr : Tk) (bad : Int32) (p0 : Int32) (c1_0 : ¬ (p0 = 0)) (c1_1 : p0 = 1) (c_57 : ¬ (lf = 0)) : 1 = FX2_told st lf ao sib wr tw cr tr bad p0 := by
  exact (((if_neg c1_0).trans (if_pos c1_1)).trans (if_neg c_57)).symm
set_option maxRecDepth 100000 in
theorem plX2_told_3 (st : Int32) (lf : Int32) (ao : Int32) (sib : Int32) (wr : Rw) (tw : Tk) (cr : Rw) (tr : Tk) (bad : Int32) (p0 : Int32) (c1_0 : ¬ (p0 = 0)) (c1_1 : ¬ (p0 = 1)) (c1_2 : p0 = 2) : tw.1 = FX2_told st lf ao sib wr tw cr tr bad p0 := by
  exact (((if_neg c1_0).trans (if_neg c1_1)).trans (if_pos c1_2)).symm
set_option maxRecDepth 100000 in
theorem plX2_told_4 (st : Int32) (lf : Int32) (ao : Int32) (sib : Int32) (wr : Rw) (tw : Tk) (cr : Rw) (tr : Tk) (bad : Int32) (p0 : Int32) (c1_0 : ¬ (p0 = 0)) (c1_1 : ¬ (p0 = 1)) (c1_2 : ¬ (p0 = 2)) (c1_3 : p0 = 3) : tw.2.1 = FX2_told st lf ao sib wr tw cr tr bad p0 := by
  exact ((((if_neg c1_0).trans (if_neg c1_1)).trans (if_neg c1_2)).trans (if_pos c1_3)).symm
set_option maxRecDepth 100000 in
theorem plX2_told_5 (st : Int32) (lf : Int32) (ao : Int32) (sib : Int32) (wr : Rw) (tw : Tk) (cr : Rw) (tr : Tk) (bad : Int32) (p0 : Int32) (c1_0 : ¬ (p0 = 0)) (c1_1 : ¬ (p0 = 1)) (c1_2 : ¬ (p0 = 2)) (c1_3 : ¬ (p0 = 3)) (c1_4 : p0 = 4) : cr.2 = FX2_told st lf ao sib wr tw cr tr bad p0 := by
  exact (((((if_neg c1_0).trans (if_neg c1_1)).trans (if_neg c1_2)).trans (if_neg c1_3)).trans (if_pos c1_4)).symm
set_option maxRecDepth 100000 in
theorem plX2_told_6 (st : Int32) (lf : Int32) (ao : Int32) (sib : Int32) (wr : Rw) (tw : Tk) (cr : Rw) (tr : Tk) (bad : Int32) (p0 : Int32) (c1_0 : ¬ (p0 = 0)) (c1_1 : ¬ (p0 = 1)) (c1_2 : ¬ (p0 = 2)) (c1_3 : ¬ (p0 = 3)) (c1_4 : ¬ (p0 = 4)) (c1_5 : p0 = 5) : tr.1 = FX2_told st lf ao sib wr tw cr tr bad p0 := by
  exact ((((((if_neg c1_0).trans (if_neg c1_1)).trans (if_neg c1_2)).trans (if_neg c1_3)).trans (if_neg c1_4)).trans (if_pos c1_5)).symm
set_option maxRecDepth 100000 in
theorem plX2_told_7 (st : Int32) (lf : Int32) (ao : Int32) (sib : Int32) (wr : Rw) (tw : Tk) (cr : Rw) (tr : Tk) (bad : Int32) (p0 : Int32) (c1_0 : ¬ (p0 = 0)) (c1_1 : ¬ (p0 = 1)) (c1_2 : ¬ (p0 = 2)) (c1_3 : ¬ (p0 = 3)) (c1_4 : ¬ (p0 = 4)) (c1_5 : ¬ (p0 = 5)) (c1_6 : p0 = 6) : tr.2.1 = FX2_told st lf ao sib wr tw cr tr bad p0 := by
  exact (((((((if_neg c1_0).trans (if_neg c1_1)).trans (if_neg c1_2)).trans (if_neg c1_3)).trans (if_neg c1_4)).trans (if_neg c1_5)).trans (if_pos c1_6)).symm
set_option maxRecDepth 100000 in
theorem plX2_told_8 (st : Int32) (lf : Int32) (ao : Int32) (sib : Int32) (wr : Rw) (tw : Tk) (cr : Rw) (tr : Tk) (bad : Int32) (p0 : Int32) (c1_0 : ¬ (p0 = 0)) (c1_1 : ¬ (p0 = 1)) (c1_2 : ¬ (p0 = 2)) (c1_3 : ¬ (p0 = 3)) (c1_4 : ¬ (p0 = 4)) (c1_5 : ¬ (p0 = 5)) (c1_6 : ¬ (p0 = 6)) (c1_7 : p0 = 7) (c_110 : bad = 0) : 0 = FX2_told st lf ao sib wr tw cr tr bad p0 := by
  exact (((((((((if_neg c1_0).trans (if_neg c1_1)).trans (if_neg c1_2)).trans (if_neg c1_3)).trans (if_neg c1_4)).trans (if_neg c1_5)).trans (if_neg c1_6)).trans (if_pos c1_7)).trans (if_pos c_110)).symm
set_option maxRecDepth 100000 in
theorem plX2_told_9 (st : Int32) (lf : Int32) (ao : Int32) (sib : Int32) (wr : Rw) (tw : Tk) (cr : Rw) (tr : Tk) (bad : Int32) (p0 : Int32) (c1_0 : ¬ (p0 = 0)) (c1_1 : ¬ (p0 = 1)) (c1_2 : ¬ (p0 = 2)) (c1_3 : ¬ (p0 = 3)) (c1_4 : ¬ (p0 = 4)) (c1_5 : ¬ (p0 = 5)) (c1_6 : ¬ (p0 = 6)) (c1_7 : p0 = 7) (c_110 : ¬ (bad = 0)) : 1 = FX2_told st lf ao sib wr tw cr tr bad p0 := by
  exact (((((((((if_neg c1_0).trans (if_neg c1_1)).trans (if_neg c1_2)).trans (if_neg c1_3)).trans (if_neg c1_4)).trans (if_neg c1_5)).trans (if_neg c1_6)).trans (if_pos c1_7)).trans (if_neg c_110)).symm
set_option maxRecDepth 100000 in
theorem plX2_told_10 (st : Int32) (lf : Int32) (ao : Int32) (sib : Int32) (wr : Rw) (tw : Tk) (cr : Rw) (tr : Tk) (bad : Int32) (p0 : Int32) (c1_0 : ¬ (p0 = 0)) (c1_1 : ¬ (p0 = 1)) (c1_2 : ¬ (p0 = 2)) (c1_3 : ¬ (p0 = 3)) (c1_4 : ¬ (p0 = 4)) (c1_5 : ¬ (p0 = 5)) (c1_6 : ¬ (p0 = 6)) (c1_7 : ¬ (p0 = 7)) : (-1) = FX2_told st lf ao sib wr tw cr tr bad p0 := by
  exact ((((((((if_neg c1_0).trans (if_neg c1_1)).trans (if_neg c1_2)).trans (if_neg c1_3)).trans (if_neg c1_4)).trans (if_neg c1_5)).trans (if_neg c1_6)).trans (if_neg c1_7)).symm
set_option maxHeartbeats 4000000 in
set_option maxRecDepth 100000 in
theorem mX2_told (l : Launch) (dC : Nat → ClassId) (dI : Nat → Nat → Nat) (cIw cIc : ClassId) (ox ow oaw og oc oac od : Nat) (st : Int32) (lf : Int32) (ao : Int32) (sib : Int32) (wr : Rw) (tw : Tk) (cr : Rw) (tr : Tk) (bad : Int32) (p0 : Int32) : Met l yX2_told (Cond.code yX2_told cX2_told 2 (some .int) :: G) ({ frames := 0, cells := 0, slots := 0, locals := 0 } : Room) (va_Pc [.ref ox, .int p0] (fun U => va_P (dC, dI) vwCl [(ox, .inr (2, [.int st, .int lf, .int ao, .ref ow, .ref og, .ref oc, .ref od, .int bad])), (ow, .inr (0, [.int lf, .ref oaw, .int wr.2])), (oaw, .inl (cIw, 600, .inl wr.1)), (og, .inr (1, [.ref ow, .int st, .int sib, .int tw.1, .int tw.2.1, .int tw.2.2.1, .int tw.2.2.2])), (oc, .inr (0, [.int lf, .ref oac, .int cr.2])), (oac, .inl (cIc, 600, .inl cr.1)), (od, .inr (1, [.ref oc, .int st, .int sib, .int tr.1, .int tr.2.1, .int tr.2.2.1, .int tr.2.2.2]))] U.heap ∧ va_K (dC, dI) vwCl [(cIw, .int), (cIc, .int)] U ∧ zOk U)) (vp_Si (fun r => r = (FX2_told st lf ao sib wr tw cr tr bad p0))) 0 0 (fun _ => False) := by
  refine Met.ofW (cc := cX2_told) (maxL := 2) (ret := (some .int)) (by decide) rfl ?_
  intro p e s m args below meth c s₁ B hml hv
  obtain ⟨rfl, hP, hK, hZ⟩ := hv
  have hx := B.exec
  have hb := B.bytes
  have hr := B.returns
  have hts : ∀ w ∈ G, w.before [.ref ox, .int p0].toArray s = true := fun w h => atoms_spec (ws := (Cond.code yX2_told cX2_told 2 (some .int) :: G)) B.pre w (List.mem_cons_of_mem _ h)
  have hown : s.vm.findClass RX2 = some m.cls := findClass_of_methodNamed B.named
  have hlocks := B.notSynchronized
  have hl := lv_entry ([.ref ox, .int p0]) (n := 2) (Nat.le_of_ble_eq_true rfl)
  rw [lg_entry_eq]
  generalize (lg_sl ([.ref ox, .int p0]) ++ List.replicate (2 - (lg_sl ([.ref ox, .int p0])).length) Slot.unset).toArray = ls at hl ⊢
  have hl : lv_has ls 2 [(0, .ref ox), (1, .int p0)] := hl
  refine lv_iload_n hx hb dX2_told_0 rfl (lv_at hl 1 rfl) ?_
  by_cases c1_0 : p0 = 0
  · refine lv_tableIn (off := 47) (tgt := 48) hx hb dX2_told_1 (by rw [c1_0]; decide) (by rw [c1_0]; decide) (by rw [c1_0]; decide) (by decide) ?_
    refine lv_aload_n hx hb dX2_told_48 rfl (lv_at hl 0 rfl) ?_
    refine va_get (D := (dC, dI)) (ci := 2) (v := .int st) (C := RX2) (T := TX2) (N := 8) hx hb hts inGX2 hown hK hP 0 rfl rfl 0 (by decide) (hts _ wd98) (fun _ h9 => h9) rfl dX2_told_49 ?_
    exact W.iret (v := st) hx hb hr (fun t ht hW => ⟨st, rfl, (plX2_told_0 st lf ao sib wr tw cr tr bad p0 c1_0), ht⟩) (fun q h => nomatch h) dX2_told_52
  · by_cases c1_1 : p0 = 1
    · refine lv_tableIn (off := 52) (tgt := 53) hx hb dX2_told_1 (by rw [c1_1]; decide) (by rw [c1_1]; decide) (by rw [c1_1]; decide) (by decide) ?_
      refine lv_aload_n hx hb dX2_told_53 rfl (lv_at hl 0 rfl) ?_
      refine va_get (D := (dC, dI)) (ci := 2) (v := .int lf) (C := RX2) (T := TX2) (N := 8) hx hb hts inGX2 hown hK hP 0 rfl rfl 1 (by decide) (hts _ wd99) (fun _ h9 => h9) rfl dX2_told_54 ?_
      refine lv_if_eq (tgt := 64) hx hb dX2_told_57 (by decide) (fun c_57 => ?_) (fun c_57 => ?_)
      · refine lv_iconst (v := 0) hx hb dX2_told_64 (by decide) ?_
        exact W.iret (v := 0) hx hb hr (fun t ht hW => ⟨0, rfl, (plX2_told_1 st lf ao sib wr tw cr tr bad p0 c1_0 c1_1 c_57), ht⟩) (fun q h => nomatch h) dX2_told_65
      · refine lv_iconst (v := 1) hx hb dX2_told_60 (by decide) ?_
        refine lv_goto (tgt := 65) hx hb dX2_told_61 (by decide) ?_
        exact W.iret (v := 1) hx hb hr (fun t ht hW => ⟨1, rfl, (plX2_told_2 st lf ao sib wr tw cr tr bad p0 c1_0 c1_1 c_57), ht⟩) (fun q h => nomatch h) dX2_told_65
    · by_cases c1_2 : p0 = 2
      · refine lv_tableIn (off := 65) (tgt := 66) hx hb dX2_told_1 (by rw [c1_2]; decide) (by rw [c1_2]; decide) (by rw [c1_2]; decide) (by decide) ?_
        refine lv_aload_n hx hb dX2_told_66 rfl (lv_at hl 0 rfl) ?_
        refine va_get (D := (dC, dI)) (ci := 2) (v := .ref og) (C := RX2) (T := TX2) (N := 8) hx hb hts inGX2 hown hK hP 0 rfl rfl 4 (by decide) (hts _ wd102) (fun _ h9 => h9) rfl dX2_told_67 ?_
        refine va_getN (D := (dC, dI)) (ci := 1) (v := .int tw.1) (C := RX1) (T := TX1) (N := 7) hx hb hts inGX1 hown hK hP 3 rfl rfl 3 (by decide) (hZ.use zw2 rfl) (fun _ h9 => h9) rfl dX2_told_70 ?_
        exact W.iret (v := tw.1) hx hb hr (fun t ht hW => ⟨tw.1, rfl, (plX2_told_3 st lf ao sib wr tw cr tr bad p0 c1_0 c1_1 c1_2), ht⟩) (fun q h => nomatch h) dX2_told_73
      · by_cases c1_3 : p0 = 3
        · refine lv_tableIn (off := 73) (tgt := 74) hx hb dX2_told_1 (by rw [c1_3]; decide) (by rw [c1_3]; decide) (by rw [c1_3]; decide) (by decide) ?_
          refine lv_aload_n hx hb dX2_told_74 rfl (lv_at hl 0 rfl) ?_
          refine va_get (D := (dC, dI)) (ci := 2) (v := .ref og) (C := RX2) (T := TX2) (N := 8) hx hb hts inGX2 hown hK hP 0 rfl rfl 4 (by decide) (hts _ wd102) (fun _ h9 => h9) rfl dX2_told_75 ?_
          refine va_getN (D := (dC, dI)) (ci := 1) (v := .int tw.2.1) (C := RX1) (T := TX1) (N := 7) hx hb hts inGX1 hown hK hP 3 rfl rfl 4 (by decide) (hZ.use zw3 rfl) (fun _ h9 => h9) rfl dX2_told_78 ?_
          exact W.iret (v := tw.2.1) hx hb hr (fun t ht hW => ⟨tw.2.1, rfl, (plX2_told_4 st lf ao sib wr tw cr tr bad p0 c1_0 c1_1 c1_2 c1_3), ht⟩) (fun q h => nomatch h) dX2_told_81
        · by_cases c1_4 : p0 = 4
          · refine lv_tableIn (off := 81) (tgt := 82) hx hb dX2_told_1 (by rw [c1_4]; decide) (by rw [c1_4]; decide) (by rw [c1_4]; decide) (by decide) ?_
            refine lv_aload_n hx hb dX2_told_82 rfl (lv_at hl 0 rfl) ?_
            refine va_get (D := (dC, dI)) (ci := 2) (v := .ref oc) (C := RX2) (T := TX2) (N := 8) hx hb hts inGX2 hown hK hP 0 rfl rfl 5 (by decide) (hts _ wd103) (fun _ h9 => h9) rfl dX2_told_83 ?_
            refine va_getN (D := (dC, dI)) (ci := 0) (v := .int cr.2) (C := RX0) (T := TX0) (N := 3) hx hb hts inGX0 hown hK hP 4 rfl rfl 2 (by decide) (hZ.use zw1 rfl) (fun _ h9 => h9) rfl dX2_told_86 ?_
            exact W.iret (v := cr.2) hx hb hr (fun t ht hW => ⟨cr.2, rfl, (plX2_told_5 st lf ao sib wr tw cr tr bad p0 c1_0 c1_1 c1_2 c1_3 c1_4), ht⟩) (fun q h => nomatch h) dX2_told_89
          · by_cases c1_5 : p0 = 5
            · refine lv_tableIn (off := 89) (tgt := 90) hx hb dX2_told_1 (by rw [c1_5]; decide) (by rw [c1_5]; decide) (by rw [c1_5]; decide) (by decide) ?_
              refine lv_aload_n hx hb dX2_told_90 rfl (lv_at hl 0 rfl) ?_
              refine va_get (D := (dC, dI)) (ci := 2) (v := .ref od) (C := RX2) (T := TX2) (N := 8) hx hb hts inGX2 hown hK hP 0 rfl rfl 6 (by decide) (hts _ wd104) (fun _ h9 => h9) rfl dX2_told_91 ?_
              refine va_getN (D := (dC, dI)) (ci := 1) (v := .int tr.1) (C := RX1) (T := TX1) (N := 7) hx hb hts inGX1 hown hK hP 6 rfl rfl 3 (by decide) (hZ.use zw2 rfl) (fun _ h9 => h9) rfl dX2_told_94 ?_
              exact W.iret (v := tr.1) hx hb hr (fun t ht hW => ⟨tr.1, rfl, (plX2_told_6 st lf ao sib wr tw cr tr bad p0 c1_0 c1_1 c1_2 c1_3 c1_4 c1_5), ht⟩) (fun q h => nomatch h) dX2_told_97
            · by_cases c1_6 : p0 = 6
              · refine lv_tableIn (off := 97) (tgt := 98) hx hb dX2_told_1 (by rw [c1_6]; decide) (by rw [c1_6]; decide) (by rw [c1_6]; decide) (by decide) ?_
                refine lv_aload_n hx hb dX2_told_98 rfl (lv_at hl 0 rfl) ?_
                refine va_get (D := (dC, dI)) (ci := 2) (v := .ref od) (C := RX2) (T := TX2) (N := 8) hx hb hts inGX2 hown hK hP 0 rfl rfl 6 (by decide) (hts _ wd104) (fun _ h9 => h9) rfl dX2_told_99 ?_
                refine va_getN (D := (dC, dI)) (ci := 1) (v := .int tr.2.1) (C := RX1) (T := TX1) (N := 7) hx hb hts inGX1 hown hK hP 6 rfl rfl 4 (by decide) (hZ.use zw3 rfl) (fun _ h9 => h9) rfl dX2_told_102 ?_
                exact W.iret (v := tr.2.1) hx hb hr (fun t ht hW => ⟨tr.2.1, rfl, (plX2_told_7 st lf ao sib wr tw cr tr bad p0 c1_0 c1_1 c1_2 c1_3 c1_4 c1_5 c1_6), ht⟩) (fun q h => nomatch h) dX2_told_105
              · by_cases c1_7 : p0 = 7
                · refine lv_tableIn (off := 105) (tgt := 106) hx hb dX2_told_1 (by rw [c1_7]; decide) (by rw [c1_7]; decide) (by rw [c1_7]; decide) (by decide) ?_
                  refine lv_aload_n hx hb dX2_told_106 rfl (lv_at hl 0 rfl) ?_
                  refine va_get (D := (dC, dI)) (ci := 2) (v := .int bad) (C := RX2) (T := TX2) (N := 8) hx hb hts inGX2 hown hK hP 0 rfl rfl 7 (by decide) (hts _ wd105) (fun _ h9 => h9) rfl dX2_told_107 ?_
                  refine lv_if_eq (tgt := 117) hx hb dX2_told_110 (by decide) (fun c_110 => ?_) (fun c_110 => ?_)
                  · refine lv_iconst (v := 0) hx hb dX2_told_117 (by decide) ?_
                    exact W.iret (v := 0) hx hb hr (fun t ht hW => ⟨0, rfl, (plX2_told_8 st lf ao sib wr tw cr tr bad p0 c1_0 c1_1 c1_2 c1_3 c1_4 c1_5 c1_6 c1_7 c_110), ht⟩) (fun q h => nomatch h) dX2_told_118
                  · refine lv_iconst (v := 1) hx hb dX2_told_113 (by decide) ?_
                    refine lv_goto (tgt := 118) hx hb dX2_told_114 (by decide) ?_
                    exact W.iret (v := 1) hx hb hr (fun t ht hW => ⟨1, rfl, (plX2_told_9 st lf ao sib wr tw cr tr bad p0 c1_0 c1_1 c1_2 c1_3 c1_4 c1_5 c1_6 c1_7 c_110), ht⟩) (fun q h => nomatch h) dX2_told_118
                · refine lv_tableOut (tgt := 119) hx hb dX2_told_1 (by have q0 := lv_neT c1_0 (a := 0) (by decide); have q1 := lv_neT c1_1 (a := 1) (by decide); have q2 := lv_neT c1_2 (a := 2) (by decide); have q3 := lv_neT c1_3 (a := 3) (by decide); have q4 := lv_neT c1_4 (a := 4) (by decide); have q5 := lv_neT c1_5 (a := 5) (by decide); have q6 := lv_neT c1_6 (a := 6) (by decide); have q7 := lv_neT c1_7 (a := 7) (by decide); omega) (by decide) ?_
                  refine lv_iconst (v := (-1)) hx hb dX2_told_119 (by decide) ?_
                  exact W.iret (v := (-1)) hx hb hr (fun t ht hW => ⟨(-1), rfl, (plX2_told_10 st lf ao sib wr tw cr tr bad p0 c1_0 c1_1 c1_2 c1_3 c1_4 c1_5 c1_6 c1_7), ht⟩) (fun q h => nomatch h) dX2_told_120
noncomputable def FX2_clear (st : Int32) (lf : Int32) (ao : Int32) (sib : Int32) (wr : Rw) (tw : Tk) (cr : Rw) (tr : Tk) (bad : Int32) : Rw × Tk × Rw × Tk × Int32 :=
  let u_2 := FX0_empty lf wr
  let u_4 := FX1_goToStart st sib lf tw u_2
  let u_6 := FX0_empty lf cr
  let u_8 := FX1_goToStart st sib lf tr u_6
  (u_2, u_4, u_6, u_8, 0)
set_option maxRecDepth 100000 in
theorem plX2_clear_0 (st : Int32) (lf : Int32) (ao : Int32) (sib : Int32) (wr : Rw) (tw : Tk) (cr : Rw) (tr : Tk) (bad : Int32) (u_2 : Rw) (hw_1 : u_2 = FX0_empty lf wr) (u_4 : Tk) (hw_3 : u_4 = FX1_goToStart st sib lf tw u_2) (u_6 : Rw) (hw_5 : u_6 = FX0_empty lf cr) (u_8 : Tk) (hw_7 : u_8 = FX1_goToStart st sib lf tr u_6) : (u_2, u_4, u_6, u_8, 0) = FX2_clear st lf ao sib wr tw cr tr bad := by
  subst hw_1
  subst hw_3
  subst hw_5
  subst hw_7
  exact rfl
set_option maxHeartbeats 4000000 in
set_option maxRecDepth 100000 in
theorem mX2_clear (l : Launch) (dC : Nat → ClassId) (dI : Nat → Nat → Nat) (cIw cIc : ClassId) (ox ow oaw og oc oac od : Nat) (sz : Nat) (st : Int32) (lf : Int32) (ao : Int32) (sib : Int32) (wr : Rw) (tw : Tk) (cr : Rw) (tr : Tk) (bad : Int32) : Met l yX2_clear (Cond.code yX2_clear cX2_clear 1 none :: G) ({ frames := 2, cells := 0, slots := 0, locals := 43 } : Room) (va_Pc [.ref ox] (fun U => U.heap.size = sz ∧ va_P (dC, dI) vwCl [(ox, .inr (2, [.int st, .int lf, .int ao, .ref ow, .ref og, .ref oc, .ref od, .int bad])), (ow, .inr (0, [.int lf, .ref oaw, .int wr.2])), (oaw, .inl (cIw, 600, .inl wr.1)), (og, .inr (1, [.ref ow, .int st, .int sib, .int tw.1, .int tw.2.1, .int tw.2.2.1, .int tw.2.2.2])), (oc, .inr (0, [.int lf, .ref oac, .int cr.2])), (oac, .inl (cIc, 600, .inl cr.1)), (od, .inr (1, [.ref oc, .int st, .int sib, .int tr.1, .int tr.2.1, .int tr.2.2.1, .int tr.2.2.2]))] U.heap ∧ va_K (dC, dI) vwCl [(cIw, .int), (cIc, .int)] U ∧ va_D (fun _ => True) [(ox, .inr (2, [.int st, .int lf, .int ao, .ref ow, .ref og, .ref oc, .ref od, .int bad])), (ow, .inr (0, [.int lf, .ref oaw, .int wr.2])), (oaw, .inl (cIw, 600, .inl wr.1)), (og, .inr (1, [.ref ow, .int st, .int sib, .int tw.1, .int tw.2.1, .int tw.2.2.1, .int tw.2.2.2])), (oc, .inr (0, [.int lf, .ref oac, .int cr.2])), (oac, .inl (cIc, 600, .inl cr.1)), (od, .inr (1, [.ref oc, .int st, .int sib, .int tr.1, .int tr.2.1, .int tr.2.2.1, .int tr.2.2.2]))] ∧ zOk U)) (va_Qv (fun (u : Rw × Tk × Rw × Tk × Int32) => u = (FX2_clear st lf ao sib wr tw cr tr bad)) (fun (u : Rw × Tk × Rw × Tk × Int32) t => va_P (dC, dI) vwCl [(ox, .inr (2, [.int st, .int lf, .int ao, .ref ow, .ref og, .ref oc, .ref od, .int u.2.2.2.2])), (ow, .inr (0, [.int lf, .ref oaw, .int u.1.2])), (oaw, .inl (cIw, 600, .inl u.1.1)), (og, .inr (1, [.ref ow, .int st, .int sib, .int u.2.1.1, .int u.2.1.2.1, .int u.2.1.2.2.1, .int u.2.1.2.2.2])), (oc, .inr (0, [.int lf, .ref oac, .int u.2.2.1.2])), (oac, .inl (cIc, 600, .inl u.2.2.1.1)), (od, .inr (1, [.ref oc, .int st, .int sib, .int u.2.2.2.1.1, .int u.2.2.2.1.2.1, .int u.2.2.2.1.2.2.1, .int u.2.2.2.1.2.2.2]))] t.heap ∧ va_D (va_A [(ox, .inr (2, [.int st, .int lf, .int ao, .ref ow, .ref og, .ref oc, .ref od, .int bad])), (ow, .inr (0, [.int lf, .ref oaw, .int wr.2])), (oaw, .inl (cIw, 600, .inl wr.1)), (og, .inr (1, [.ref ow, .int st, .int sib, .int tw.1, .int tw.2.1, .int tw.2.2.1, .int tw.2.2.2])), (oc, .inr (0, [.int lf, .ref oac, .int cr.2])), (oac, .inl (cIc, 600, .inl cr.1)), (od, .inr (1, [.ref oc, .int st, .int sib, .int tr.1, .int tr.2.1, .int tr.2.2.1, .int tr.2.2.2]))] sz) [(ox, .inr (2, [.int st, .int lf, .int ao, .ref ow, .ref og, .ref oc, .ref od, .int u.2.2.2.2])), (ow, .inr (0, [.int lf, .ref oaw, .int u.1.2])), (oaw, .inl (cIw, 600, .inl u.1.1)), (og, .inr (1, [.ref ow, .int st, .int sib, .int u.2.1.1, .int u.2.1.2.1, .int u.2.1.2.2.1, .int u.2.1.2.2.2])), (oc, .inr (0, [.int lf, .ref oac, .int u.2.2.1.2])), (oac, .inl (cIc, 600, .inl u.2.2.1.1)), (od, .inr (1, [.ref oc, .int st, .int sib, .int u.2.2.2.1.1, .int u.2.2.2.1.2.1, .int u.2.2.2.1.2.2.1, .int u.2.2.2.1.2.2.2]))]) (va_A [(ox, .inr (2, [.int st, .int lf, .int ao, .ref ow, .ref og, .ref oc, .ref od, .int bad])), (ow, .inr (0, [.int lf, .ref oaw, .int wr.2])), (oaw, .inl (cIw, 600, .inl wr.1)), (og, .inr (1, [.ref ow, .int st, .int sib, .int tw.1, .int tw.2.1, .int tw.2.2.1, .int tw.2.2.2])), (oc, .inr (0, [.int lf, .ref oac, .int cr.2])), (oac, .inl (cIc, 600, .inl cr.1)), (od, .inr (1, [.ref oc, .int st, .int sib, .int tr.1, .int tr.2.1, .int tr.2.2.1, .int tr.2.2.2]))] sz)) 0 0 (va_A [(ox, .inr (2, [.int st, .int lf, .int ao, .ref ow, .ref og, .ref oc, .ref od, .int bad])), (ow, .inr (0, [.int lf, .ref oaw, .int wr.2])), (oaw, .inl (cIw, 600, .inl wr.1)), (og, .inr (1, [.ref ow, .int st, .int sib, .int tw.1, .int tw.2.1, .int tw.2.2.1, .int tw.2.2.2])), (oc, .inr (0, [.int lf, .ref oac, .int cr.2])), (oac, .inl (cIc, 600, .inl cr.1)), (od, .inr (1, [.ref oc, .int st, .int sib, .int tr.1, .int tr.2.1, .int tr.2.2.1, .int tr.2.2.2]))] sz) := by
  refine Met.ofW (cc := cX2_clear) (maxL := 1) (ret := none) (by decide) rfl ?_
  intro p e s m args below meth c s₁ B hml hv
  obtain ⟨rfl, hsz, hP, hK, hD0, hZ⟩ := hv
  have hx := B.exec
  have hb := B.bytes
  have hr := B.returns
  have hts : ∀ w ∈ G, w.before [.ref ox].toArray s = true := fun w h => atoms_spec (ws := (Cond.code yX2_clear cX2_clear 1 none :: G)) B.pre w (List.mem_cons_of_mem _ h)
  have hown : s.vm.findClass RX2 = some m.cls := findClass_of_methodNamed B.named
  have hlocks := B.notSynchronized
  subst hsz
  have hD := hD0.self (sz := s.heap.size)
  generalize hAe : va_A [(ox, .inr (2, [.int st, .int lf, .int ao, .ref ow, .ref og, .ref oc, .ref od, .int bad])), (ow, .inr (0, [.int lf, .ref oaw, .int wr.2])), (oaw, .inl (cIw, 600, .inl wr.1)), (og, .inr (1, [.ref ow, .int st, .int sib, .int tw.1, .int tw.2.1, .int tw.2.2.1, .int tw.2.2.2])), (oc, .inr (0, [.int lf, .ref oac, .int cr.2])), (oac, .inl (cIc, 600, .inl cr.1)), (od, .inr (1, [.ref oc, .int st, .int sib, .int tr.1, .int tr.2.1, .int tr.2.2.1, .int tr.2.2.2]))] s.heap.size = A at hD ⊢
  have hA : ∀ q : Nat, s.heap.size ≤ q → A q := fun q h => by rw [← hAe]; exact Or.inr h
  have hS : va_S A s.heap s.heap [] := va_S.rf
  have hP : va_P (dC, dI) vwCl [(ox, .inr (2, [.int st, .int lf, .int ao, .ref ow, .ref og, .ref oc, .ref od, .int bad])), (ow, .inr (0, [.int lf, .ref oaw, .int wr.2])), (oaw, .inl (cIw, 600, .inl wr.1)), (og, .inr (1, [.ref ow, .int st, .int sib, .int tw.1, .int tw.2.1, .int tw.2.2.1, .int tw.2.2.2])), (oc, .inr (0, [.int lf, .ref oac, .int cr.2])), (oac, .inl (cIc, 600, .inl cr.1)), (od, .inr (1, [.ref oc, .int st, .int sib, .int tr.1, .int tr.2.1, .int tr.2.2.1, .int tr.2.2.2]))] s.heap := hP
  have hl := lv_entry ([.ref ox]) (n := 1) (Nat.le_of_ble_eq_true rfl)
  rw [lg_entry_eq]
  generalize (lg_sl ([.ref ox]) ++ List.replicate (1 - (lg_sl ([.ref ox])).length) Slot.unset).toArray = ls at hl ⊢
  have hl : lv_has ls 1 [(0, .ref ox)] := hl
  refine lv_aload_n hx hb dX2_clear_0 rfl (lv_at hl 0 rfl) ?_
  refine va_get (D := (dC, dI)) (ci := 2) (v := .ref ow) (C := RX2) (T := TX2) (N := 8) hx hb hts inGX2 hown hK hP 0 rfl rfl 3 (by decide) (hts _ wd101) (fun _ h9 => h9) rfl dX2_clear_1 ?_
  have hPc := hP.sub (ws' := [(ow, .inr (0, [.int lf, .ref oaw, .int wr.2])), (oaw, .inl (cIw, 600, .inl wr.1))]) [1, 2] rfl
  have hKc := hK.sub (tys' := [(cIw, .int)]) [0] rfl
  have hDc := hD.sub (ws' := [(ow, .inr (0, [.int lf, .ref oaw, .int wr.2])), (oaw, .inl (cIw, 600, .inl wr.1))]) [1, 2] (by decide) rfl
  have hFc := va_free (wc := [(ow, .inr (0, [.int lf, .ref oaw, .int wr.2])), (oaw, .inl (cIw, 600, .inl wr.1))]) hD hS hA [1, 2] rfl
  refine va_callv (va_runV (As := []) (rest := []) ⟨hx, hb, hml, hown, hts⟩ (mX0_empty l dC dI cIw ow oaw s.heap.size lf wr) (cwV 0 hts (gV wd184 wd185 wd186 wd28 wd187) rfl rfl rfl (by decide +kernel) ⟨Nat.le_of_ble_eq_true rfl, Nat.le_of_ble_eq_true rfl⟩) ⟨fb_rw, va_recv hKc hPc (ci := 0) (q0 := 0) rfl rfl, pre_rw hPc hKc hDc hZ⟩ rfl rfl hl.1 rfl (lv_room (Nat.le_of_ble_eq_true rfl)) dX2_clear_4 ⟨Nat.le_of_ble_eq_true rfl, Nat.le_of_ble_eq_true rfl⟩) hS (fun q _ h => hFc q h) hFc (fun u_2 t H1 locs ht hvm hw_1 hB hz1 hk1 hS => ?_)
  obtain ⟨hP1, hD1⟩ := hB
  rw [ht] at hP1
  obtain ⟨hP, hD⟩ := va_join (wr := [(ox, .inr (2, [.int st, .int lf, .int ao, .ref ow, .ref og, .ref oc, .ref od, .int bad])), (og, .inr (1, [.ref ow, .int st, .int sib, .int tw.1, .int tw.2.1, .int tw.2.2.1, .int tw.2.2.2])), (oc, .inr (0, [.int lf, .ref oac, .int cr.2])), (oac, .inl (cIc, 600, .inl cr.1)), (od, .inr (1, [.ref oc, .int st, .int sib, .int tr.1, .int tr.2.1, .int tr.2.2.1, .int tr.2.2.2]))]) (w1 := [(ow, .inr (0, [.int lf, .ref oaw, .int u_2.2])), (oaw, .inl (cIw, 600, .inl u_2.1))]) hP hD [1, 2] [0, 3, 4, 5, 6] rfl rfl (by decide) (by decide) hk1 hFc hP1 hD1
  generalize H1 = H at hP hS ⊢
  have hP : va_P (dC, dI) vwCl [(ox, .inr (2, [.int st, .int lf, .int ao, .ref ow, .ref og, .ref oc, .ref od, .int bad])), (og, .inr (1, [.ref ow, .int st, .int sib, .int tw.1, .int tw.2.1, .int tw.2.2.1, .int tw.2.2.2])), (oc, .inr (0, [.int lf, .ref oac, .int cr.2])), (oac, .inl (cIc, 600, .inl cr.1)), (od, .inr (1, [.ref oc, .int st, .int sib, .int tr.1, .int tr.2.1, .int tr.2.2.1, .int tr.2.2.2])), (ow, .inr (0, [.int lf, .ref oaw, .int u_2.2])), (oaw, .inl (cIw, 600, .inl u_2.1))] H := hP
  have hD : va_D A [(ox, .inr (2, [.int st, .int lf, .int ao, .ref ow, .ref og, .ref oc, .ref od, .int bad])), (og, .inr (1, [.ref ow, .int st, .int sib, .int tw.1, .int tw.2.1, .int tw.2.2.1, .int tw.2.2.2])), (oc, .inr (0, [.int lf, .ref oac, .int cr.2])), (oac, .inl (cIc, 600, .inl cr.1)), (od, .inr (1, [.ref oc, .int st, .int sib, .int tr.1, .int tr.2.1, .int tr.2.2.1, .int tr.2.2.2])), (ow, .inr (0, [.int lf, .ref oaw, .int u_2.2])), (oaw, .inl (cIw, 600, .inl u_2.1))] := hD
  refine lv_aload_n hx hb dX2_clear_7 rfl (lv_at hl 0 rfl) ?_
  refine va_get (D := (dC, dI)) (ci := 2) (v := .ref og) (C := RX2) (T := TX2) (N := 8) hx hb hts inGX2 hown hK hP 0 rfl rfl 4 (by decide) (hts _ wd102) (fun _ h9 => h9) rfl dX2_clear_8 ?_
  have hPc := hP.sub (ws' := [(og, .inr (1, [.ref ow, .int st, .int sib, .int tw.1, .int tw.2.1, .int tw.2.2.1, .int tw.2.2.2])), (ow, .inr (0, [.int lf, .ref oaw, .int u_2.2])), (oaw, .inl (cIw, 600, .inl u_2.1))]) [1, 5, 6] rfl
  have hKc := hK.sub (tys' := [(cIw, .int)]) [0] rfl
  have hDc := hD.sub (ws' := [(og, .inr (1, [.ref ow, .int st, .int sib, .int tw.1, .int tw.2.1, .int tw.2.2.1, .int tw.2.2.2])), (ow, .inr (0, [.int lf, .ref oaw, .int u_2.2])), (oaw, .inl (cIw, 600, .inl u_2.1))]) [1, 5, 6] (by decide) rfl
  have hFc := va_free (wc := [(og, .inr (1, [.ref ow, .int st, .int sib, .int tw.1, .int tw.2.1, .int tw.2.2.1, .int tw.2.2.2])), (ow, .inr (0, [.int lf, .ref oaw, .int u_2.2])), (oaw, .inl (cIw, 600, .inl u_2.1))]) hD hS hA [1, 5, 6] rfl
  refine va_callv (va_runV (As := []) (rest := []) ⟨hx, hb, hml, hown, hts⟩ (mX1_goToStart l dC dI cIw og ow oaw H.size st sib lf tw u_2) (cwV 0 hts (gV wd191 wd192 wd193 wd29 wd194) rfl rfl rfl (by decide +kernel) ⟨Nat.le_of_ble_eq_true rfl, Nat.le_of_ble_eq_true rfl⟩) ⟨fb_rw, va_recv hKc hPc (ci := 1) (q0 := 0) rfl rfl, pre_rw hPc hKc hDc hZ⟩ rfl rfl hl.1 rfl (lv_room (Nat.le_of_ble_eq_true rfl)) dX2_clear_11 ⟨Nat.le_of_ble_eq_true rfl, Nat.le_of_ble_eq_true rfl⟩) hS (fun q _ h => hFc q h) hFc (fun u_4 t H1 locs ht hvm hw_3 hB hz1 hk1 hS => ?_)
  obtain ⟨hP1, hD1⟩ := hB
  rw [ht] at hP1
  obtain ⟨hP, hD⟩ := va_join (wr := [(ox, .inr (2, [.int st, .int lf, .int ao, .ref ow, .ref og, .ref oc, .ref od, .int bad])), (oc, .inr (0, [.int lf, .ref oac, .int cr.2])), (oac, .inl (cIc, 600, .inl cr.1)), (od, .inr (1, [.ref oc, .int st, .int sib, .int tr.1, .int tr.2.1, .int tr.2.2.1, .int tr.2.2.2]))]) (w1 := [(og, .inr (1, [.ref ow, .int st, .int sib, .int u_4.1, .int u_4.2.1, .int u_4.2.2.1, .int u_4.2.2.2])), (ow, .inr (0, [.int lf, .ref oaw, .int u_2.2])), (oaw, .inl (cIw, 600, .inl u_2.1))]) hP hD [1, 5, 6] [0, 2, 3, 4] rfl rfl (by decide) (by decide) hk1 hFc hP1 hD1
  generalize H1 = H at hP hS ⊢
  have hP : va_P (dC, dI) vwCl [(ox, .inr (2, [.int st, .int lf, .int ao, .ref ow, .ref og, .ref oc, .ref od, .int bad])), (oc, .inr (0, [.int lf, .ref oac, .int cr.2])), (oac, .inl (cIc, 600, .inl cr.1)), (od, .inr (1, [.ref oc, .int st, .int sib, .int tr.1, .int tr.2.1, .int tr.2.2.1, .int tr.2.2.2])), (og, .inr (1, [.ref ow, .int st, .int sib, .int u_4.1, .int u_4.2.1, .int u_4.2.2.1, .int u_4.2.2.2])), (ow, .inr (0, [.int lf, .ref oaw, .int u_2.2])), (oaw, .inl (cIw, 600, .inl u_2.1))] H := hP
  have hD : va_D A [(ox, .inr (2, [.int st, .int lf, .int ao, .ref ow, .ref og, .ref oc, .ref od, .int bad])), (oc, .inr (0, [.int lf, .ref oac, .int cr.2])), (oac, .inl (cIc, 600, .inl cr.1)), (od, .inr (1, [.ref oc, .int st, .int sib, .int tr.1, .int tr.2.1, .int tr.2.2.1, .int tr.2.2.2])), (og, .inr (1, [.ref ow, .int st, .int sib, .int u_4.1, .int u_4.2.1, .int u_4.2.2.1, .int u_4.2.2.2])), (ow, .inr (0, [.int lf, .ref oaw, .int u_2.2])), (oaw, .inl (cIw, 600, .inl u_2.1))] := hD
  refine lv_aload_n hx hb dX2_clear_14 rfl (lv_at hl 0 rfl) ?_
  refine va_get (D := (dC, dI)) (ci := 2) (v := .ref oc) (C := RX2) (T := TX2) (N := 8) hx hb hts inGX2 hown hK hP 0 rfl rfl 5 (by decide) (hts _ wd103) (fun _ h9 => h9) rfl dX2_clear_15 ?_
  have hPc := hP.sub (ws' := [(oc, .inr (0, [.int lf, .ref oac, .int cr.2])), (oac, .inl (cIc, 600, .inl cr.1))]) [1, 2] rfl
  have hKc := hK.sub (tys' := [(cIc, .int)]) [1] rfl
  have hDc := hD.sub (ws' := [(oc, .inr (0, [.int lf, .ref oac, .int cr.2])), (oac, .inl (cIc, 600, .inl cr.1))]) [1, 2] (by decide) rfl
  have hFc := va_free (wc := [(oc, .inr (0, [.int lf, .ref oac, .int cr.2])), (oac, .inl (cIc, 600, .inl cr.1))]) hD hS hA [1, 2] rfl
  refine va_callv (va_runV (As := []) (rest := []) ⟨hx, hb, hml, hown, hts⟩ (mX0_empty l dC dI cIc oc oac H.size lf cr) (cwV 0 hts (gV wd184 wd185 wd186 wd28 wd187) rfl rfl rfl (by decide +kernel) ⟨Nat.le_of_ble_eq_true rfl, Nat.le_of_ble_eq_true rfl⟩) ⟨fb_rw, va_recv hKc hPc (ci := 0) (q0 := 0) rfl rfl, pre_rw hPc hKc hDc hZ⟩ rfl rfl hl.1 rfl (lv_room (Nat.le_of_ble_eq_true rfl)) dX2_clear_18 ⟨Nat.le_of_ble_eq_true rfl, Nat.le_of_ble_eq_true rfl⟩) hS (fun q _ h => hFc q h) hFc (fun u_6 t H1 locs ht hvm hw_5 hB hz1 hk1 hS => ?_)
  obtain ⟨hP1, hD1⟩ := hB
  rw [ht] at hP1
  obtain ⟨hP, hD⟩ := va_join (wr := [(ox, .inr (2, [.int st, .int lf, .int ao, .ref ow, .ref og, .ref oc, .ref od, .int bad])), (od, .inr (1, [.ref oc, .int st, .int sib, .int tr.1, .int tr.2.1, .int tr.2.2.1, .int tr.2.2.2])), (og, .inr (1, [.ref ow, .int st, .int sib, .int u_4.1, .int u_4.2.1, .int u_4.2.2.1, .int u_4.2.2.2])), (ow, .inr (0, [.int lf, .ref oaw, .int u_2.2])), (oaw, .inl (cIw, 600, .inl u_2.1))]) (w1 := [(oc, .inr (0, [.int lf, .ref oac, .int u_6.2])), (oac, .inl (cIc, 600, .inl u_6.1))]) hP hD [1, 2] [0, 3, 4, 5, 6] rfl rfl (by decide) (by decide) hk1 hFc hP1 hD1
  generalize H1 = H at hP hS ⊢
  have hP : va_P (dC, dI) vwCl [(ox, .inr (2, [.int st, .int lf, .int ao, .ref ow, .ref og, .ref oc, .ref od, .int bad])), (od, .inr (1, [.ref oc, .int st, .int sib, .int tr.1, .int tr.2.1, .int tr.2.2.1, .int tr.2.2.2])), (og, .inr (1, [.ref ow, .int st, .int sib, .int u_4.1, .int u_4.2.1, .int u_4.2.2.1, .int u_4.2.2.2])), (ow, .inr (0, [.int lf, .ref oaw, .int u_2.2])), (oaw, .inl (cIw, 600, .inl u_2.1)), (oc, .inr (0, [.int lf, .ref oac, .int u_6.2])), (oac, .inl (cIc, 600, .inl u_6.1))] H := hP
  have hD : va_D A [(ox, .inr (2, [.int st, .int lf, .int ao, .ref ow, .ref og, .ref oc, .ref od, .int bad])), (od, .inr (1, [.ref oc, .int st, .int sib, .int tr.1, .int tr.2.1, .int tr.2.2.1, .int tr.2.2.2])), (og, .inr (1, [.ref ow, .int st, .int sib, .int u_4.1, .int u_4.2.1, .int u_4.2.2.1, .int u_4.2.2.2])), (ow, .inr (0, [.int lf, .ref oaw, .int u_2.2])), (oaw, .inl (cIw, 600, .inl u_2.1)), (oc, .inr (0, [.int lf, .ref oac, .int u_6.2])), (oac, .inl (cIc, 600, .inl u_6.1))] := hD
  refine lv_aload_n hx hb dX2_clear_21 rfl (lv_at hl 0 rfl) ?_
  refine va_get (D := (dC, dI)) (ci := 2) (v := .ref od) (C := RX2) (T := TX2) (N := 8) hx hb hts inGX2 hown hK hP 0 rfl rfl 6 (by decide) (hts _ wd104) (fun _ h9 => h9) rfl dX2_clear_22 ?_
  have hPc := hP.sub (ws' := [(od, .inr (1, [.ref oc, .int st, .int sib, .int tr.1, .int tr.2.1, .int tr.2.2.1, .int tr.2.2.2])), (oc, .inr (0, [.int lf, .ref oac, .int u_6.2])), (oac, .inl (cIc, 600, .inl u_6.1))]) [1, 5, 6] rfl
  have hKc := hK.sub (tys' := [(cIc, .int)]) [1] rfl
  have hDc := hD.sub (ws' := [(od, .inr (1, [.ref oc, .int st, .int sib, .int tr.1, .int tr.2.1, .int tr.2.2.1, .int tr.2.2.2])), (oc, .inr (0, [.int lf, .ref oac, .int u_6.2])), (oac, .inl (cIc, 600, .inl u_6.1))]) [1, 5, 6] (by decide) rfl
  have hFc := va_free (wc := [(od, .inr (1, [.ref oc, .int st, .int sib, .int tr.1, .int tr.2.1, .int tr.2.2.1, .int tr.2.2.2])), (oc, .inr (0, [.int lf, .ref oac, .int u_6.2])), (oac, .inl (cIc, 600, .inl u_6.1))]) hD hS hA [1, 5, 6] rfl
  refine va_callv (va_runV (As := []) (rest := []) ⟨hx, hb, hml, hown, hts⟩ (mX1_goToStart l dC dI cIc od oc oac H.size st sib lf tr u_6) (cwV 0 hts (gV wd191 wd192 wd193 wd29 wd194) rfl rfl rfl (by decide +kernel) ⟨Nat.le_of_ble_eq_true rfl, Nat.le_of_ble_eq_true rfl⟩) ⟨fb_rw, va_recv hKc hPc (ci := 1) (q0 := 0) rfl rfl, pre_rw hPc hKc hDc hZ⟩ rfl rfl hl.1 rfl (lv_room (Nat.le_of_ble_eq_true rfl)) dX2_clear_25 ⟨Nat.le_of_ble_eq_true rfl, Nat.le_of_ble_eq_true rfl⟩) hS (fun q _ h => hFc q h) hFc (fun u_8 t H1 locs ht hvm hw_7 hB hz1 hk1 hS => ?_)
  obtain ⟨hP1, hD1⟩ := hB
  rw [ht] at hP1
  obtain ⟨hP, hD⟩ := va_join (wr := [(ox, .inr (2, [.int st, .int lf, .int ao, .ref ow, .ref og, .ref oc, .ref od, .int bad])), (og, .inr (1, [.ref ow, .int st, .int sib, .int u_4.1, .int u_4.2.1, .int u_4.2.2.1, .int u_4.2.2.2])), (ow, .inr (0, [.int lf, .ref oaw, .int u_2.2])), (oaw, .inl (cIw, 600, .inl u_2.1))]) (w1 := [(od, .inr (1, [.ref oc, .int st, .int sib, .int u_8.1, .int u_8.2.1, .int u_8.2.2.1, .int u_8.2.2.2])), (oc, .inr (0, [.int lf, .ref oac, .int u_6.2])), (oac, .inl (cIc, 600, .inl u_6.1))]) hP hD [1, 5, 6] [0, 2, 3, 4] rfl rfl (by decide) (by decide) hk1 hFc hP1 hD1
  generalize H1 = H at hP hS ⊢
  have hP : va_P (dC, dI) vwCl [(ox, .inr (2, [.int st, .int lf, .int ao, .ref ow, .ref og, .ref oc, .ref od, .int bad])), (og, .inr (1, [.ref ow, .int st, .int sib, .int u_4.1, .int u_4.2.1, .int u_4.2.2.1, .int u_4.2.2.2])), (ow, .inr (0, [.int lf, .ref oaw, .int u_2.2])), (oaw, .inl (cIw, 600, .inl u_2.1)), (od, .inr (1, [.ref oc, .int st, .int sib, .int u_8.1, .int u_8.2.1, .int u_8.2.2.1, .int u_8.2.2.2])), (oc, .inr (0, [.int lf, .ref oac, .int u_6.2])), (oac, .inl (cIc, 600, .inl u_6.1))] H := hP
  have hD : va_D A [(ox, .inr (2, [.int st, .int lf, .int ao, .ref ow, .ref og, .ref oc, .ref od, .int bad])), (og, .inr (1, [.ref ow, .int st, .int sib, .int u_4.1, .int u_4.2.1, .int u_4.2.2.1, .int u_4.2.2.2])), (ow, .inr (0, [.int lf, .ref oaw, .int u_2.2])), (oaw, .inl (cIw, 600, .inl u_2.1)), (od, .inr (1, [.ref oc, .int st, .int sib, .int u_8.1, .int u_8.2.1, .int u_8.2.2.1, .int u_8.2.2.2])), (oc, .inr (0, [.int lf, .ref oac, .int u_6.2])), (oac, .inl (cIc, 600, .inl u_6.1))] := hD
  refine lv_aload_n hx hb dX2_clear_28 rfl (lv_at hl 0 rfl) ?_
  refine lv_iconst (v := 0) hx hb dX2_clear_29 (by decide) ?_
  refine va_put (D := (dC, dI)) (ci := 2) (v := .int 0) (ty := .boolean) (C := RX2) (T := TX2) (N := 8) hx hb hts inGX2 tyX2 tyX2_ok nmX2 hown hK hP hD hS 0 rfl rfl 7 (by decide) (hts _ wd105) (fun _ h9 => h9) rfl (by decide +kernel) rfl rfl (Nat.le_of_ble_eq_true rfl) dX2_clear_30 (fun H locs hP hD hS => ?_)
  have hP : va_P (dC, dI) vwCl [(ox, .inr (2, [.int st, .int lf, .int ao, .ref ow, .ref og, .ref oc, .ref od, .int 0])), (og, .inr (1, [.ref ow, .int st, .int sib, .int u_4.1, .int u_4.2.1, .int u_4.2.2.1, .int u_4.2.2.2])), (ow, .inr (0, [.int lf, .ref oaw, .int u_2.2])), (oaw, .inl (cIw, 600, .inl u_2.1)), (od, .inr (1, [.ref oc, .int st, .int sib, .int u_8.1, .int u_8.2.1, .int u_8.2.2.1, .int u_8.2.2.2])), (oc, .inr (0, [.int lf, .ref oac, .int u_6.2])), (oac, .inl (cIc, 600, .inl u_6.1))] H := hP
  have hD : va_D A [(ox, .inr (2, [.int st, .int lf, .int ao, .ref ow, .ref og, .ref oc, .ref od, .int 0])), (og, .inr (1, [.ref ow, .int st, .int sib, .int u_4.1, .int u_4.2.1, .int u_4.2.2.1, .int u_4.2.2.2])), (ow, .inr (0, [.int lf, .ref oaw, .int u_2.2])), (oaw, .inl (cIw, 600, .inl u_2.1)), (od, .inr (1, [.ref oc, .int st, .int sib, .int u_8.1, .int u_8.2.1, .int u_8.2.2.1, .int u_8.2.2.2])), (oc, .inr (0, [.int lf, .ref oac, .int u_6.2])), (oac, .inl (cIc, 600, .inl u_6.1))] := hD
  have hP9 := hP.sub (ws' := [(ox, .inr (2, [.int st, .int lf, .int ao, .ref ow, .ref og, .ref oc, .ref od, .int 0])), (ow, .inr (0, [.int lf, .ref oaw, .int u_2.2])), (oaw, .inl (cIw, 600, .inl u_2.1)), (og, .inr (1, [.ref ow, .int st, .int sib, .int u_4.1, .int u_4.2.1, .int u_4.2.2.1, .int u_4.2.2.2])), (oc, .inr (0, [.int lf, .ref oac, .int u_6.2])), (oac, .inl (cIc, 600, .inl u_6.1)), (od, .inr (1, [.ref oc, .int st, .int sib, .int u_8.1, .int u_8.2.1, .int u_8.2.2.1, .int u_8.2.2.2]))]) [0, 2, 3, 1, 5, 6, 4] rfl
  have hD9 := hD.sub (ws' := [(ox, .inr (2, [.int st, .int lf, .int ao, .ref ow, .ref og, .ref oc, .ref od, .int 0])), (ow, .inr (0, [.int lf, .ref oaw, .int u_2.2])), (oaw, .inl (cIw, 600, .inl u_2.1)), (og, .inr (1, [.ref ow, .int st, .int sib, .int u_4.1, .int u_4.2.1, .int u_4.2.2.1, .int u_4.2.2.2])), (oc, .inr (0, [.int lf, .ref oac, .int u_6.2])), (oac, .inl (cIc, 600, .inl u_6.1)), (od, .inr (1, [.ref oc, .int st, .int sib, .int u_8.1, .int u_8.2.1, .int u_8.2.2.1, .int u_8.2.2.2]))]) [0, 2, 3, 1, 5, 6, 4] (by decide) rfl
  exact W.vret hx hb hr (fun t ht hW => ⟨⟨(u_2, u_4, u_6, u_8, 0), rfl, (plX2_clear_0 st lf ao sib wr tw cr tr bad _ hw_1 _ hw_3 _ hw_5 _ hw_7), by rw [ht]; exact hP9, hD9⟩, hS.F ht⟩) hS.2.2 dX2_clear_33
end
