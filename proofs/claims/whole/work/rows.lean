section
-- ===== PART A: goes FIRST, ahead of the names: the tables' words, and 'selects' of the private methods out of them =====
/-- a private method of a class that the tables say can be made, by its rows of tables_1 -/
def lw_okq (q : MethodName × Nat) : Prop := (q.1.cls ≠ "java/lang/invoke/MethodHandle" ∧ q.1.cls ≠ "java/lang/invoke/VarHandle") ∧ Cond.instantiable q.1.cls q.2 ∈ tables_1 ∧ Cond.privateMethod q.1 ∈ tables_1 ∧ Cond.instanceMethod q.1 ∈ tables_1
theorem lw_p0 : lw_okq (⟨"java/lang/Throwable", "fillInStackTrace", "(I)Ljava/lang/Throwable;"⟩, 6) := ⟨⟨by decide +kernel, by decide +kernel⟩, List.mem_of_getElem? (i := 255) (by decide +kernel), List.mem_of_getElem? (i := 253) (by decide +kernel), List.mem_of_getElem? (i := 254) (by decide +kernel)⟩
theorem lw_p1 : lw_okq (⟨"PortTimers", "readPortB", "()I"⟩, 8) := ⟨⟨by decide +kernel, by decide +kernel⟩, List.mem_of_getElem? (i := 13) (by decide +kernel), List.mem_of_getElem? (i := 337) (by decide +kernel), List.mem_of_getElem? (i := 338) (by decide +kernel)⟩
theorem lw_p2 : lw_okq (⟨"PortTimers", "controlHas", "(I)Z"⟩, 8) := ⟨⟨by decide +kernel, by decide +kernel⟩, List.mem_of_getElem? (i := 13) (by decide +kernel), List.mem_of_getElem? (i := 341) (by decide +kernel), List.mem_of_getElem? (i := 342) (by decide +kernel)⟩
theorem lw_p3 : lw_okq (⟨"PortTimers", "withTimersBit", "(I)I"⟩, 8) := ⟨⟨by decide +kernel, by decide +kernel⟩, List.mem_of_getElem? (i := 13) (by decide +kernel), List.mem_of_getElem? (i := 353) (by decide +kernel), List.mem_of_getElem? (i := 354) (by decide +kernel)⟩
theorem lw_p4 : lw_okq (⟨"PortTimers", "readPortA", "()I"⟩, 8) := ⟨⟨by decide +kernel, by decide +kernel⟩, List.mem_of_getElem? (i := 13) (by decide +kernel), List.mem_of_getElem? (i := 357) (by decide +kernel), List.mem_of_getElem? (i := 358) (by decide +kernel)⟩
theorem lw_p5 : lw_okq (⟨"PortTimers", "portA", "()I"⟩, 8) := ⟨⟨by decide +kernel, by decide +kernel⟩, List.mem_of_getElem? (i := 13) (by decide +kernel), List.mem_of_getElem? (i := 361) (by decide +kernel), List.mem_of_getElem? (i := 362) (by decide +kernel)⟩
theorem lw_p6 : lw_okq (⟨"PortTimers", "goOn", "(I)V"⟩, 8) := ⟨⟨by decide +kernel, by decide +kernel⟩, List.mem_of_getElem? (i := 13) (by decide +kernel), List.mem_of_getElem? (i := 422) (by decide +kernel), List.mem_of_getElem? (i := 423) (by decide +kernel)⟩
theorem lw_p7 : lw_okq (⟨"PortTimers$Timer1", "runFreely", "(I)V"⟩, 6) := ⟨⟨by decide +kernel, by decide +kernel⟩, List.mem_of_getElem? (i := 83) (by decide +kernel), List.mem_of_getElem? (i := 430) (by decide +kernel), List.mem_of_getElem? (i := 431) (by decide +kernel)⟩
theorem lw_p8 : lw_okq (⟨"PortTimers$Timer1", "runOut", "(I)V"⟩, 6) := ⟨⟨by decide +kernel, by decide +kernel⟩, List.mem_of_getElem? (i := 83) (by decide +kernel), List.mem_of_getElem? (i := 434) (by decide +kernel), List.mem_of_getElem? (i := 435) (by decide +kernel)⟩
theorem lw_p9 : lw_okq (⟨"PortTimers$Timer1", "runOnce", "(I)V"⟩, 6) := ⟨⟨by decide +kernel, by decide +kernel⟩, List.mem_of_getElem? (i := 83) (by decide +kernel), List.mem_of_getElem? (i := 440) (by decide +kernel), List.mem_of_getElem? (i := 441) (by decide +kernel)⟩
theorem lw_p10 : lw_okq (⟨"PortTimers", "mode", "()I"⟩, 8) := ⟨⟨by decide +kernel, by decide +kernel⟩, List.mem_of_getElem? (i := 13) (by decide +kernel), List.mem_of_getElem? (i := 444) (by decide +kernel), List.mem_of_getElem? (i := 445) (by decide +kernel)⟩
theorem lw_p11 : lw_okq (⟨"PortTimers$Shifter", "shift", "(IZ)V"⟩, 5) := ⟨⟨by decide +kernel, by decide +kernel⟩, List.mem_of_getElem? (i := 134) (by decide +kernel), List.mem_of_getElem? (i := 452) (by decide +kernel), List.mem_of_getElem? (i := 453) (by decide +kernel)⟩
theorem lw_p12 : lw_okq (⟨"PortTimers", "lineCB2Gives", "()I"⟩, 8) := ⟨⟨by decide +kernel, by decide +kernel⟩, List.mem_of_getElem? (i := 13) (by decide +kernel), List.mem_of_getElem? (i := 472) (by decide +kernel), List.mem_of_getElem? (i := 473) (by decide +kernel)⟩
theorem lw_p13 : lw_okq (⟨"PortTimersModel", "clear", "()V"⟩, 31) := ⟨⟨by decide +kernel, by decide +kernel⟩, List.mem_of_getElem? (i := 487) (by decide +kernel), List.mem_of_getElem? (i := 493) (by decide +kernel), List.mem_of_getElem? (i := 494) (by decide +kernel)⟩
theorem lw_p14 : lw_okq (⟨"PortTimersModel", "touchB", "(Z)V"⟩, 31) := ⟨⟨by decide +kernel, by decide +kernel⟩, List.mem_of_getElem? (i := 487) (by decide +kernel), List.mem_of_getElem? (i := 607) (by decide +kernel), List.mem_of_getElem? (i := 608) (by decide +kernel)⟩
theorem lw_p15 : lw_okq (⟨"PortTimersModel", "drop", "(I)V"⟩, 31) := ⟨⟨by decide +kernel, by decide +kernel⟩, List.mem_of_getElem? (i := 487) (by decide +kernel), List.mem_of_getElem? (i := 611) (by decide +kernel), List.mem_of_getElem? (i := 612) (by decide +kernel)⟩
def lw_privs_1 : List (MethodName × Nat) := [(⟨"java/lang/Throwable", "fillInStackTrace", "(I)Ljava/lang/Throwable;"⟩, 6), (⟨"PortTimers", "readPortB", "()I"⟩, 8), (⟨"PortTimers", "controlHas", "(I)Z"⟩, 8), (⟨"PortTimers", "withTimersBit", "(I)I"⟩, 8), (⟨"PortTimers", "readPortA", "()I"⟩, 8), (⟨"PortTimers", "portA", "()I"⟩, 8), (⟨"PortTimers", "goOn", "(I)V"⟩, 8), (⟨"PortTimers$Timer1", "runFreely", "(I)V"⟩, 6), (⟨"PortTimers$Timer1", "runOut", "(I)V"⟩, 6), (⟨"PortTimers$Timer1", "runOnce", "(I)V"⟩, 6), (⟨"PortTimers", "mode", "()I"⟩, 8), (⟨"PortTimers$Shifter", "shift", "(IZ)V"⟩, 5), (⟨"PortTimers", "lineCB2Gives", "()I"⟩, 8), (⟨"PortTimersModel", "clear", "()V"⟩, 31), (⟨"PortTimersModel", "touchB", "(Z)V"⟩, 31), (⟨"PortTimersModel", "drop", "(I)V"⟩, 31)]
theorem lw_r1 : ∀ q ∈ lw_privs_1, lw_okq q := List.forall_mem_cons.mpr ⟨lw_p0, List.forall_mem_cons.mpr ⟨lw_p1, List.forall_mem_cons.mpr ⟨lw_p2, List.forall_mem_cons.mpr ⟨lw_p3, List.forall_mem_cons.mpr ⟨lw_p4, List.forall_mem_cons.mpr ⟨lw_p5, List.forall_mem_cons.mpr ⟨lw_p6, List.forall_mem_cons.mpr ⟨lw_p7, List.forall_mem_cons.mpr ⟨lw_p8, List.forall_mem_cons.mpr ⟨lw_p9, List.forall_mem_cons.mpr ⟨lw_p10, List.forall_mem_cons.mpr ⟨lw_p11, List.forall_mem_cons.mpr ⟨lw_p12, List.forall_mem_cons.mpr ⟨lw_p13, List.forall_mem_cons.mpr ⟨lw_p14, List.forall_mem_cons.mpr ⟨lw_p15, fun _ h => absurd h List.not_mem_nil⟩⟩⟩⟩⟩⟩⟩⟩⟩⟩⟩⟩⟩⟩⟩⟩
theorem lw_p16 : lw_okq (⟨"PortTimersModel", "wayB", "()I"⟩, 31) := ⟨⟨by decide +kernel, by decide +kernel⟩, List.mem_of_getElem? (i := 487) (by decide +kernel), List.mem_of_getElem? (i := 615) (by decide +kernel), List.mem_of_getElem? (i := 616) (by decide +kernel)⟩
theorem lw_p17 : lw_okq (⟨"PortTimersModel", "touchA", "()V"⟩, 31) := ⟨⟨by decide +kernel, by decide +kernel⟩, List.mem_of_getElem? (i := 487) (by decide +kernel), List.mem_of_getElem? (i := 619) (by decide +kernel), List.mem_of_getElem? (i := 620) (by decide +kernel)⟩
theorem lw_p18 : lw_okq (⟨"PortTimersModel", "wayA", "()I"⟩, 31) := ⟨⟨by decide +kernel, by decide +kernel⟩, List.mem_of_getElem? (i := 487) (by decide +kernel), List.mem_of_getElem? (i := 623) (by decide +kernel), List.mem_of_getElem? (i := 624) (by decide +kernel)⟩
theorem lw_p19 : lw_okq (⟨"PortTimersModel", "eight", "()V"⟩, 31) := ⟨⟨by decide +kernel, by decide +kernel⟩, List.mem_of_getElem? (i := 487) (by decide +kernel), List.mem_of_getElem? (i := 628) (by decide +kernel), List.mem_of_getElem? (i := 629) (by decide +kernel)⟩
theorem lw_p20 : lw_okq (⟨"PortTimersModel", "portB", "()I"⟩, 31) := ⟨⟨by decide +kernel, by decide +kernel⟩, List.mem_of_getElem? (i := 487) (by decide +kernel), List.mem_of_getElem? (i := 636) (by decide +kernel), List.mem_of_getElem? (i := 637) (by decide +kernel)⟩
theorem lw_p21 : lw_okq (⟨"PortTimersModel", "has", "(I)Z"⟩, 31) := ⟨⟨by decide +kernel, by decide +kernel⟩, List.mem_of_getElem? (i := 487) (by decide +kernel), List.mem_of_getElem? (i := 640) (by decide +kernel), List.mem_of_getElem? (i := 641) (by decide +kernel)⟩
theorem lw_p22 : lw_okq (⟨"PortTimersModel", "portA", "()I"⟩, 31) := ⟨⟨by decide +kernel, by decide +kernel⟩, List.mem_of_getElem? (i := 487) (by decide +kernel), List.mem_of_getElem? (i := 644) (by decide +kernel), List.mem_of_getElem? (i := 645) (by decide +kernel)⟩
theorem lw_p23 : lw_okq (⟨"PortTimersModel", "allFlags", "()I"⟩, 31) := ⟨⟨by decide +kernel, by decide +kernel⟩, List.mem_of_getElem? (i := 487) (by decide +kernel), List.mem_of_getElem? (i := 648) (by decide +kernel), List.mem_of_getElem? (i := 649) (by decide +kernel)⟩
theorem lw_p24 : lw_okq (⟨"PortTimersModel", "lessTimer2", "()V"⟩, 31) := ⟨⟨by decide +kernel, by decide +kernel⟩, List.mem_of_getElem? (i := 487) (by decide +kernel), List.mem_of_getElem? (i := 656) (by decide +kernel), List.mem_of_getElem? (i := 657) (by decide +kernel)⟩
theorem lw_p25 : lw_okq (⟨"PortTimersModel", "set", "(I)V"⟩, 31) := ⟨⟨by decide +kernel, by decide +kernel⟩, List.mem_of_getElem? (i := 487) (by decide +kernel), List.mem_of_getElem? (i := 661) (by decide +kernel), List.mem_of_getElem? (i := 662) (by decide +kernel)⟩
theorem lw_p26 : lw_okq (⟨"PortTimersModel", "cycleOfTimer1", "()V"⟩, 31) := ⟨⟨by decide +kernel, by decide +kernel⟩, List.mem_of_getElem? (i := 487) (by decide +kernel), List.mem_of_getElem? (i := 674) (by decide +kernel), List.mem_of_getElem? (i := 675) (by decide +kernel)⟩
theorem lw_p27 : lw_okq (⟨"PortTimersModel", "cycleOfShifter", "()V"⟩, 31) := ⟨⟨by decide +kernel, by decide +kernel⟩, List.mem_of_getElem? (i := 487) (by decide +kernel), List.mem_of_getElem? (i := 678) (by decide +kernel), List.mem_of_getElem? (i := 679) (by decide +kernel)⟩
theorem lw_p28 : lw_okq (⟨"PortTimersModel", "mode", "()I"⟩, 31) := ⟨⟨by decide +kernel, by decide +kernel⟩, List.mem_of_getElem? (i := 487) (by decide +kernel), List.mem_of_getElem? (i := 682) (by decide +kernel), List.mem_of_getElem? (i := 683) (by decide +kernel)⟩
def lw_privs_2 : List (MethodName × Nat) := [(⟨"PortTimersModel", "wayB", "()I"⟩, 31), (⟨"PortTimersModel", "touchA", "()V"⟩, 31), (⟨"PortTimersModel", "wayA", "()I"⟩, 31), (⟨"PortTimersModel", "eight", "()V"⟩, 31), (⟨"PortTimersModel", "portB", "()I"⟩, 31), (⟨"PortTimersModel", "has", "(I)Z"⟩, 31), (⟨"PortTimersModel", "portA", "()I"⟩, 31), (⟨"PortTimersModel", "allFlags", "()I"⟩, 31), (⟨"PortTimersModel", "lessTimer2", "()V"⟩, 31), (⟨"PortTimersModel", "set", "(I)V"⟩, 31), (⟨"PortTimersModel", "cycleOfTimer1", "()V"⟩, 31), (⟨"PortTimersModel", "cycleOfShifter", "()V"⟩, 31), (⟨"PortTimersModel", "mode", "()I"⟩, 31)]
theorem lw_r2 : ∀ q ∈ lw_privs_2, lw_okq q := List.forall_mem_cons.mpr ⟨lw_p16, List.forall_mem_cons.mpr ⟨lw_p17, List.forall_mem_cons.mpr ⟨lw_p18, List.forall_mem_cons.mpr ⟨lw_p19, List.forall_mem_cons.mpr ⟨lw_p20, List.forall_mem_cons.mpr ⟨lw_p21, List.forall_mem_cons.mpr ⟨lw_p22, List.forall_mem_cons.mpr ⟨lw_p23, List.forall_mem_cons.mpr ⟨lw_p24, List.forall_mem_cons.mpr ⟨lw_p25, List.forall_mem_cons.mpr ⟨lw_p26, List.forall_mem_cons.mpr ⟨lw_p27, List.forall_mem_cons.mpr ⟨lw_p28, fun _ h => absurd h List.not_mem_nil⟩⟩⟩⟩⟩⟩⟩⟩⟩⟩⟩⟩⟩
def lw_privs : List (MethodName × Nat) := lw_privs_1 ++ (lw_privs_2)
def lw_tbl : List Cond := k2_sels lw_privs ++ tables_1
theorem lw_privs_ok : ∀ q ∈ lw_privs, lw_okq q := by
  show ∀ q ∈ lw_privs_1 ++ (lw_privs_2), lw_okq q
  exact List.forall_mem_append.mpr ⟨lw_r1, lw_r2⟩
end
section
/-! ===== BEGIN words of one list among another's, by their places ===== -/
theorem goodIn_r {big : List Cond} (ws : List Cond) (ps : List Nat) (hp : ws = ps.filterMap (fun i => big[i]?)) (h : ws.all goodWord = true) : GoodIn big ws := by
  intro w hw
  have h1 := List.all_eq_true.mp h w hw
  rw [hp] at hw
  obtain ⟨i, -, hi⟩ := List.mem_filterMap.mp hw
  have hm : w ∈ big := by first | exact List.mem_of_getElem? hi | exact List.getElem?_mem hi
  exact ⟨hm, good_of_word h1⟩
theorem goodIn_app {big a b : List Cond} (ha : GoodIn big a) (hb : GoodIn big b) : GoodIn big (a ++ b) := fun w h => (List.mem_append.mp h).elim (ha w) (hb w)
theorem goodIn_ca {big a b : List Cond} {c : Cond} (ha : GoodIn big (c :: a)) (hb : GoodIn big b) : GoodIn big (c :: (a ++ b)) := fun w h => (List.mem_cons.mp h).elim (fun e => ha w (List.mem_cons.mpr (Or.inl e))) (fun h => (List.mem_append.mp h).elim (fun h => ha w (List.mem_cons.mpr (Or.inr h))) (hb w))
theorem goodIn_sub {big ws : List Cond} (hm : ∀ w ∈ ws, w ∈ big) (h : ws.all goodWord = true) : GoodIn big ws := fun w hw => ⟨hm w hw, good_of_word (List.all_eq_true.mp h w hw)⟩
/-! ===== END ===== -/

/-! ===== BEGIN exceptions that leave a method, and their catching by the caller (launches without stack traces) ===== -/
section VXA
/-! The laws vx_back, vx_callV, vx_callS, vx_callSW, vx_throw0, vx_throwS follow proofs of the library, with one case more: JvmDerived/Free/Laws.lean (Back.of_free), Shelf42/LK1.lean (callV, callS), Shelf/KitTraced.lean (throwNew0V, throwNewS). -/
/-- where a method has thrown q: the class by its name, the cell, what was written, the world -/
def vx_T (XC : String → State → State → Prop) (st : State) (q : Addr) (t : State) (mc ms : Nat) (free : Addr → Prop) : Prop :=
  ∃ (E : String) (ce : Cell) (L : List Loc), XC E st t ∧ t.heap[q]? = some ce ∧ ce.vm = .none ∧ st.vm.findClass E = some ce.cls ∧ st.WarmedH t.vm ∧ st.sameButNew ({ t with vm := st.vm } : State) L mc ms ∧ ∀ z ∈ L, free z.base
def vx_Q (Qc : Array Value → State → Outcome → State → Prop) (XC : String → State → State → Prop) (mc ms : Nat) (free : Addr → Prop) : Array Value → State → Outcome → State → Prop := fun a st o t =>
  (Qc a st o t ∧ ∃ L, FrameEnd st o t L mc ms ∧ ∀ q ∈ L, free q.base) ∨ ∃ q, o = .threw q ∧ vx_T XC st q t mc ms free
/-- a callee that returns or throws -/
def vx_Met (l : Launch) (y : MethodName) (ws : List Cond) (rm : Room) (Pc : Array Value → State → Prop) (Qc : Array Value → State → Outcome → State → Prop) (XC : String → State → State → Prop) (mc ms : Nat) (free : Addr → Prop) : Prop :=
  MetFree l y (headSpec ws rm) Pc (fun _ _ _ _ _ => True) (vx_Q Qc XC mc ms free)
def vx_Post (XC : String → State → State → Prop) (mc ms : Nat) (free : Addr → Prop) : Pt → Array Value → Addr → Pt → Prop := fun A a q B =>
  ∃ (g : JFrame) (mk : MethodId) (t : State) (L : List Loc) (E : String) (ce : Cell), B.U.heap = t.heap ∧ B.U.vm = t.vm ∧ XC E (A.U.calling g mk a) t ∧ t.heap[q]? = some ce ∧ ce.vm = .none ∧ A.U.vm.findClass E = some ce.cls ∧ B.locs = A.locs ++ L ∧ (∀ z ∈ L, free z.base) ∧ B.cells = A.cells + mc ∧ B.slots = A.slots + ms
def vx_Back (l : Launch) (R : Room) (p : Program) (e : Env) (below : List Frame) (s : State) (sargs : Array Value) (y : MethodName) (len W9 : Nat)
    (Pre : Pt → Array Value → Prop) (Post : Pt → Array Value → Option Value → Pt → Prop) (PostX : Pt → Array Value → Addr → Pt → Prop) : Prop :=
  ∀ (m : MethodId) (meth : Method) (c : Code) (A : Pt) (g : JFrame) (ig : Instr) (mk : MethodId) (a : Array Value),
    Stand p l e R s m sargs below meth c A.U A.locs A.cells A.slots → g.method = m → g.locals.size = c.maxLocals → decode c.code g.pc = .ok (ig, len) →
    2 * g.monitorRoom + (g.stack.map fun v => v.category).sum ≤ W9 → A.U.methodNamed? y = some mk → Pre A a →
    (∃ (v : Option Value) (B : Pt), Stand p l e R s m sargs below meth c B.U B.locs B.cells B.slots ∧ Post A a v B ∧
      Steps p.tables e below (doInvoke e (A.U.setTop g) [] mk a).1 (B.U.setTop { g with pc := g.pc + len, stack := v.toList ++ g.stack })) ∨
    (∃ (q : Addr) (B : Pt), Stand p l e R s m sargs below meth c B.U B.locs B.cells B.slots ∧ PostX A a q B ∧
      Steps p.tables e below (doInvoke e (A.U.setTop g) [] mk a).1 ((B.U.setTop g).pushFrame (.throwing q)))
section Payer
variable {l : Launch} {R : Room} {p : Program} {e : Env} {below : List Frame} {s : State} {sargs : Array Value} {y : MethodName} {len W9 : Nat}
theorem vx_back {ws : List Cond} {rm : Room} {Pc : Array Value → State → Prop} {Qc : Array Value → State → Outcome → State → Prop} {XC : String → State → State → Prop} {mc ms : Nat} {free : Addr → Prop} {bytes : ByteArray} {maxL : Nat} {ret : Option FieldType}
    (hM : vx_Met l y ws rm Pc Qc XC mc ms free) (hblind : FrameBlind Pc) (hrc : rm.cells = mc) (hrs : rm.slots = ms)
    (hframes : rm.frames + 1 ≤ R.frames) (hlocals : W9 + (maxL + 11) + rm.locals ≤ R.locals)
    (hws : ∀ w ∈ ws, ∀ a' U, s.WarmedH U.vm → w.before a' U = true) (hcode : Cond.code y bytes maxL ret ∈ ws) (hinit : ∀ a' U, s.WarmedH U.vm → (Cond.initialized y.cls).before a' U = true) :
    vx_Back l R p e below s sargs y len W9 (PreOf R mc ms Pc) (PostOf Qc mc ms free) (vx_Post XC mc ms free) := by
  intro m meth c A g ig mk a X hg hsize hdg hW hn hp
  have h1 : (headSpec ws rm).pre.before a A.U = true := atoms_intro fun w hw => hws w hw _ _ X.warmed
  have h2 : (Cond.code y bytes maxL ret).before a A.U = true := hws _ hcode _ _ X.warmed
  have h3 : (Cond.initialized y.cls).before a A.U = true := hinit _ _ X.warmed
  have h4 : A.cells + (headSpec ws rm).room.cells ≤ R.cells := by rw [show (headSpec ws rm).room.cells = mc from hrc]; exact hp.1
  have h5 : A.slots + (headSpec ws rm).room.slots ≤ R.slots := by rw [show (headSpec ws rm).room.slots = ms from hrs]; exact hp.2.1
  have hPc : Pc a (A.U.calling g mk a) := hblind _ _ _ _ hp.2.2
  obtain ⟨U, Ls, c0, s0⟩ := A
  dsimp only [Pt.U, Pt.locs, Pt.cells, Pt.slots] at h1 h2 h3 h4 h5 X hn hPc ⊢
  obtain ⟨methY, cY, hmY, hcY, -, hlY, -, -, -, -⟩ := Cond.code_spec hn h2
  obtain ⟨kY, hkY, -⟩ := className_of_methodNamed hn
  have hinitY : kY.init = .initialized := Cond.initialized_spec (findClass_of_methodNamed hn) hkY h3
  have h : At U g.method c below := by rw [hg]; exact X.here
  have hlocals9 : W9 + (maxL + 11) + (headSpec ws rm).room.locals ≤ R.locals := hlocals
  have happ : (headSpec ws rm).appliesLoose y e.platform (U.calling g mk a) = true :=
    Spec.appliesLoose_calling (g := g) h hdg hn hkY hinitY
      (X.room_calling (g := g) (R' := (headSpec ws rm).room) hsize hmY hcY hframes (by rw [hlY]; omega) h4 h5) h1
  obtain ⟨mid, hmid⟩ := h.above
  have hfr : (U.setTop g).frames = (.java g :: mid) ++ below := by rw [State.frames_setTop' g h.top, hmid]; rfl
  obtain ⟨o, s₂, hsteps, -, hend, hq⟩ := Steps.callFree hM p X.admits X.cas X.clock (acts := []) hfr happ hPc trivial
  have hq' : vx_Q Qc XC mc ms free a (U.calling g mk a) o s₂ := hq
  rw [State.frames_setTop' g h.top] at hend
  obtain ⟨g₀, hg0⟩ := Option.isSome_iff_exists.mp h.top
  obtain ⟨r, hr⟩ := State.topJava?_eq_some.mp hg0
  have hr' : (({ U with heap := s₂.heap, slotsUsed := s₂.slotsUsed } : State).setVm s₂.vm).frames = .java g₀ :: r := hr
  rcases hq' with ⟨hqc, L, hfe, hL⟩ | ⟨q, rfl, E, ce, L, hx, hce, hcv, hcl, hW₂, hsm, hL⟩
  · obtain ⟨⟨v, rfl⟩, hW₂, e2, q2, q3, q4, q5, q6⟩ := id hfe
    have e3 : s₂ = ({ (U.calling g mk a).setFrames s₂.frames with heap := s₂.heap, slotsUsed := s₂.slotsUsed } : State).setVm s₂.vm := by
      have : s₂ = ({ s₂ with vm := (U.calling g mk a).vm } : State).setVm s₂.vm := rfl
      rw [e2] at this
      exact this
    obtain ⟨c₂, i₂, len₂, hc₂, hd₂, hf₂⟩ := hend
    have hW' : U.WarmedH s₂.vm := hW₂
    have hcc : c₂ = c := by
      have h1 : s₂.code? g.method = U.code? g.method := by
        rw [State.code?_eq, State.code?_eq, hW'.alike.method?]
      exact Option.some.inj (hc₂.symm.trans (h1.trans h.code))
    subst hcc
    have hlen : len₂ = len := by rw [hdg] at hd₂; cases hd₂; rfl
    subst hlen
    have hs₂ : s₂ = (({ U with heap := s₂.heap, slotsUsed := s₂.slotsUsed } : State).setVm s₂.vm).setTop { g with pc := g.pc + len₂, stack := v.toList ++ g.stack } := by
      refine e3.trans ?_
      rw [hf₂, State.calling_eq h.top, State.setFrames_setFrames, State.setTop_of_frames _ hr', hr]
      rfl
    have hsame : U.sameButNew ({ U with heap := s₂.heap, slotsUsed := s₂.slotsUsed } : State) L mc ms := by
      refine ⟨?_, q2, q3, q4, q5, q6⟩
      obtain ⟨t, ht, -⟩ := State.frames_cons hr
      show ({ U with heap := s₂.heap, slotsUsed := s₂.slotsUsed } : State) = { U.setFrames U.frames with heap := s₂.heap, slotsUsed := s₂.slotsUsed }
      rw [State.setFrames_self ht]
    subst hg
    refine Or.inl ⟨v, ⟨(({ U with heap := s₂.heap, slotsUsed := s₂.slotsUsed } : State).setVm s₂.vm), Ls ++ L, c0 + mc, s0 + ms⟩,
      ⟨X.admits, X.cas, X.clock, X.frames, X.room, X.hears, X.method, X.code, (X.here.setHeapUsed s₂.heap s₂.slotsUsed).setVm hW'.alike, X.tail, State.WarmedH.trans X.warmed hW', X.limits, X.bytes, X.same.trans (hsame.setVm s.vm)⟩,
      ⟨g, mk, s₂, L, rfl, rfl, hqc, rfl, hL, rfl, rfl⟩, ?_⟩
    show Steps p.tables e below _ ((({ U with heap := s₂.heap, slotsUsed := s₂.slotsUsed } : State).setVm s₂.vm).setTop { g with pc := g.pc + len₂, stack := v.toList ++ g.stack })
    rw [← hs₂]
    exact hsteps
  · obtain ⟨e2, q2, q3, q4, q5, q6⟩ := id hsm
    have e3 : s₂ = ({ (U.calling g mk a).setFrames s₂.frames with heap := s₂.heap, slotsUsed := s₂.slotsUsed } : State).setVm s₂.vm := by
      have : s₂ = ({ s₂ with vm := (U.calling g mk a).vm } : State).setVm s₂.vm := rfl
      rw [e2] at this
      exact this
    have hf₂ : s₂.frames = .throwing q :: .java g :: U.frames.tail := hend
    have hW' : U.WarmedH s₂.vm := hW₂
    have hs₂ : s₂ = ((({ U with heap := s₂.heap, slotsUsed := s₂.slotsUsed } : State).setVm s₂.vm).setTop g).pushFrame (.throwing q) := by
      refine e3.trans ?_
      rw [hf₂, State.calling_eq h.top, State.setFrames_setFrames, State.pushFrame, State.frames_setTop _ hr', State.setTop_of_frames _ hr', State.setFrames_setFrames, hr]
      rfl
    have hsame : U.sameButNew ({ U with heap := s₂.heap, slotsUsed := s₂.slotsUsed } : State) L mc ms := by
      refine ⟨?_, q2, q3, q4, q5, q6⟩
      obtain ⟨t, ht, -⟩ := State.frames_cons hr
      show ({ U with heap := s₂.heap, slotsUsed := s₂.slotsUsed } : State) = { U.setFrames U.frames with heap := s₂.heap, slotsUsed := s₂.slotsUsed }
      rw [State.setFrames_self ht]
    subst hg
    refine Or.inr ⟨q, ⟨(({ U with heap := s₂.heap, slotsUsed := s₂.slotsUsed } : State).setVm s₂.vm), Ls ++ L, c0 + mc, s0 + ms⟩,
      ⟨X.admits, X.cas, X.clock, X.frames, X.room, X.hears, X.method, X.code, (X.here.setHeapUsed s₂.heap s₂.slotsUsed).setVm hW'.alike, X.tail, State.WarmedH.trans X.warmed hW', X.limits, X.bytes, X.same.trans (hsame.setVm s.vm)⟩,
      ⟨g, mk, s₂, L, E, ce, rfl, rfl, hx, hce, hcv, hcl, rfl, hL, rfl, rfl⟩, ?_⟩
    show Steps p.tables e below _ (((({ U with heap := s₂.heap, slotsUsed := s₂.slotsUsed } : State).setVm s₂.vm).setTop g).pushFrame (.throwing q))
    rw [← hs₂]
    exact hsteps
end Payer
section Calls
variable {p : Program} {l : Launch} {e : Env} {R : Room} {s : State} {m : MethodId} {args : Array Value} {below : List Frame} {meth : Method} {c : Code} {T : State} {locs : List Loc} {cells slots : Nat}
theorem vx_callV (X : Stand p l e R s m args below meth c T locs cells slots) (hexec : p.tables.exec = Jvm.exec) {own C : String} {index : Nat} {y : MethodName} {bytes : ByteArray} {maxL : Nat} {ret : Option FieldType}
    (hown : s.vm.findClass own = some m.cls) (hlink : (Cond.methodLink own index y).before args s = true) (hinst : (Cond.instanceMethod y).before args s = true) (hsel : (Cond.selects C y y).before args s = true)
    (hcode : (Cond.code y bytes maxL ret).before args s = true) (hy : y.cls ≠ "java/lang/invoke/MethodHandle" ∧ y.cls ≠ "java/lang/invoke/VarHandle")
    {W9 : Nat} {Pre : Pt → Array Value → Prop} {Post : Pt → Array Value → Option Value → Pt → Prop} {PostX : Pt → Array Value → Addr → Pt → Prop} (hK : vx_Back l R p e below s args y 3 W9 Pre Post PostX)
    {b : Addr} {cellB : Cell} (hcell : T.heap[b]? = some cellB) (hobj : cellB.vm.isStatics = false) (hcls : s.vm.findClass C = some cellB.cls)
    {g : JFrame} (hg : g.method = m) (hsize : g.locals.size = c.maxLocals) {argsL rest : List Value} (hlen : ∀ sig, parseMethodDescriptor y.desc = some sig → argsL.length = sig.parameters.length)
    (hstack : g.stack = argsL.reverse ++ .ref b :: rest) (hW : 2 * g.monitorRoom + (rest.map fun v => v.category).sum ≤ W9) (hdg : decode c.code g.pc = .ok (.invokevirtual index, 3))
    (hpre : ∀ vm₁, s.WarmedH vm₁ → Pre ⟨T.setVm vm₁, locs, cells, slots⟩ (Value.ref b :: argsL).toArray) :
    (∃ (v : Option Value) (vm₁ : Vm) (B : Pt), s.WarmedH vm₁ ∧ Stand p l e R s m args below meth c B.U B.locs B.cells B.slots ∧ Post ⟨T.setVm vm₁, locs, cells, slots⟩ (Value.ref b :: argsL).toArray v B ∧
      ∀ target, Steps p.tables e below (B.U.setTop { g with pc := g.pc + 3, stack := v.toList ++ rest }) target → Steps p.tables e below (T.setTop g) target) ∨
    (∃ (q : Addr) (vm₁ : Vm) (B : Pt), s.WarmedH vm₁ ∧ Stand p l e R s m args below meth c B.U B.locs B.cells B.slots ∧ PostX ⟨T.setVm vm₁, locs, cells, slots⟩ (Value.ref b :: argsL).toArray q B ∧
      Steps p.tables e below (T.setTop g) ((B.U.setTop { g with stack := rest }).pushFrame (.throwing q))) := by
  obtain ⟨mk, methM, hnamed, hmethM, hstM, habM⟩ := Cond.instanceMethod_spec hinst
  obtain ⟨methM', cM, hmethM', -, -, -, -, -, -, hsigM⟩ := Cond.code_spec hnamed hcode
  cases hmethM.symm.trans hmethM'
  obtain ⟨c2, r2, m2, q1, q2, q3, q4, kP, hkP, hkPi⟩ := Cond.selects_spec hsel
  cases hcls.symm.trans q1
  cases (State.methodFound?_of_named hnamed hy).symm.trans q2
  cases hnamed.symm.trans q3
  have hselP : selectMethod e.platform s.vm cellB.cls mk = .method mk := by rw [Launch.admits_selectMethod X.admits]; exact q4
  obtain ⟨vm₁, X₁, hstep₁⟩ := X.invokevirtual hexec hown hlink hnamed hmethM hstM hkP hkPi hy (a := b) (cell := cellB) hcell
    (fun z h => by rw [h] at hobj; cases hobj) hselP hmethM habM hkP hkPi (g := g) hg (argsL := argsL) (rest := rest) (hlen _ hsigM) hstack hdg
  rcases hK m meth c ⟨T.setVm vm₁, locs, cells, slots⟩ { g with stack := rest } (.invokevirtual index) mk (Value.ref b :: argsL).toArray X₁ hg hsize hdg hW (X₁.named hnamed) (hpre vm₁ X₁.warmed) with ⟨v, B, X', hpost, hsteps⟩ | ⟨q, B, X', hpost, hsteps⟩
  · exact Or.inl ⟨v, vm₁, B, X₁.warmed, X', hpost, fun target h => hstep₁ _ fun acts => by rw [doInvoke_state]; exact hsteps.trans h⟩
  · exact Or.inr ⟨q, vm₁, B, X₁.warmed, X', hpost, hstep₁ _ fun acts => by rw [doInvoke_state]; exact hsteps⟩
theorem vx_callS (X : Stand p l e R s m args below meth c T locs cells slots) (hexec : p.tables.exec = Jvm.exec) {own : String} {index : Nat} {y : MethodName} {bytes : ByteArray} {maxL : Nat} {ret : Option FieldType}
    (hown : s.vm.findClass own = some m.cls) (hlink : (Cond.methodLink own index y).before args s = true) (hstat : (Cond.static y).before args s = true) (hinit : (Cond.initialized y.cls).before args s = true)
    (hcode : (Cond.code y bytes maxL ret).before args s = true) (hy : y.cls ≠ "java/lang/invoke/MethodHandle" ∧ y.cls ≠ "java/lang/invoke/VarHandle")
    {W9 : Nat} {Pre : Pt → Array Value → Prop} {Post : Pt → Array Value → Option Value → Pt → Prop} {PostX : Pt → Array Value → Addr → Pt → Prop} (hK : vx_Back l R p e below s args y 3 W9 Pre Post PostX)
    {g : JFrame} (hg : g.method = m) (hsize : g.locals.size = c.maxLocals) {argsL rest : List Value} (hlen : ∀ sig, parseMethodDescriptor y.desc = some sig → argsL.length = sig.parameters.length)
    (hstack : g.stack = argsL.reverse ++ rest) (hW : 2 * g.monitorRoom + (rest.map fun v => v.category).sum ≤ W9) (hdg : decode c.code g.pc = .ok (.invokestatic index, 3))
    (hpre : ∀ vm₁, s.WarmedH vm₁ → Pre ⟨T.setVm vm₁, locs, cells, slots⟩ argsL.toArray) :
    (∃ (v : Option Value) (vm₁ : Vm) (B : Pt), s.WarmedH vm₁ ∧ Stand p l e R s m args below meth c B.U B.locs B.cells B.slots ∧ Post ⟨T.setVm vm₁, locs, cells, slots⟩ argsL.toArray v B ∧
      ∀ target, Steps p.tables e below (B.U.setTop { g with pc := g.pc + 3, stack := v.toList ++ rest }) target → Steps p.tables e below (T.setTop g) target) ∨
    (∃ (q : Addr) (vm₁ : Vm) (B : Pt), s.WarmedH vm₁ ∧ Stand p l e R s m args below meth c B.U B.locs B.cells B.slots ∧ PostX ⟨T.setVm vm₁, locs, cells, slots⟩ argsL.toArray q B ∧
      Steps p.tables e below (T.setTop g) ((B.U.setTop { g with stack := rest }).pushFrame (.throwing q))) := by
  obtain ⟨mk, hnamed⟩ := Cond.code_named hcode
  obtain ⟨methM, cM, hmethM, -, -, -, -, -, -, hsigM⟩ := Cond.code_spec hnamed hcode
  have hstatic : methM.isStatic = true := Cond.static_spec hnamed hmethM hstat
  obtain ⟨kP, hkP, -⟩ := className_of_methodNamed hnamed
  have hinitP : kP.init = .initialized := Cond.initialized_spec (findClass_of_methodNamed hnamed) hkP hinit
  obtain ⟨vm₁, X₁, hstep₁⟩ := X.invokestatic hexec hown hlink hnamed hmethM hstatic hkP hinitP hy (g := g) hg (argsL := argsL) (rest := rest) (hlen _ hsigM) hstack hdg
  rcases hK m meth c ⟨T.setVm vm₁, locs, cells, slots⟩ { g with stack := rest } (.invokestatic index) mk argsL.toArray X₁ hg hsize hdg hW (X₁.named hnamed) (hpre vm₁ X₁.warmed) with ⟨v, B, X', hpost, hsteps⟩ | ⟨q, B, X', hpost, hsteps⟩
  · exact Or.inl ⟨v, vm₁, B, X₁.warmed, X', hpost, fun target h => hstep₁ _ fun acts => by rw [doInvoke_state]; exact hsteps.trans h⟩
  · exact Or.inr ⟨q, vm₁, B, X₁.warmed, X', hpost, hstep₁ _ fun acts => by rw [doInvoke_state]; exact hsteps⟩
end Calls
theorem vx_cls {s : State} {T : State} {vm₁ : Vm} {E : String} {k : ClassId} (hW : s.WarmedH vm₁) (h : (T.setVm vm₁).vm.findClass E = some k) : s.vm.findClass E = some k := by
  have h1 : vm₁.findClass E = some k := h
  rw [hW.alike.findClass] at h1
  exact h1
/-- the method's frame g, with q thrown over it -/
def vx_W (p : Program) (l : Launch) (e : Env) (R : Room) (s : State) (m : MethodId) (args : Array Value) (below : List Frame) (meth : Method) (c : Code) (H : Heap) (locs : List Loc) (cells slots : Nat) (Q : State → Prop) (g : JFrame) (q : Addr) : Prop :=
  ∀ T : State, T.heap = H → Stand p l e R s m args below meth c T locs cells slots → ∃ t, Steps p.tables e below ((T.setTop g).pushFrame (.throwing q)) t ∧ Q t
def vx_Run (p : Program) (l : Launch) (e : Env) (R : Room) (s : State) (m : MethodId) (args : Array Value) (below : List Frame) (meth : Method) (c : Code) (H : Heap) (locs : List Loc) (cells slots mc ms : Nat) (g : JFrame) (rest : List Value) (Qa : State → Outcome → State → Prop) (XC : String → State → State → Prop) (free : Addr → Prop) : Prop :=
  ∀ T : State, T.heap = H → Stand p l e R s m args below meth c T locs cells slots →
    (∃ (v : Option Value) (st₀ t T' : State) (L : List Loc), st₀.heap = H ∧ Stand p l e R s m args below meth c T' (locs ++ L) (cells + mc) (slots + ms) ∧ (∀ q ∈ L, free q.base) ∧ T'.heap = t.heap ∧ T'.vm = t.vm ∧ Qa st₀ (.returned v) t ∧
      Goes p e below T g T' { g with pc := g.pc + 3, stack := v.toList ++ rest }) ∨
    (∃ (q : Addr) (st₀ t T' : State) (L : List Loc) (E : String) (ce : Cell), st₀.heap = H ∧ Stand p l e R s m args below meth c T' (locs ++ L) (cells + mc) (slots + ms) ∧ (∀ z ∈ L, free z.base) ∧ T'.heap = t.heap ∧ T'.vm = t.vm ∧ XC E st₀ t ∧ t.heap[q]? = some ce ∧ ce.vm = .none ∧ s.vm.findClass E = some ce.cls ∧
      Steps p.tables e below (T.setTop g) ((T'.setTop { g with stack := rest }).pushFrame (.throwing q)))
def vx_X {S : Type} (px : S → Prop) (B : String → S → State → Prop) (A : Nat → Prop) : String → State → State → Prop := fun E st t => ∃ u : S, px u ∧ B E u t ∧ va_F A st t
section Runs
variable {p : Program} {l : Launch} {e : Env} {R : Room} {s : State} {m : MethodId} {args : Array Value} {below : List Frame} {meth : Method} {c : Code} {H : Heap} {locs : List Loc} {cells slots : Nat}
variable {y : MethodName} {bytes cc : ByteArray} {maxL nL mc ms n index : Nat} {ret : Option FieldType} {ws : List Cond} {rm : Room} {Pc : Array Value → State → Prop} {Qc : Array Value → State → Outcome → State → Prop} {XC : String → State → State → Prop} {free : Addr → Prop} {Ts : List Cond} {own C : String} {b : Addr} {As rest : List Value} {g : JFrame}
theorem vx_callBack (cb : CallB R s args own index y bytes maxL ret ws rm mc ms n) (hM : vx_Met l y ws rm Pc Qc XC mc ms free) (hbl : FrameBlind Pc) : vx_Back l R p e below s args y 3 8 (PreOf R mc ms Pc) (PostOf Qc mc ms free) (vx_Post XC mc ms free) := by
  obtain ⟨hrc, hrs, hfr, hlo, hws, hcw, -, hini, -⟩ := cb
  exact vx_back (bytes := bytes) (maxL := maxL) (ret := ret) hM hbl hrc hrs hfr hlo hws hcw (fun a' U hW => word_at hW (Or.inl (by first | rfl | simp [Cond.onTables, Cond.keeps, Cond.steady])) hini)
theorem vx_runV (S : CallFix p m c cc nL s args Ts own) (hM : vx_Met l y ws rm Pc Qc XC mc ms free) (cw : CallW R s args own C index y bytes maxL ret ws rm mc ms n) (hp : PreV s H C b Pc As)
    (hg : g.method = m) (hn : As.length = n) (hsize : g.locals.size = nL) (hstack : g.stack = As.reverse ++ .ref b :: rest) (hW : 2 * g.monitorRoom + (rest.map fun v => v.category).sum ≤ 8) (hdg : decode cc g.pc = .ok (.invokevirtual index, 3)) (hf : cells + mc ≤ R.cells ∧ slots + ms ≤ R.slots) :
    vx_Run p l e R s m args below meth c H locs cells slots mc ms g rest (Qc (Value.ref b :: As).toArray) XC free := by
  have hK : vx_Back l R p e below s args y 3 8 (PreOf R mc ms Pc) (PostOf Qc mc ms free) (vx_Post XC mc ms free) := vx_callBack cw.1 hM hp.1
  obtain ⟨⟨-, -, -, -, -, -, hcode, -, hy, hlen, hl⟩, hin, hse⟩ := cw
  obtain ⟨hx, hb, hml, ho, -⟩ := S
  obtain ⟨-, ⟨cellB, hcB, hoB, hclB⟩, hPc⟩ := hp
  intro T hT X
  rcases vx_callV X hx (C := C) (bytes := bytes) (maxL := maxL) (ret := ret) ho hl hin hse hcode hy hK (by rw [hT]; exact hcB) hoB hclB hg (hsize.trans hml.symm) (argsL := As) (rest := rest) (fun sig h => hn.trans (hlen sig h)) hstack hW (by rw [hb]; exact hdg)
    (fun vm₁ hW₁ => ⟨hf.1, hf.2, hPc (T.setVm vm₁) hT hW₁⟩) with ⟨v, vm₁, ⟨U', l2, c2, s2⟩, hW₁, X', ⟨g', mk, t, L, e1, e2, hq, h1, hL, h2, h3⟩, st⟩ | ⟨q, vm₁, ⟨U', l2, c2, s2⟩, hW₁, X', ⟨g', mk, t, L, E, ce, e1, e2, hq, hce, hcv, hcl, h1, hL, h2, h3⟩, st⟩
  · dsimp only [Pt.U, Pt.locs, Pt.cells, Pt.slots] at X' e1 e2 h1 h2 h3 st
    subst h1; subst h2; subst h3
    exact Or.inl ⟨v, (T.setVm vm₁).calling g' mk (Value.ref b :: As).toArray, t, U', L, hT, X', hL, e1, e2, hq, st⟩
  · dsimp only [Pt.U, Pt.locs, Pt.cells, Pt.slots] at X' e1 e2 h1 h2 h3 st hcl
    subst h1; subst h2; subst h3
    exact Or.inr ⟨q, (T.setVm vm₁).calling g' mk (Value.ref b :: As).toArray, t, U', L, E, ce, hT, X', hL, e1, e2, hq, hce, hcv, vx_cls hW₁ hcl, st⟩
theorem vx_runS (S : CallFix p m c cc nL s args Ts own) (hM : vx_Met l y ws rm Pc Qc XC mc ms free) (cw : CallB R s args own index y bytes maxL ret ws rm mc ms n ∧ (Cond.static y).before args s = true) (hp : PreS s H Pc As)
    (hg : g.method = m) (hn : As.length = n) (hsize : g.locals.size = nL) (hstack : g.stack = As.reverse ++ rest) (hW : 2 * g.monitorRoom + (rest.map fun v => v.category).sum ≤ 8) (hdg : decode cc g.pc = .ok (.invokestatic index, 3)) (hf : cells + mc ≤ R.cells ∧ slots + ms ≤ R.slots) :
    vx_Run p l e R s m args below meth c H locs cells slots mc ms g rest (Qc As.toArray) XC free := by
  have hK : vx_Back l R p e below s args y 3 8 (PreOf R mc ms Pc) (PostOf Qc mc ms free) (vx_Post XC mc ms free) := vx_callBack cw.1 hM hp.1
  obtain ⟨⟨-, -, -, -, -, -, hcode, hini, hy, hlen, hl⟩, hstt⟩ := cw
  obtain ⟨hx, hb, hml, ho, -⟩ := S
  intro T hT X
  rcases vx_callS X hx (bytes := bytes) (maxL := maxL) (ret := ret) ho hl hstt hini hcode hy hK hg (hsize.trans hml.symm) (argsL := As) (rest := rest) (fun sig h => hn.trans (hlen sig h)) hstack hW (by rw [hb]; exact hdg)
    (fun vm₁ hW₁ => ⟨hf.1, hf.2, hp.2 (T.setVm vm₁) hT hW₁⟩) with ⟨v, vm₁, ⟨U', l2, c2, s2⟩, hW₁, X', ⟨g', mk, t, L, e1, e2, hq, h1, hL, h2, h3⟩, st⟩ | ⟨q, vm₁, ⟨U', l2, c2, s2⟩, hW₁, X', ⟨g', mk, t, L, E, ce, e1, e2, hq, hce, hcv, hcl, h1, hL, h2, h3⟩, st⟩
  · dsimp only [Pt.U, Pt.locs, Pt.cells, Pt.slots] at X' e1 e2 h1 h2 h3 st
    subst h1; subst h2; subst h3
    exact Or.inl ⟨v, (T.setVm vm₁).calling g' mk As.toArray, t, U', L, hT, X', hL, e1, e2, hq, st⟩
  · dsimp only [Pt.U, Pt.locs, Pt.cells, Pt.slots] at X' e1 e2 h1 h2 h3 st hcl
    subst h1; subst h2; subst h3
    exact Or.inr ⟨q, (T.setVm vm₁).calling g' mk As.toArray, t, U', L, E, ce, hT, X', hL, e1, e2, hq, hce, hcv, vx_cls hW₁ hcl, st⟩
end Runs
section Rows
variable {p : Program} {l : Launch} {e : Env} {R : Room} {s : State} {m : MethodId} {args : Array Value} {below : List Frame} {meth : Method} {c : Code} {H : Heap} {locs : List Loc} {cells slots : Nat} {Q : State → Prop}
variable {mc ms : Nat} {free : Addr → Prop} {A0 A1 : Nat → Prop} {H0 : Heap} {a : Array Value} {pc : Nat} {ls : Array Slot} {st0 rest : List Value}
theorem vx_keep {st₀ t T' : State} {L : List Loc} (h0 : st₀.heap = H) (e1 : T'.heap = t.heap) (hS : va_S A0 H0 H locs) (hA : ∀ q, q < H.size → A1 q → A0 q) (hf : ∀ q, free q → A0 q) (hL : ∀ q ∈ L, free q.base) (hF : va_F A1 st₀ t) :
    H.size ≤ T'.heap.size ∧ (∀ q : Nat, q < H.size → ¬ A1 q → T'.heap[q]? = H[q]?) ∧ va_S A0 H0 T'.heap (locs ++ L) := by
  obtain ⟨hz, hk⟩ := hF
  rw [h0] at hz hk
  exact ⟨by rw [e1]; exact hz, fun q h1 h2 => by rw [e1]; exact hk q h1 h2,
    ⟨Nat.le_trans hS.1 (by rw [e1]; exact hz), fun q h1 h2 => by rw [e1, hk q (Nat.lt_of_lt_of_le h1 hS.1) (fun z => h2 (hA q (Nat.lt_of_lt_of_le h1 hS.1) z))]; exact hS.2.1 q h1 h2, fun q hq => by
      rcases List.mem_append.mp hq with h | h
      · exact hS.2.2 q h
      · exact hf _ (hL q h)⟩⟩
theorem vx_calli {S SX : Type} {post : Int32 → S → Prop} {px : SX → Prop} {B : S → State → Prop} {BX : String → SX → State → Prop} {AX : Nat → Prop} (hr : vx_Run p l e R s m args below meth c H locs cells slots mc ms (F0 m pc ls st0) rest (va_Qi post B A1 a) (vx_X px BX AX) free) (hS : va_S A0 H0 H locs) (hA : ∀ q, q < H.size → A1 q → A0 q) (hf : ∀ q, free q → A0 q) (hAX : ∀ q, q < H.size → AX q → A0 q)
    (kx : ∀ (E : String) (ce : Cell) (q9 : Addr) (u : SX) (t : State) (H1 : Heap) (locs1 : List Loc), t.heap = H1 → s.vm.Alike t.vm → px u → BX E u t → H.size ≤ H1.size → (∀ q : Nat, q < H.size → ¬ AX q → H1[q]? = H[q]?) → va_S A0 H0 H1 locs1 → H1[q9]? = some ce → ce.vm = .none → s.vm.findClass E = some ce.cls → vx_W p l e R s m args below meth c H1 locs1 (cells + mc) (slots + ms) Q (F0 m pc ls rest) q9)
    (kk : ∀ (r : Int32) (u : S) (t : State) (H1 : Heap) (locs1 : List Loc), t.heap = H1 → s.vm.Alike t.vm → post r u → B u t → H.size ≤ H1.size → (∀ q : Nat, q < H.size → ¬ A1 q → H1[q]? = H[q]?) → va_S A0 H0 H1 locs1 → W p l e R s m args below meth c H1 locs1 (cells + mc) (slots + ms) Q (F0 m (pc + 3) ls (.int r :: rest))) : W p l e R s m args below meth c H locs cells slots Q (F0 m pc ls st0) := by
  intro T hT X
  rcases hr T hT X with ⟨v, st₀, t, T', L, h0, X', hL, e1, e2, ⟨⟨r, u, hv, hp, hb⟩, hF⟩, st⟩ | ⟨q, st₀, t, T', L, E, ce, h0, X', hL, e1, e2, ⟨u, hp, hb, hF⟩, hce, hcv, hcl, st⟩
  · cases hv
    obtain ⟨k1, k2, k3⟩ := vx_keep h0 e1 hS hA hf hL hF
    obtain ⟨t2, a1, b1⟩ := kk r u t T'.heap (locs ++ L) e1.symm (by rw [← e2]; exact X'.warmed.alike) hp hb k1 k2 k3 T' rfl X'
    exact ⟨t2, st t2 a1, b1⟩
  · obtain ⟨k1, k2, k3⟩ := vx_keep h0 e1 hS hAX hf hL hF
    obtain ⟨t2, a1, b1⟩ := kx E ce q u t T'.heap (locs ++ L) e1.symm (by rw [← e2]; exact X'.warmed.alike) hp hb k1 k2 k3 (by rw [e1]; exact hce) hcv hcl T' rfl X'
    exact ⟨t2, st.trans a1, b1⟩
theorem vx_calll {S SX : Type} {post : Int64 → S → Prop} {px : SX → Prop} {B : S → State → Prop} {BX : String → SX → State → Prop} {AX : Nat → Prop} (hr : vx_Run p l e R s m args below meth c H locs cells slots mc ms (F0 m pc ls st0) rest (va_Ql post B A1 a) (vx_X px BX AX) free) (hS : va_S A0 H0 H locs) (hA : ∀ q, q < H.size → A1 q → A0 q) (hf : ∀ q, free q → A0 q) (hAX : ∀ q, q < H.size → AX q → A0 q)
    (kx : ∀ (E : String) (ce : Cell) (q9 : Addr) (u : SX) (t : State) (H1 : Heap) (locs1 : List Loc), t.heap = H1 → s.vm.Alike t.vm → px u → BX E u t → H.size ≤ H1.size → (∀ q : Nat, q < H.size → ¬ AX q → H1[q]? = H[q]?) → va_S A0 H0 H1 locs1 → H1[q9]? = some ce → ce.vm = .none → s.vm.findClass E = some ce.cls → vx_W p l e R s m args below meth c H1 locs1 (cells + mc) (slots + ms) Q (F0 m pc ls rest) q9)
    (kk : ∀ (r : Int64) (u : S) (t : State) (H1 : Heap) (locs1 : List Loc), t.heap = H1 → s.vm.Alike t.vm → post r u → B u t → H.size ≤ H1.size → (∀ q : Nat, q < H.size → ¬ A1 q → H1[q]? = H[q]?) → va_S A0 H0 H1 locs1 → W p l e R s m args below meth c H1 locs1 (cells + mc) (slots + ms) Q (F0 m (pc + 3) ls (.long r :: rest))) : W p l e R s m args below meth c H locs cells slots Q (F0 m pc ls st0) := by
  intro T hT X
  rcases hr T hT X with ⟨v, st₀, t, T', L, h0, X', hL, e1, e2, ⟨⟨r, u, hv, hp, hb⟩, hF⟩, st⟩ | ⟨q, st₀, t, T', L, E, ce, h0, X', hL, e1, e2, ⟨u, hp, hb, hF⟩, hce, hcv, hcl, st⟩
  · cases hv
    obtain ⟨k1, k2, k3⟩ := vx_keep h0 e1 hS hA hf hL hF
    obtain ⟨t2, a1, b1⟩ := kk r u t T'.heap (locs ++ L) e1.symm (by rw [← e2]; exact X'.warmed.alike) hp hb k1 k2 k3 T' rfl X'
    exact ⟨t2, st t2 a1, b1⟩
  · obtain ⟨k1, k2, k3⟩ := vx_keep h0 e1 hS hAX hf hL hF
    obtain ⟨t2, a1, b1⟩ := kx E ce q u t T'.heap (locs ++ L) e1.symm (by rw [← e2]; exact X'.warmed.alike) hp hb k1 k2 k3 (by rw [e1]; exact hce) hcv hcl T' rfl X'
    exact ⟨t2, st.trans a1, b1⟩
theorem vx_callf {S SX : Type} {post : UInt32 → S → Prop} {px : SX → Prop} {B : S → State → Prop} {BX : String → SX → State → Prop} {AX : Nat → Prop} (hr : vx_Run p l e R s m args below meth c H locs cells slots mc ms (F0 m pc ls st0) rest (va_Qf post B A1 a) (vx_X px BX AX) free) (hS : va_S A0 H0 H locs) (hA : ∀ q, q < H.size → A1 q → A0 q) (hf : ∀ q, free q → A0 q) (hAX : ∀ q, q < H.size → AX q → A0 q)
    (kx : ∀ (E : String) (ce : Cell) (q9 : Addr) (u : SX) (t : State) (H1 : Heap) (locs1 : List Loc), t.heap = H1 → s.vm.Alike t.vm → px u → BX E u t → H.size ≤ H1.size → (∀ q : Nat, q < H.size → ¬ AX q → H1[q]? = H[q]?) → va_S A0 H0 H1 locs1 → H1[q9]? = some ce → ce.vm = .none → s.vm.findClass E = some ce.cls → vx_W p l e R s m args below meth c H1 locs1 (cells + mc) (slots + ms) Q (F0 m pc ls rest) q9)
    (kk : ∀ (r : UInt32) (u : S) (t : State) (H1 : Heap) (locs1 : List Loc), t.heap = H1 → s.vm.Alike t.vm → post r u → B u t → H.size ≤ H1.size → (∀ q : Nat, q < H.size → ¬ A1 q → H1[q]? = H[q]?) → va_S A0 H0 H1 locs1 → W p l e R s m args below meth c H1 locs1 (cells + mc) (slots + ms) Q (F0 m (pc + 3) ls (.float r :: rest))) : W p l e R s m args below meth c H locs cells slots Q (F0 m pc ls st0) := by
  intro T hT X
  rcases hr T hT X with ⟨v, st₀, t, T', L, h0, X', hL, e1, e2, ⟨⟨r, u, hv, hp, hb⟩, hF⟩, st⟩ | ⟨q, st₀, t, T', L, E, ce, h0, X', hL, e1, e2, ⟨u, hp, hb, hF⟩, hce, hcv, hcl, st⟩
  · cases hv
    obtain ⟨k1, k2, k3⟩ := vx_keep h0 e1 hS hA hf hL hF
    obtain ⟨t2, a1, b1⟩ := kk r u t T'.heap (locs ++ L) e1.symm (by rw [← e2]; exact X'.warmed.alike) hp hb k1 k2 k3 T' rfl X'
    exact ⟨t2, st t2 a1, b1⟩
  · obtain ⟨k1, k2, k3⟩ := vx_keep h0 e1 hS hAX hf hL hF
    obtain ⟨t2, a1, b1⟩ := kx E ce q u t T'.heap (locs ++ L) e1.symm (by rw [← e2]; exact X'.warmed.alike) hp hb k1 k2 k3 (by rw [e1]; exact hce) hcv hcl T' rfl X'
    exact ⟨t2, st.trans a1, b1⟩
theorem vx_calld {S SX : Type} {post : UInt64 → S → Prop} {px : SX → Prop} {B : S → State → Prop} {BX : String → SX → State → Prop} {AX : Nat → Prop} (hr : vx_Run p l e R s m args below meth c H locs cells slots mc ms (F0 m pc ls st0) rest (va_Qd post B A1 a) (vx_X px BX AX) free) (hS : va_S A0 H0 H locs) (hA : ∀ q, q < H.size → A1 q → A0 q) (hf : ∀ q, free q → A0 q) (hAX : ∀ q, q < H.size → AX q → A0 q)
    (kx : ∀ (E : String) (ce : Cell) (q9 : Addr) (u : SX) (t : State) (H1 : Heap) (locs1 : List Loc), t.heap = H1 → s.vm.Alike t.vm → px u → BX E u t → H.size ≤ H1.size → (∀ q : Nat, q < H.size → ¬ AX q → H1[q]? = H[q]?) → va_S A0 H0 H1 locs1 → H1[q9]? = some ce → ce.vm = .none → s.vm.findClass E = some ce.cls → vx_W p l e R s m args below meth c H1 locs1 (cells + mc) (slots + ms) Q (F0 m pc ls rest) q9)
    (kk : ∀ (r : UInt64) (u : S) (t : State) (H1 : Heap) (locs1 : List Loc), t.heap = H1 → s.vm.Alike t.vm → post r u → B u t → H.size ≤ H1.size → (∀ q : Nat, q < H.size → ¬ A1 q → H1[q]? = H[q]?) → va_S A0 H0 H1 locs1 → W p l e R s m args below meth c H1 locs1 (cells + mc) (slots + ms) Q (F0 m (pc + 3) ls (.double r :: rest))) : W p l e R s m args below meth c H locs cells slots Q (F0 m pc ls st0) := by
  intro T hT X
  rcases hr T hT X with ⟨v, st₀, t, T', L, h0, X', hL, e1, e2, ⟨⟨r, u, hv, hp, hb⟩, hF⟩, st⟩ | ⟨q, st₀, t, T', L, E, ce, h0, X', hL, e1, e2, ⟨u, hp, hb, hF⟩, hce, hcv, hcl, st⟩
  · cases hv
    obtain ⟨k1, k2, k3⟩ := vx_keep h0 e1 hS hA hf hL hF
    obtain ⟨t2, a1, b1⟩ := kk r u t T'.heap (locs ++ L) e1.symm (by rw [← e2]; exact X'.warmed.alike) hp hb k1 k2 k3 T' rfl X'
    exact ⟨t2, st t2 a1, b1⟩
  · obtain ⟨k1, k2, k3⟩ := vx_keep h0 e1 hS hAX hf hL hF
    obtain ⟨t2, a1, b1⟩ := kx E ce q u t T'.heap (locs ++ L) e1.symm (by rw [← e2]; exact X'.warmed.alike) hp hb k1 k2 k3 (by rw [e1]; exact hce) hcv hcl T' rfl X'
    exact ⟨t2, st.trans a1, b1⟩
theorem vx_callv {S SX : Type} {post : S → Prop} {px : SX → Prop} {B : S → State → Prop} {BX : String → SX → State → Prop} {AX : Nat → Prop} (hr : vx_Run p l e R s m args below meth c H locs cells slots mc ms (F0 m pc ls st0) rest (va_Qv post B A1 a) (vx_X px BX AX) free) (hS : va_S A0 H0 H locs) (hA : ∀ q, q < H.size → A1 q → A0 q) (hf : ∀ q, free q → A0 q) (hAX : ∀ q, q < H.size → AX q → A0 q)
    (kx : ∀ (E : String) (ce : Cell) (q9 : Addr) (u : SX) (t : State) (H1 : Heap) (locs1 : List Loc), t.heap = H1 → s.vm.Alike t.vm → px u → BX E u t → H.size ≤ H1.size → (∀ q : Nat, q < H.size → ¬ AX q → H1[q]? = H[q]?) → va_S A0 H0 H1 locs1 → H1[q9]? = some ce → ce.vm = .none → s.vm.findClass E = some ce.cls → vx_W p l e R s m args below meth c H1 locs1 (cells + mc) (slots + ms) Q (F0 m pc ls rest) q9)
    (kk : ∀ (u : S) (t : State) (H1 : Heap) (locs1 : List Loc), t.heap = H1 → s.vm.Alike t.vm → post u → B u t → H.size ≤ H1.size → (∀ q : Nat, q < H.size → ¬ A1 q → H1[q]? = H[q]?) → va_S A0 H0 H1 locs1 → W p l e R s m args below meth c H1 locs1 (cells + mc) (slots + ms) Q (F0 m (pc + 3) ls (rest))) : W p l e R s m args below meth c H locs cells slots Q (F0 m pc ls st0) := by
  intro T hT X
  rcases hr T hT X with ⟨v, st₀, t, T', L, h0, X', hL, e1, e2, ⟨⟨u, hv, hp, hb⟩, hF⟩, st⟩ | ⟨q, st₀, t, T', L, E, ce, h0, X', hL, e1, e2, ⟨u, hp, hb, hF⟩, hce, hcv, hcl, st⟩
  · cases hv
    obtain ⟨k1, k2, k3⟩ := vx_keep h0 e1 hS hA hf hL hF
    obtain ⟨t2, a1, b1⟩ := kk u t T'.heap (locs ++ L) e1.symm (by rw [← e2]; exact X'.warmed.alike) hp hb k1 k2 k3 T' rfl X'
    exact ⟨t2, st t2 a1, b1⟩
  · obtain ⟨k1, k2, k3⟩ := vx_keep h0 e1 hS hAX hf hL hF
    obtain ⟨t2, a1, b1⟩ := kx E ce q u t T'.heap (locs ++ L) e1.symm (by rw [← e2]; exact X'.warmed.alike) hp hb k1 k2 k3 (by rw [e1]; exact hce) hcv hcl T' rfl X'
    exact ⟨t2, st.trans a1, b1⟩
end Rows
section Ends
variable {p : Program} {l : Launch} {e : Env} {R : Room} {s : State} {m : MethodId} {args : Array Value} {below : List Frame} {meth : Method} {c : Code} {H : Heap} {locs : List Loc} {cells slots : Nat} {Q : State → Prop}
variable {mc ms : Nat} {free : Addr → Prop} {A0 A1 : Nat → Prop} {H0 : Heap} {a : Array Value} {ls : Array Slot} {st0 rest : List Value}
variable {Qc : Array Value → State → Outcome → State → Prop} {XC : String → State → State → Prop}
/-- what a body that may throw owes at its end -/
def vx_MQ (below : List Frame) (Qc : Array Value → State → Outcome → State → Prop) (XC : String → State → State → Prop) (a : Array Value) (s : State) (mc ms : Nat) (free : Addr → Prop) : State → Prop := fun t =>
  ∃ o, t.status = .running ∧ Ended t below o ∧ vx_Q Qc XC mc ms free a s o t
theorem vx_ret {g : JFrame} {mc ms : Nat} (k : W p l e R s m args below meth c H locs cells slots (MQ below Qc args s mc ms free) g) : W p l e R s m args below meth c H locs cells slots (vx_MQ below Qc XC args s mc ms free) g := by
  intro T hT X
  obtain ⟨t, a1, o, b1, b2, b3, b4⟩ := k T hT X
  exact ⟨t, a1, o, b1, b2, Or.inl ⟨b3, b4⟩⟩
/-- not caught here: it goes on to the caller -/
theorem vx_widen {g : JFrame} {q : Addr} {k n : Nat} (h1 : cells ≤ k) (h2 : slots ≤ n) (kk : vx_W p l e R s m args below meth c H locs k n Q g q) : vx_W p l e R s m args below meth c H locs cells slots Q g q := fun T hT X => kk T hT (stand_widen X h1 h2)
theorem vx_out {pc : Nat} {E : String} {ce : Cell} {q : Addr} {mc ms : Nat} (hout : ∀ x ∈ c.exceptionTable.toList, covers x pc = false) (hlocks : meth.locks = false) (hcell : H[q]? = some ce) (hv : ce.vm = .none) (hcl : s.vm.findClass E = some ce.cls)
    (hx : ∀ t : State, t.heap = H → s.vm.Alike t.vm → XC E s t) (hf : ∀ z ∈ locs, free z.base) (hc : cells ≤ mc) (hs : slots ≤ ms) :
    vx_W p l e R s m args below meth c H locs cells slots (vx_MQ below Qc XC args s mc ms free) (F0 m pc ls rest) q := by
  intro T hT X
  obtain ⟨st1, hrun, hend, hW, hsm⟩ := X.leaveThrown q (g := F0 m pc ls rest) rfl rfl rfl hout hlocks
  have hcell9 : (T.setFrames (.throwing q :: below)).heap[q]? = some ce := by
    show T.heap[q]? = some ce
    rw [hT]; exact hcell
  exact ⟨_, st1, .threw q, hrun, hend, Or.inr ⟨q, rfl, E, ce, locs, hx _ hT hW.alike, hcell9, hv, hcl, hW, hsm.mono hc hs, hf⟩⟩
theorem vx_frame {U : State} {k n : Nat} (h : s.sameButNew ({ U with vm := s.vm } : State) locs k n) : s.heap.size ≤ U.heap.size ∧ ∀ q : Nat, q < s.heap.size → (∀ z ∈ locs, z.base ≠ q) → U.heap[q]? = s.heap[q]? := by
  obtain ⟨-, h2, -, -, -, h6⟩ := h
  refine ⟨h2, fun q hq hz => ?_⟩
  obtain ⟨c9, e1, e2, e3, e4⟩ := h6 q _ (Array.getElem?_eq_getElem hq)
  have hs : c9.slots = (s.heap[q]).slots := Array.ext_getElem? fun i => e4 i fun hm => hz _ hm rfl
  have h9 : c9 = s.heap[q] := by
    rw [hs] at e2
    exact e2
  have e5 : U.heap[q]? = some c9 := e1
  rw [e5, h9, Array.getElem?_eq_getElem hq]
/-- the words of a throw but the four that speak of the heap -/
def vx_no (w : Cond) : Bool := decide (w ≠ .isRef (.static Bundle.tN "UNASSIGNED_STACK" Bundle.steD)) && decide (w ≠ .isRef (.static Bundle.tN "SUPPRESSED_SENTINEL" Bundle.listD)) && decide (w ≠ .laysStatic Bundle.tN "UNASSIGNED_STACK" Bundle.steD) && decide (w ≠ .laysStatic Bundle.tN "SUPPRESSED_SENTINEL" Bundle.listD)
def vx_at0 (own : String) (ic : Nat) (X : String) (names : List String) : List Cond := (Bundle.ownAtoms0 own ic X names).filter vx_no
def vx_atS (own : String) (ic : Nat) (X : String) (names : List String) : List Cond := (Bundle.ownAtoms own ic X names).filter vx_no
/-- a word that the tables alone decide, or a good one -/
def vx_ot (w : Cond) : Bool := w.onTables || goodWord w
theorem vx_ot_at {args a' : Array Value} {s U : State} {w : Cond} (hW : s.WarmedH U.vm) (hvm : s.vm = U.vm) (hg : vx_ot w = true) (h : w.before args s = true) : w.before a' U = true := by
  simp only [vx_ot, Bool.or_eq_true] at hg
  rcases hg with hg | hg
  · exact va_tabs hg hvm h
  · exact word_at hW (good_of_word hg) h
/-- a list's words: the good ones out of the method's own list, the others by premises of their own -/
theorem vx_hat {args : Array Value} {s : State} {L B : List Cond} (h1 : ∀ w ∈ L.filter goodWord, w.before args s = true) (h2 : ∀ w ∈ L.filter (fun w => !goodWord w), w ∈ B) (h3 : ∀ w ∈ B, w.before args s = true) : ∀ w ∈ L, w.before args s = true := by
  intro w hw
  by_cases g : goodWord w = true
  · exact h1 w (List.mem_filter.mpr ⟨hw, g⟩)
  · refine h3 w (h2 w (List.mem_filter.mpr ⟨hw, ?_⟩))
    show (!goodWord w) = true
    cases hgw : goodWord w
    · rfl
    · exact absurd hgw g
theorem vx_c {args : Array Value} {s : State} {w : Cond} {B : List Cond} (h : w.before args s = true) (t : ∀ w ∈ B, w.before args s = true) : ∀ w' ∈ w :: B, w'.before args s = true := fun w' h' => (List.mem_cons.mp h').elim (fun e => by rw [e]; exact h) (t w')
theorem vx_n {args : Array Value} {s : State} : ∀ w ∈ ([] : List Cond), w.before args s = true := fun _ h => nomatch h
theorem vx_own {args : Array Value} {s : State} {L : List Cond} (h1 : ∀ w ∈ L.filter vx_no, w.before args s = true)
    (hU : (Cond.isRef (.static Bundle.tN "UNASSIGNED_STACK" Bundle.steD)).before args s = true) (hN : (Cond.isRef (.static Bundle.tN "SUPPRESSED_SENTINEL" Bundle.listD)).before args s = true)
    (lU : (Cond.laysStatic Bundle.tN "UNASSIGNED_STACK" Bundle.steD).before args s = true) (lN : (Cond.laysStatic Bundle.tN "SUPPRESSED_SENTINEL" Bundle.listD).before args s = true) : ∀ w ∈ L, w.before args s = true := by
  intro w hw
  by_cases e1 : w = .isRef (.static Bundle.tN "UNASSIGNED_STACK" Bundle.steD)
  · rw [e1]; exact hU
  · by_cases e2 : w = .isRef (.static Bundle.tN "SUPPRESSED_SENTINEL" Bundle.listD)
    · rw [e2]; exact hN
    · by_cases e3 : w = .laysStatic Bundle.tN "UNASSIGNED_STACK" Bundle.steD
      · rw [e3]; exact lU
      · by_cases e4 : w = .laysStatic Bundle.tN "SUPPRESSED_SENTINEL" Bundle.listD
        · rw [e4]; exact lN
        · exact h1 w (List.mem_filter.mpr ⟨hw, by unfold vx_no; rw [decide_eq_true e1, decide_eq_true e2, decide_eq_true e3, decide_eq_true e4]; rfl⟩)
/-- where a static field lies, its class's statics cell in H -/
def vx_L (C n d : String) (A : Nat → Prop) (U : State) (H : Heap) : Prop := ∃ (c : ClassId) (k : Class) (i : Nat) (f : Field) (a : Nat) (cell : Cell), U.vm.findClass C = some c ∧ U.fieldFound? C n d = some (c, k, i, f) ∧ f.isStatic = true ∧ k.statics = some a ∧ H[a]? = some cell ∧ cell.vm.isStatics = true ∧ cell.cls = c ∧ f.slot < cell.slots.size ∧ k.staticTypes[f.slot]? = some f.type ∧ ¬ A a
theorem vx_L.moved {C n d : String} {A : Nat → Prop} {u U : State} {H : Heap} (hvm : u.vm.Alike U.vm) (h : vx_L C n d A u H) : vx_L C n d A U H := by
  obtain ⟨c, k, i, f, a, cell, h1, h2, h3, h4, h5, h6, h7, h8, h9, h10⟩ := h
  obtain ⟨k', hi', he⟩ := State.fieldFound?_setVm hvm h2
  exact ⟨c, k', i, f, a, cell, by rw [hvm.findClass]; exact h1, hi', h3, by rw [he]; exact h4, h5, h6, h7, h8, by rw [he]; exact h9, h10⟩
theorem vx_L.kept {C n d : String} {A : Nat → Prop} {U : State} {H H1 : Heap} (h : vx_L C n d A U H) (hq : ∀ a : Nat, a < H.size → ¬ A a → H1[a]? = H[a]?) : vx_L C n d A U H1 := by
  obtain ⟨c, k, i, f, a, cell, h1, h2, h3, h4, h5, h6, h7, h8, h9, h10⟩ := h
  exact ⟨c, k, i, f, a, cell, h1, h2, h3, h4, by rw [hq a (Array.getElem?_eq_some_iff.mp h5).1 h10]; exact h5, h6, h7, h8, h9, h10⟩
theorem vx_L.narrow {C n d : String} {A B : Nat → Prop} {U : State} {H : Heap} (h : vx_L C n d A U H) (hAB : ∀ q, B q → A q) : vx_L C n d B U H := by
  obtain ⟨c, k, i, f, a, cell, h1, h2, h3, h4, h5, h6, h7, h8, h9, h10⟩ := h
  exact ⟨c, k, i, f, a, cell, h1, h2, h3, h4, h5, h6, h7, h8, h9, fun z => h10 (hAB _ z)⟩
theorem vx_L.word {C n d : String} {A : Nat → Prop} {s : State} {args : Array Value} (h : vx_L C n d A s s.heap) : (Cond.laysStatic C n d).before args s = true := by
  obtain ⟨c, k, i, f, a, cell, h1, h2, h3, h4, h5, h6, h7, h8, h9, -⟩ := h
  show (Cond.laysStatic C n d).holds args s none s [] = true
  exact Cond.laysStatic_of h1 h2 h3 h4 h5 h6 h7 h8 h9
/-- .. and what it holds: null or some reference -/
def vx_Zq (C n d : String) (A : Nat → Prop) (U : State) (H : Heap) : Prop := va_Zq C n d A U H ∧ vx_L C n d A U H
theorem vx_Zq.moved {C n d : String} {A : Nat → Prop} {u U : State} {H : Heap} (hvm : u.vm.Alike U.vm) (h : vx_Zq C n d A u H) : vx_Zq C n d A U H := ⟨va_Zq.moved hvm h.1, vx_L.moved hvm h.2⟩
theorem vx_Zq.kept {C n d : String} {A : Nat → Prop} {U : State} {H H1 : Heap} (h : vx_Zq C n d A U H) (hq : ∀ a : Nat, a < H.size → ¬ A a → H1[a]? = H[a]?) : vx_Zq C n d A U H1 := ⟨va_Zq.kept h.1 hq, vx_L.kept h.2 hq⟩
theorem vx_Zq.narrow {C n d : String} {A B : Nat → Prop} {U : State} {H : Heap} (h : vx_Zq C n d A U H) (hAB : ∀ q, B q → A q) : vx_Zq C n d B U H := ⟨va_Zq.narrow h.1 hAB, vx_L.narrow h.2 hAB⟩
theorem vx_Zqof {args : Array Value} {s : State} {C n d : String} {A : Nat → Prop} (hl : (Cond.laysStatic C n d).before args s = true) (hini : (Cond.initialized C).before args s = true) (h : (Cond.isRef (.static C n d)).before args s = true) (hA : ∀ a : Nat, a < s.heap.size → ¬ A a) : vx_Zq C n d A s s.heap := by
  refine ⟨va_Zqof hl hini h hA, ?_⟩
  obtain ⟨c, k, i, f, a, cell, h1, h2, h3, h4, h5, h6, h7, h8, h9⟩ := Cond.laysStatic_spec hl
  exact ⟨c, k, i, f, a, cell, h1, h2, h3, h4, h5, h6, h7, h8, h9, hA a (Array.getElem?_eq_some_iff.mp h5).1⟩
theorem vx_isRef {C n d : String} {v : Value} {A : Nat → Prop} {s : State} {args : Array Value} (h : va_Z C n d v A s s.heap) (hv : v.isRef = true) : (Cond.isRef (.static C n d)).before args s = true := by
  obtain ⟨cf, kf, fi, f, a, cell, h1, h2, h3, h4, h5, h6, h7, -⟩ := h
  have he : (Term.static C n d).eval args s none [] s = some v := by
    simp [Term.eval, State.fieldNamed?, h1, h2, h4, h5, h6, h7]
  simp only [Cond.before, Cond.holds, Cond.value, he]
  cases v <;> simp_all [Value.isRef]
theorem vx_isRefq {C n d : String} {A : Nat → Prop} {s : State} {args : Array Value} (h : va_Zq C n d A s s.heap) : (Cond.isRef (.static C n d)).before args s = true := by
  rcases h with h | ⟨t, h⟩
  · exact vx_isRef h rfl
  · exact vx_isRef h rfl
/-- the same frame, seen from here: as if the method were called anew in this heap -/
theorem vx_rebase {T : State} (X : Stand p l e R s m args below meth c T locs cells slots) {R' : Room} (hf : R'.frames ≤ R.frames) (hl : R'.locals ≤ R.locals) (hc : cells + R'.cells ≤ R.cells) (hs : slots + R'.slots ≤ R.slots) :
    Stand p l e R' ((T.setVm s.vm).setFrames (.invoking m args :: below)) m args below meth c T [] 0 0 := by
  have htop : (T.setVm s.vm).topJava?.isSome := X.here.top
  have hF : ((T.setVm s.vm).setFrames (.invoking m args :: below)).frames = .invoking m args :: below := State.frames_setFrames _ (State.cur_lt_of_top htop)
  obtain ⟨g₀, hg0⟩ := Option.isSome_iff_exists.mp htop
  obtain ⟨r, hr⟩ := State.topJava?_eq_some.mp hg0
  have hl9 : e.platform.stackLimits (T.setVm s.vm).me = e.platform.stackLimits s.me := X.limits
  have hb9 : (T.setVm s.vm).me.stackBytes = s.me.stackBytes := X.bytes
  refine ⟨X.admits, X.cas, X.clock, hF, ?_, X.hears, X.method, X.code, X.here, X.tail, X.warmed, ?_, ?_, ?_⟩
  · have h := X.room
    have hU : ((T.setVm s.vm).setFrames (.invoking m args :: below)).localsInUse = s.localsInUse := by
      rw [State.localsInUse_invoking hF (meth := meth) (c := c) X.method X.code, State.localsInUse_invoking X.frames X.method X.code]
    simp only [State.hasRoom, Bool.and_eq_true, decide_eq_true_eq] at h ⊢
    obtain ⟨⟨⟨⟨h1, h2, h3, h4, h5, h6⟩, h7⟩, h8⟩, h9⟩ := h
    rw [X.frames, List.length_cons] at h2 h3
    have q1 := X.heapSize
    have q2 := X.used
    simp only [hF, hU, List.length_cons, State.stackLimits_setFrames, State.stackBytes_setFrames, hl9, hb9]
    refine ⟨⟨⟨⟨by omega, by omega, by omega, by omega, by omega, h6⟩, ?_⟩, ?_⟩, X.book⟩
    · show T.heap.size + R'.cells ≤ e.platform.maxCells
      omega
    · show T.slotsUsed + R'.slots ≤ e.platform.maxSlots
      omega
  · rw [State.stackLimits_setFrames]; rfl
  · rw [State.stackBytes_setFrames]; rfl
  · refine ⟨?_, Nat.le_refl _, Nat.le_refl _, ?_, ?_, fun a c9 h9 => ⟨c9, h9, rfl, rfl, fun _ _ => rfl⟩⟩
    · obtain ⟨t, ht, -⟩ := State.frames_cons hr
      show T.setVm s.vm = { ((T.setVm s.vm).setFrames (.invoking m args :: below)).setFrames (T.setVm s.vm).frames with heap := T.heap, slotsUsed := T.slotsUsed }
      rw [State.setFrames_setFrames, State.setFrames_self ht]
      rfl
    · show T.slotsUsed = T.slotsUsed + ((T.heap.toList.drop T.heap.size).map (·.slots.size)).sum
      rw [List.drop_eq_nil_of_le (Nat.le_of_eq Array.length_toList)]
      rfl
    · show ((T.heap.toList.drop T.heap.size).map (·.slots.size)).sum ≤ 0
      rw [List.drop_eq_nil_of_le (Nat.le_of_eq Array.length_toList)]
      exact Nat.le_refl _
/-- 'throw new E()': new; dup; invokespecial; athrow -/
theorem vx_throw0 {cc : ByteArray} {pc : Nat} (hexec : p.tables.exec = Jvm.exec) (hb : c.code = cc) (hl : l.stackTraces = false) {own cls : String} {names : List String} {ik ic mc ms : Nat} {A : Nat → Prop}
    (hown : s.vm.findClass own = some m.cls) (hcls : Bundle.fit cls = true) (hnames : ∀ n ∈ names, Bundle.fit n = true)
    (hk : (Cond.classLink own ik cls).before args s = true) (hini : (Cond.initialized cls).before args s = true) (hat : ∀ w ∈ vx_at0 own ic cls names, w.before args s = true)
    (hgood : ∀ w ∈ Cond.classLink own ik cls :: Cond.initialized cls :: vx_at0 own ic cls names, vx_ot w = true)
    (hU : vx_Zq Bundle.tN "UNASSIGNED_STACK" Bundle.steD A s s.heap) (hN : vx_Zq Bundle.tN "SUPPRESSED_SENTINEL" Bundle.listD A s s.heap) (hS : va_S A s.heap H locs) (hsize : ls.size = c.maxLocals)
    (d0 : decode cc pc = .ok (.new ik, 3)) (d3 : decode cc (pc + 3) = .ok (.dup, 1)) (d4 : decode cc (pc + 4) = .ok (.invokespecial ic, 3)) (d7 : decode cc (pc + 7) = .ok (.athrow, 1))
    (hout : ∀ x ∈ c.exceptionTable.toList, covers x (pc + 7) = false)
    (hRframes : names.length + 3 < R.frames) (hRlocals : (rest.map fun v => v.category).sum + (13 * (names.length + 1) + 42) ≤ R.locals) (hRcells : cells + 1 ≤ R.cells) (hRslots : slots + 6 ≤ R.slots) (hlocks : meth.locks = false)
    (hx : ∀ t : State, s.vm.Alike t.vm → H.size ≤ t.heap.size → (∀ q : Nat, q < H.size → t.heap[q]? = H[q]?) → XC cls s t)
    (hf : ∀ z ∈ locs, free z.base) (hc : cells + 1 ≤ mc) (hs : slots + 6 ≤ ms) :
    W p l e R s m args below meth c H locs cells slots (vx_MQ below Qc XC args s mc ms free) (F0 m pc ls rest) := by
  intro T hT X
  have htr : e.platform.stackTraces = false := (show e.platform.stackTraces = l.stackTraces by rw [X.admits.platform]).trans hl
  have Y := vx_rebase X (R' := { frames := R.frames, locals := R.locals, cells := 1, slots := 6 }) (Nat.le_refl _) (Nat.le_refl _) hRcells hRslots
  obtain ⟨s', hA⟩ : ∃ z, z = (T.setVm s.vm).setFrames (.invoking m args :: below) := ⟨_, rfl⟩
  rw [← hA] at Y
  have hvm : s'.vm = s.vm := by rw [hA]; rfl
  have hhp : s'.heap = H := by rw [hA]; exact hT
  have hW0 : s.WarmedH s'.vm := by rw [hvm]; exact State.WarmedH.refl s
  have hat' : ∀ w ∈ vx_at0 own ic cls names, w.before args s' = true := fun w hw => vx_ot_at hW0 hvm.symm (hgood w (List.mem_cons_of_mem _ (List.mem_cons_of_mem _ hw))) (hat w hw)
  have hk' : (Cond.classLink own ik cls).before args s' = true := vx_ot_at hW0 hvm.symm (hgood _ List.mem_cons_self) hk
  have hini' : (Cond.initialized cls).before args s' = true := vx_ot_at hW0 hvm.symm (hgood _ (List.mem_cons_of_mem _ List.mem_cons_self)) hini
  have hU' : vx_Zq Bundle.tN "UNASSIGNED_STACK" Bundle.steD A s' s'.heap := by rw [hhp]; exact vx_Zq.moved hW0.alike (hU.kept hS.2.1)
  have hN' : vx_Zq Bundle.tN "SUPPRESSED_SENTINEL" Bundle.listD A s' s'.heap := by rw [hhp]; exact vx_Zq.moved hW0.alike (hN.kept hS.2.1)
  have h : ∀ w ∈ Bundle.ownAtoms0 own ic cls names, w.before args s' = true := vx_own hat' (vx_isRefq hU'.1) (vx_isRefq hN'.1) hU'.2.word hN'.2.word
  have hown' : s'.vm.findClass own = some m.cls := by rw [hvm]; exact hown
  have hins : (Cond.instantiable cls 6).before args s' = true := h _ (by simp [Bundle.ownAtoms0])
  obtain ⟨vm₁, cX, kX, hfX, hkX, -, -, X₁, st1⟩ := Y.newCold hexec (own := own) (C := cls) (index := ik) (n := 6) hown' hk' hins hini'
    (g := F0 m pc ls rest) rfl (by rw [hb]; exact d0) (Nat.le_refl _) (Nat.le_refl _)
  generalize hT1 : (T.setVm vm₁).pushCell { cls := cX, slots := kX.instanceTypes.map defaultValue, vm := .none } = T1 at X₁ st1
  have hcat : (Value.ref T.heap.size).category = 1 := rfl
  have hcellA : T1.heap[T.heap.size]? = some (freshCell cX kX) := by rw [← hT1]; exact State.heap_pushCell_size _ _
  have d3' : decode c.code (pc + 3) = .ok (.dup, 1) := by rw [hb]; exact d3
  obtain ⟨U, hsteps, hrun, hend, hW, hsame, ce, hce, hO⟩ := X₁.ctorThrow0 hexec htr (own := own) (cls := cls) (names := names) (ic := ic) hown' hcls hnames h (fun x hx => nomatch hx) hfX hkX hcellA (by rw [hhp, hT]; exact Nat.le_refl _)
    (g := { method := m, pc := pc + 4, locals := ls, stack := .ref T.heap.size :: .ref T.heap.size :: rest, locked := none }) rfl hsize rfl rfl (rest := rest) rfl
    (by rw [hb]; exact d4) (by rw [hb]; exact d7) hout hRframes (by simp only [List.map_cons, List.sum_cons, hcat]; omega) hlocks
  obtain ⟨f1, f2⟩ := vx_frame hsame
  rw [hhp] at f1 f2
  have hWs : s.WarmedH U.vm := State.WarmedH.trans hW0 hW
  have hcl : s.vm.findClass cls = some ce.cls := by
    have h9 := hO.cls
    rw [hvm] at h9
    exact h9
  have hall : s.sameButNew ({ U with vm := s.vm } : State) locs mc ms := by
    subst hA
    obtain ⟨e1, e2⟩ := hsame
    rw [State.setFrames_setFrames] at e1
    have h2 : (T.setVm s.vm).sameButNew ({ U with vm := s.vm } : State) [] (0 + 1) (0 + 6) := ⟨e1, e2⟩
    have h3 := X.same.trans h2
    rw [List.append_nil] at h3
    exact h3.mono hc hs
  refine ⟨U, ?_, .threw T.heap.size, hrun, hend, Or.inr ⟨T.heap.size, rfl, cls, ce, locs, hx U hWs.alike f1 (fun q hq => f2 q hq (fun z hz => nomatch hz)), hce, hO.vm, hcl, hWs, hall, hf⟩⟩
  refine st1 _ ?_
  show Steps p.tables e below (T1.setTop { method := m, pc := pc + 3, locals := ls, stack := .ref T.heap.size :: rest, locked := none }) _
  jvm_step X₁.here [X₁.here.top, hexec, d3', Value.category]
  exact hsteps
/-- 'throw new E("text")': new; dup; ldc; invokespecial; athrow -/
theorem vx_throwS {cc : ByteArray} {pc : Nat} (hexec : p.tables.exec = Jvm.exec) (hb : c.code = cc) (hl : l.stackTraces = false) {own cls text : String} {names : List String} {ik is ic mc ms sa : Nat} {A : Nat → Prop}
    (hown : s.vm.findClass own = some m.cls) (hcls : Bundle.fit cls = true) (hnames : ∀ n ∈ names, Bundle.fit n = true)
    (hk : (Cond.classLink own ik cls).before args s = true) (hini : (Cond.initialized cls).before args s = true) (hstr : vk_R own is text sa s) (hat : ∀ w ∈ vx_atS own ic cls names, w.before args s = true)
    (hgood : ∀ w ∈ Cond.classLink own ik cls :: Cond.initialized cls :: vx_atS own ic cls names, vx_ot w = true)
    (hU : vx_Zq Bundle.tN "UNASSIGNED_STACK" Bundle.steD A s s.heap) (hN : vx_Zq Bundle.tN "SUPPRESSED_SENTINEL" Bundle.listD A s s.heap) (hS : va_S A s.heap H locs) (hsize : ls.size = c.maxLocals)
    (d0 : decode cc pc = .ok (.new ik, 3)) (d3 : decode cc (pc + 3) = .ok (.dup, 1)) (d4 : decode cc (pc + 4) = .ok (.ldc is, 2)) (d6 : decode cc (pc + 6) = .ok (.invokespecial ic, 3)) (d9 : decode cc (pc + 9) = .ok (.athrow, 1))
    (hout : ∀ x ∈ c.exceptionTable.toList, covers x (pc + 9) = false)
    (hRframes : names.length + 3 < R.frames) (hRlocals : (rest.map fun v => v.category).sum + (13 * (names.length + 1) + 43) ≤ R.locals) (hRcells : cells + 1 ≤ R.cells) (hRslots : slots + 6 ≤ R.slots) (hlocks : meth.locks = false)
    (hx : ∀ t : State, s.vm.Alike t.vm → H.size ≤ t.heap.size → (∀ q : Nat, q < H.size → t.heap[q]? = H[q]?) → XC cls s t)
    (hf : ∀ z ∈ locs, free z.base) (hc : cells + 1 ≤ mc) (hs : slots + 6 ≤ ms) :
    W p l e R s m args below meth c H locs cells slots (vx_MQ below Qc XC args s mc ms free) (F0 m pc ls rest) := by
  intro T hT X
  have htr : e.platform.stackTraces = false := (show e.platform.stackTraces = l.stackTraces by rw [X.admits.platform]).trans hl
  have Y := vx_rebase X (R' := { frames := R.frames, locals := R.locals, cells := 1, slots := 6 }) (Nat.le_refl _) (Nat.le_refl _) hRcells hRslots
  obtain ⟨s', hA⟩ : ∃ z, z = (T.setVm s.vm).setFrames (.invoking m args :: below) := ⟨_, rfl⟩
  rw [← hA] at Y
  have hvm : s'.vm = s.vm := by rw [hA]; rfl
  have hhp : s'.heap = H := by rw [hA]; exact hT
  have hW0 : s.WarmedH s'.vm := by rw [hvm]; exact State.WarmedH.refl s
  have hat' : ∀ w ∈ vx_atS own ic cls names, w.before args s' = true := fun w hw => vx_ot_at hW0 hvm.symm (hgood w (List.mem_cons_of_mem _ (List.mem_cons_of_mem _ hw))) (hat w hw)
  have hk' : (Cond.classLink own ik cls).before args s' = true := vx_ot_at hW0 hvm.symm (hgood _ List.mem_cons_self) hk
  have hini' : (Cond.initialized cls).before args s' = true := vx_ot_at hW0 hvm.symm (hgood _ (List.mem_cons_of_mem _ List.mem_cons_self)) hini
  have hU' : vx_Zq Bundle.tN "UNASSIGNED_STACK" Bundle.steD A s' s'.heap := by rw [hhp]; exact vx_Zq.moved hW0.alike (hU.kept hS.2.1)
  have hN' : vx_Zq Bundle.tN "SUPPRESSED_SENTINEL" Bundle.listD A s' s'.heap := by rw [hhp]; exact vx_Zq.moved hW0.alike (hN.kept hS.2.1)
  have h : ∀ w ∈ Bundle.ownAtoms own ic cls names, w.before args s' = true := vx_own hat' (vx_isRefq hU'.1) (vx_isRefq hN'.1) hU'.2.word hN'.2.word
  have hown' : s'.vm.findClass own = some m.cls := by rw [hvm]; exact hown
  have hins : (Cond.instantiable cls 6).before args s' = true := h _ (by simp [Bundle.ownAtoms])
  obtain ⟨vm₁, cX, kX, hfX, hkX, -, -, X₁, st1⟩ := Y.newCold hexec (own := own) (C := cls) (index := ik) (n := 6) hown' hk' hins hini'
    (g := F0 m pc ls rest) rfl (by rw [hb]; exact d0) (Nat.le_refl _) (Nat.le_refl _)
  generalize hT1 : (T.setVm vm₁).pushCell { cls := cX, slots := kX.instanceTypes.map defaultValue, vm := .none } = T1 at X₁ st1
  have hcat : (Value.ref T.heap.size).category = 1 := rfl
  have hcellA : T1.heap[T.heap.size]? = some (freshCell cX kX) := by rw [← hT1]; exact State.heap_pushCell_size _ _
  have d3' : decode c.code (pc + 3) = .ok (.dup, 1) := by rw [hb]; exact d3
  have d4' : decode c.code (pc + 4) = .ok (.ldc is, 2) := by rw [hb]; exact d4
  have hstr' : vk_R own is text sa s' := vk_R.warm hW0 hstr
  obtain ⟨U, hsteps, hrun, hend, hW, hsame, ce, hce, hO⟩ := X₁.ctorThrowS hexec htr (own := own) (cls := cls) (names := names) (ic := ic) hown' hcls hnames h (fun x hx => nomatch hx) hfX hkX hcellA (by rw [hhp, hT]; exact Nat.le_refl _) (msg := .ref sa) rfl
    (g := { method := m, pc := pc + 6, locals := ls, stack := .ref sa :: .ref T.heap.size :: .ref T.heap.size :: rest, locked := none }) rfl hsize rfl rfl (rest := rest) rfl
    (by rw [hb]; exact d6) (by rw [hb]; exact d9) hout hRframes (by simp only [List.map_cons, List.sum_cons, hcat]; omega) hlocks
  obtain ⟨f1, f2⟩ := vx_frame hsame
  rw [hhp] at f1 f2
  have hWs : s.WarmedH U.vm := State.WarmedH.trans hW0 hW
  have hcl : s.vm.findClass cls = some ce.cls := by
    have h9 := hO.cls
    rw [hvm] at h9
    exact h9
  have hall : s.sameButNew ({ U with vm := s.vm } : State) locs mc ms := by
    subst hA
    obtain ⟨e1, e2⟩ := hsame
    rw [State.setFrames_setFrames] at e1
    have h2 : (T.setVm s.vm).sameButNew ({ U with vm := s.vm } : State) [] (0 + 1) (0 + 6) := ⟨e1, e2⟩
    have h3 := X.same.trans h2
    rw [List.append_nil] at h3
    exact h3.mono hc hs
  refine ⟨U, ?_, .threw T.heap.size, hrun, hend, Or.inr ⟨T.heap.size, rfl, cls, ce, locs, hx U hWs.alike f1 (fun q hq => f2 q hq (fun z hz => nomatch hz)), hce, hO.vm, hcl, hWs, hall, hf⟩⟩
  refine st1 _ ?_
  show Steps p.tables e below (T1.setTop { method := m, pc := pc + 3, locals := ls, stack := .ref T.heap.size :: rest, locked := none }) _
  jvm_step X₁.here [X₁.here.top, hexec, d3', Value.category]
  exact X₁.ldcString hexec (own := own) (text := text) (index := is) (a := sa) hown' hstr'.1 hstr'.2
    (g := { method := m, pc := pc + 4, locals := ls, stack := .ref T.heap.size :: .ref T.heap.size :: rest, locked := none }) rfl d4' _ hsteps
/-- 'throw new E("text")', the text by a wide index -/
theorem vx_throwSW {cc : ByteArray} {pc : Nat} (hexec : p.tables.exec = Jvm.exec) (hb : c.code = cc) (hl : l.stackTraces = false) {own cls text : String} {names : List String} {ik is ic mc ms sa : Nat} {A : Nat → Prop}
    (hown : s.vm.findClass own = some m.cls) (hcls : Bundle.fit cls = true) (hnames : ∀ n ∈ names, Bundle.fit n = true)
    (hk : (Cond.classLink own ik cls).before args s = true) (hini : (Cond.initialized cls).before args s = true) (hstr : vk_R own is text sa s) (hat : ∀ w ∈ vx_atS own ic cls names, w.before args s = true)
    (hgood : ∀ w ∈ Cond.classLink own ik cls :: Cond.initialized cls :: vx_atS own ic cls names, vx_ot w = true)
    (hU : vx_Zq Bundle.tN "UNASSIGNED_STACK" Bundle.steD A s s.heap) (hN : vx_Zq Bundle.tN "SUPPRESSED_SENTINEL" Bundle.listD A s s.heap) (hS : va_S A s.heap H locs) (hsize : ls.size = c.maxLocals)
    (d0 : decode cc pc = .ok (.new ik, 3)) (d3 : decode cc (pc + 3) = .ok (.dup, 1)) (d4 : decode cc (pc + 4) = .ok (.ldc_w is, 3)) (d7 : decode cc (pc + 7) = .ok (.invokespecial ic, 3)) (d10 : decode cc (pc + 10) = .ok (.athrow, 1))
    (hout : ∀ x ∈ c.exceptionTable.toList, covers x (pc + 10) = false)
    (hRframes : names.length + 3 < R.frames) (hRlocals : (rest.map fun v => v.category).sum + (13 * (names.length + 1) + 43) ≤ R.locals) (hRcells : cells + 1 ≤ R.cells) (hRslots : slots + 6 ≤ R.slots) (hlocks : meth.locks = false)
    (hx : ∀ t : State, s.vm.Alike t.vm → H.size ≤ t.heap.size → (∀ q : Nat, q < H.size → t.heap[q]? = H[q]?) → XC cls s t)
    (hf : ∀ z ∈ locs, free z.base) (hc : cells + 1 ≤ mc) (hs : slots + 6 ≤ ms) :
    W p l e R s m args below meth c H locs cells slots (vx_MQ below Qc XC args s mc ms free) (F0 m pc ls rest) := by
  intro T hT X
  have htr : e.platform.stackTraces = false := (show e.platform.stackTraces = l.stackTraces by rw [X.admits.platform]).trans hl
  have Y := vx_rebase X (R' := { frames := R.frames, locals := R.locals, cells := 1, slots := 6 }) (Nat.le_refl _) (Nat.le_refl _) hRcells hRslots
  obtain ⟨s', hA⟩ : ∃ z, z = (T.setVm s.vm).setFrames (.invoking m args :: below) := ⟨_, rfl⟩
  rw [← hA] at Y
  have hvm : s'.vm = s.vm := by rw [hA]; rfl
  have hhp : s'.heap = H := by rw [hA]; exact hT
  have hW0 : s.WarmedH s'.vm := by rw [hvm]; exact State.WarmedH.refl s
  have hat' : ∀ w ∈ vx_atS own ic cls names, w.before args s' = true := fun w hw => vx_ot_at hW0 hvm.symm (hgood w (List.mem_cons_of_mem _ (List.mem_cons_of_mem _ hw))) (hat w hw)
  have hk' : (Cond.classLink own ik cls).before args s' = true := vx_ot_at hW0 hvm.symm (hgood _ List.mem_cons_self) hk
  have hini' : (Cond.initialized cls).before args s' = true := vx_ot_at hW0 hvm.symm (hgood _ (List.mem_cons_of_mem _ List.mem_cons_self)) hini
  have hU' : vx_Zq Bundle.tN "UNASSIGNED_STACK" Bundle.steD A s' s'.heap := by rw [hhp]; exact vx_Zq.moved hW0.alike (hU.kept hS.2.1)
  have hN' : vx_Zq Bundle.tN "SUPPRESSED_SENTINEL" Bundle.listD A s' s'.heap := by rw [hhp]; exact vx_Zq.moved hW0.alike (hN.kept hS.2.1)
  have h : ∀ w ∈ Bundle.ownAtoms own ic cls names, w.before args s' = true := vx_own hat' (vx_isRefq hU'.1) (vx_isRefq hN'.1) hU'.2.word hN'.2.word
  have hown' : s'.vm.findClass own = some m.cls := by rw [hvm]; exact hown
  have hins : (Cond.instantiable cls 6).before args s' = true := h _ (by simp [Bundle.ownAtoms])
  obtain ⟨vm₁, cX, kX, hfX, hkX, -, -, X₁, st1⟩ := Y.newCold hexec (own := own) (C := cls) (index := ik) (n := 6) hown' hk' hins hini'
    (g := F0 m pc ls rest) rfl (by rw [hb]; exact d0) (Nat.le_refl _) (Nat.le_refl _)
  generalize hT1 : (T.setVm vm₁).pushCell { cls := cX, slots := kX.instanceTypes.map defaultValue, vm := .none } = T1 at X₁ st1
  have hcat : (Value.ref T.heap.size).category = 1 := rfl
  have hcellA : T1.heap[T.heap.size]? = some (freshCell cX kX) := by rw [← hT1]; exact State.heap_pushCell_size _ _
  have d3' : decode c.code (pc + 3) = .ok (.dup, 1) := by rw [hb]; exact d3
  have d4' : decode c.code (pc + 4) = .ok (.ldc_w is, 3) := by rw [hb]; exact d4
  have hstr' : vk_R own is text sa s' := vk_R.warm hW0 hstr
  obtain ⟨U, hsteps, hrun, hend, hW, hsame, ce, hce, hO⟩ := X₁.ctorThrowS hexec htr (own := own) (cls := cls) (names := names) (ic := ic) hown' hcls hnames h (fun x hx => nomatch hx) hfX hkX hcellA (by rw [hhp, hT]; exact Nat.le_refl _) (msg := .ref sa) rfl
    (g := { method := m, pc := pc + 7, locals := ls, stack := .ref sa :: .ref T.heap.size :: .ref T.heap.size :: rest, locked := none }) rfl hsize rfl rfl (rest := rest) rfl
    (by rw [hb]; exact d7) (by rw [hb]; exact d10) hout hRframes (by simp only [List.map_cons, List.sum_cons, hcat]; omega) hlocks
  obtain ⟨f1, f2⟩ := vx_frame hsame
  rw [hhp] at f1 f2
  have hWs : s.WarmedH U.vm := State.WarmedH.trans hW0 hW
  have hcl : s.vm.findClass cls = some ce.cls := by
    have h9 := hO.cls
    rw [hvm] at h9
    exact h9
  have hall : s.sameButNew ({ U with vm := s.vm } : State) locs mc ms := by
    subst hA
    obtain ⟨e1, e2⟩ := hsame
    rw [State.setFrames_setFrames] at e1
    have h2 : (T.setVm s.vm).sameButNew ({ U with vm := s.vm } : State) [] (0 + 1) (0 + 6) := ⟨e1, e2⟩
    have h3 := X.same.trans h2
    rw [List.append_nil] at h3
    exact h3.mono hc hs
  refine ⟨U, ?_, .threw T.heap.size, hrun, hend, Or.inr ⟨T.heap.size, rfl, cls, ce, locs, hx U hWs.alike f1 (fun q hq => f2 q hq (fun z hz => nomatch hz)), hce, hO.vm, hcl, hWs, hall, hf⟩⟩
  refine st1 _ ?_
  show Steps p.tables e below (T1.setTop { method := m, pc := pc + 3, locals := ls, stack := .ref T.heap.size :: rest, locked := none }) _
  jvm_step X₁.here [X₁.here.top, hexec, d3', Value.category]
  exact X₁.ldcStringW hexec (own := own) (text := text) (index := is) (a := sa) hown' hstr'.1 hstr'.2
    (g := { method := m, pc := pc + 4, locals := ls, stack := .ref T.heap.size :: .ref T.heap.size :: rest, locked := none }) rfl d4' _ hsteps
end Ends
section Bodies
variable {l : Launch}
theorem vx_ofW {y : MethodName} {ws ws' : List Cond} {rm : Room} {Pc : Array Value → State → Prop} {Qc : Array Value → State → Outcome → State → Prop} {XC : String → State → State → Prop} {mc ms : Nat} {free : Addr → Prop} {cc : ByteArray} {maxL : Nat} {ret : Option FieldType}
    (hy : plainName y.cls = true) (hw : ws = Cond.code y cc maxL ret :: ws')
    (body : ∀ p e s m args below meth c s₁, BodyLoose p l y (headSpec ws rm) cc maxL ret e s m args below meth c s₁ → c.maxLocals = maxL → (∀ x ∈ c.exceptionTable.toList, False) → Pc args s →
      W p l e (headSpec ws rm).room s m args below meth c s.heap [] 0 0 (vx_MQ below Qc XC args s mc ms free) (entryFrame m args maxL)) : vx_Met l y ws rm Pc Qc XC mc ms free := by
  refine MetFree.of_bodyS (code := cc) (maxLocals := maxL) (ret := ret) hy ?_ ?_
  · intro args s m h hn
    obtain ⟨meth, c, h1, h2, h3, h4, h5, h6, -, -⟩ := Cond.code_spec hn (atoms_spec (ws := ws) h _ (by rw [hw]; exact List.mem_cons_self))
    exact ⟨meth, c, h1, h2, h3, h4, h5, h6⟩
  · intro p e s m args below meth c s₁ B hml hP _
    have hh0 : s₁.heap = s.heap := by rw [B.state]; rfl
    have ht : ∀ x ∈ c.exceptionTable.toList, False := by
      obtain ⟨meth9, c9, h1, h2, -, -, -, -, h7, -⟩ := Cond.code_spec B.named (atoms_spec (ws := ws) B.pre _ (by rw [hw]; exact List.mem_cons_self))
      cases Option.some.inj (h1.symm.trans B.method)
      cases Option.some.inj (h2.symm.trans (Stand.of_body B).code)
      intro x hx
      rw [Array.isEmpty_iff.mp h7] at hx
      cases hx
    obtain ⟨t, a1, o, b1, b2, b3⟩ := body p e s m args below meth c s₁ B hml ht hP s₁ hh0 (Stand.of_body B)
    exact ⟨t, o, a1, b1, b2, b3⟩
/-- the table of a body with handlers -/
theorem vx_table {p : Program} {x y : MethodName} {S : Spec} {cc bytes : ByteArray} {maxL maxL' : Nat} {ret ret' : Option FieldType} {e : Env} {s s₁ : State} {m : MethodId} {args : Array Value} {below : List Frame} {meth : Method} {c : Code} {hh : List (Nat × Nat × Nat × Nat)}
    (B : BodyLoose p l y S cc maxL ret e s m args below meth c s₁) (h : (Cond.codeWith y bytes maxL' ret' hh).before args s = true) : c.exceptionTable.toList = tableOf hh := by
  obtain ⟨m9, meth9, c9, hn9, h1, h2, -, -, h6, -⟩ := Cond.codeWith_spec h
  cases Option.some.inj (hn9.symm.trans B.named)
  cases Option.some.inj (h1.symm.trans B.method)
  cases Option.some.inj (h2.symm.trans (Stand.of_body B).code)
  rw [← h6, table_eq]
end Bodies
end VXA
/-! ===== END ===== -/
/-! ===== BEGIN a static call of a method with an exception table ===== -/
section VXS
variable {p : Program} {l : Launch} {e : Env} {R : Room} {s : State} {m : MethodId} {args : Array Value} {below : List Frame} {meth : Method} {c : Code} {T : State} {H : Heap} {locs : List Loc} {cells slots : Nat}
abbrev vx_CSW (R : Room) (s : State) (args : Array Value) (own : String) (index : Nat) (y : MethodName) (bytes : ByteArray) (maxL : Nat) (ret : Option FieldType) (hh : List (Nat × Nat × Nat × Nat)) (ws : List Cond) (rm : Room) (mc ms n : Nat) : Prop :=
  (rm.cells = mc ∧ rm.slots = ms ∧ rm.frames + 1 ≤ R.frames ∧ 8 + (maxL + 11) + rm.locals ≤ R.locals ∧ (∀ w ∈ ws, ∀ (a' : Array Value) (U : State), s.WarmedH U.vm → w.before a' U = true) ∧ Cond.codeWith y bytes maxL ret hh ∈ ws) ∧
  (Cond.codeWith y bytes maxL ret hh).before args s = true ∧ (Cond.initialized y.cls).before args s = true ∧ (y.cls ≠ "java/lang/invoke/MethodHandle" ∧ y.cls ≠ "java/lang/invoke/VarHandle") ∧
  (∀ sig, parseMethodDescriptor y.desc = some sig → n = sig.parameters.length) ∧ (Cond.methodLink own index y).before args s = true ∧ (Cond.static y).before args s = true
theorem vx_cwSW {own : String} {index maxL mc ms : Nat} {y : MethodName} {bytes : ByteArray} {ret : Option FieldType} {hh : List (Nat × Nat × Nat × Nat)} {Ts ws ws' : List Cond} {rm : Room} (n : Nat) (ht : ∀ w ∈ Ts, w.before args s = true) (hT : GoodIn Ts (va_wsS own index y ws)) (hw : ws = Cond.codeWith y bytes maxL ret hh :: ws') (hrc : rm.cells = mc) (hrs : rm.slots = ms)
    (hd : y.cls ≠ "java/lang/invoke/MethodHandle" ∧ y.cls ≠ "java/lang/invoke/VarHandle" ∧ (parseMethodDescriptor y.desc).map (fun d => d.parameters.length) = some n) (hR : rm.frames + 1 ≤ R.frames ∧ 8 + (maxL + 11) + rm.locals ≤ R.locals) :
    vx_CSW R s args own index y bytes maxL ret hh ws rm mc ms n := by
  have ok : ∀ w ∈ va_wsS own index y ws, w.before args s = true := fun w h => ht w (hT w h).1
  have hG : GoodIn Ts ws := fun w h => hT w (by unfold va_wsS; exact List.mem_append_right _ h)
  have hc : Cond.codeWith y bytes maxL ret hh ∈ ws := by rw [hw]; exact List.mem_cons_self
  refine ⟨⟨hrc, hrs, hR.1, hR.2, pay_in ht hG, hc⟩, ht _ (hG _ hc).1, ok _ (by simp [va_wsS]), ⟨hd.1, hd.2.1⟩, fun sig h => ?_, ok _ (by simp [va_wsS]), ok _ (by simp [va_wsS])⟩
  have h2 := hd.2.2
  rw [h] at h2
  exact (Option.some.inj h2).symm
theorem vx_callSW (X : Stand p l e R s m args below meth c T locs cells slots) (hexec : p.tables.exec = Jvm.exec) {own : String} {index : Nat} {y : MethodName} {bytes : ByteArray} {maxL : Nat} {ret : Option FieldType} {hh : List (Nat × Nat × Nat × Nat)}
    (hown : s.vm.findClass own = some m.cls) (hlink : (Cond.methodLink own index y).before args s = true) (hstat : (Cond.static y).before args s = true) (hinit : (Cond.initialized y.cls).before args s = true)
    (hcode : (Cond.codeWith y bytes maxL ret hh).before args s = true) (hy : y.cls ≠ "java/lang/invoke/MethodHandle" ∧ y.cls ≠ "java/lang/invoke/VarHandle")
    {W9 : Nat} {Pre : Pt → Array Value → Prop} {Post : Pt → Array Value → Option Value → Pt → Prop} (hK : Back l R p e below s args y 3 W9 Pre Post)
    {g : JFrame} (hg : g.method = m) (hsize : g.locals.size = c.maxLocals) {argsL rest : List Value} (hlen : ∀ sig, parseMethodDescriptor y.desc = some sig → argsL.length = sig.parameters.length)
    (hstack : g.stack = argsL.reverse ++ rest) (hW : 2 * g.monitorRoom + (rest.map fun v => v.category).sum ≤ W9) (hdg : decode c.code g.pc = .ok (.invokestatic index, 3))
    (hpre : ∀ vm₁, s.WarmedH vm₁ → Pre ⟨T.setVm vm₁, locs, cells, slots⟩ argsL.toArray) :
    ∃ (v : Option Value) (vm₁ : Vm) (B : Pt), s.WarmedH vm₁ ∧ Stand p l e R s m args below meth c B.U B.locs B.cells B.slots ∧ Post ⟨T.setVm vm₁, locs, cells, slots⟩ argsL.toArray v B ∧
      ∀ target, Steps p.tables e below (B.U.setTop { g with pc := g.pc + 3, stack := v.toList ++ rest }) target → Steps p.tables e below (T.setTop g) target := by
  obtain ⟨mk, methM, cM, hnamed, hmethM, -, -, -, -, -, -, hsigM⟩ := Cond.codeWith_spec hcode
  have hstatic : methM.isStatic = true := Cond.static_spec hnamed hmethM hstat
  obtain ⟨kP, hkP, -⟩ := className_of_methodNamed hnamed
  have hinitP : kP.init = .initialized := Cond.initialized_spec (findClass_of_methodNamed hnamed) hkP hinit
  obtain ⟨vm₁, X₁, hstep₁⟩ := X.invokestatic hexec hown hlink hnamed hmethM hstatic hkP hinitP hy (g := g) hg (argsL := argsL) (rest := rest) (hlen _ hsigM) hstack hdg
  obtain ⟨v, B, X', hpost, hsteps⟩ := hK m meth c ⟨T.setVm vm₁, locs, cells, slots⟩ { g with stack := rest } (.invokestatic index) mk argsL.toArray X₁ hg hsize hdg hW (X₁.named hnamed) (hpre vm₁ X₁.warmed)
  exact ⟨v, vm₁, B, X₁.warmed, X', hpost, fun target h => hstep₁ _ fun acts => by rw [doInvoke_state]; exact hsteps.trans h⟩
theorem vx_runSW {y : MethodName} {bytes cc : ByteArray} {maxL nL mc ms n index : Nat} {ret : Option FieldType} {hh : List (Nat × Nat × Nat × Nat)} {ws : List Cond} {rm : Room} {Pc : Array Value → State → Prop} {Qc : Array Value → State → Outcome → State → Prop} {free : Addr → Prop} {Ts : List Cond} {own : String} {As rest : List Value} {g : JFrame}
    (S : CallFix p m c cc nL s args Ts own) (hM : Met l y ws rm Pc Qc mc ms free) (cw : vx_CSW R s args own index y bytes maxL ret hh ws rm mc ms n) (hp : PreS s H Pc As)
    (hg : g.method = m) (hn : As.length = n) (hsize : g.locals.size = nL) (hstack : g.stack = As.reverse ++ rest) (hW : 2 * g.monitorRoom + (rest.map fun v => v.category).sum ≤ 8) (hdg : decode cc g.pc = .ok (.invokestatic index, 3)) (hf : cells + mc ≤ R.cells ∧ slots + ms ≤ R.slots) :
    va_Run p l e R s m args below meth c H locs cells slots mc ms g rest (Qc As.toArray) (free) := by
  obtain ⟨⟨hrc, hrs, hfr, hlo, hws, hcw⟩, hcode, hini, hy, hlen, hl, hstt⟩ := cw
  have hK : Back l R p e below s args y 3 8 (PreOf R mc ms Pc) (PostOf Qc mc ms free) := va_backW (hh := hh) (bytes := bytes) (maxL := maxL) (ret := ret) hM hp.1 hrc hrs hfr hlo hws hcw (fun a' U hW => word_at hW (Or.inl (by first | rfl | simp [Cond.onTables, Cond.keeps, Cond.steady])) hini)
  obtain ⟨hx, hb, hml, ho, -⟩ := S
  intro T hT X
  obtain ⟨v, vm₁, ⟨U', l2, c2, s2⟩, hW₁, X', ⟨g', mk, t, L, e1, e2, hq, h1, hL, h2, h3⟩, st⟩ := vx_callSW X hx (hh := hh) (bytes := bytes) (maxL := maxL) (ret := ret) ho hl hstt hini hcode hy hK hg (hsize.trans hml.symm) (argsL := As) (rest := rest) (fun sig h => hn.trans (hlen sig h)) hstack hW (by rw [hb]; exact hdg)
    (fun vm₁ hW₁ => ⟨hf.1, hf.2, hp.2 (T.setVm vm₁) hT hW₁⟩)
  dsimp only [Pt.U, Pt.locs, Pt.cells, Pt.slots] at X' e1 e2 h1 h2 h3 st
  subst h1; subst h2; subst h3
  exact ⟨v, (T.setVm vm₁).calling g' mk As.toArray, t, U', L, hT, X', hL, e1, e2, hq, st⟩
theorem vx_lt {D : va_G} {cl : List vw_C} {ws : va_W} {H1 : Heap} (h : va_P D cl ws H1) {k : Nat} {q : Nat × va_E} (hk : ws[k]? = some q) : q.1 < H1.size := (h k q hk).lt
end VXS
/-! ===== END ===== -/
end
section
/-! An exception of a callee, caught by the one row of this method's own table (my own row: the search, then one step of the unwinding). -/
section VCC
variable {p : Program} {l : Launch} {e : Env} {R : Room} {s : State} {m : MethodId} {args : Array Value} {below : List Frame} {meth : Method} {c : Code} {H : Heap} {locs : List Loc} {cells slots : Nat} {Q : State → Prop}
theorem vc_find {S : State} {g : JFrame} {q : Addr} {x : ExceptionTableEntry} {k : ClassId} {ce : Cell} (hm : S.vm.method? g.method = some meth) (hc : meth.code = some c) (htab : c.exceptionTable.toList = [x]) (hx : covers x g.pc = true) (h0 : x.catchType ≠ 0)
    (hl : S.vm.ClassLinks e.platform g.method.cls x.catchType k) (hcell : S.heap[q]? = some ce) (hobj : ∀ z, ce.vm ≠ .statics z) (hk : ∃ z, S.vm.classes[ce.cls]? = some z) (hc2 : ∃ z, S.vm.classes[k]? = some z) (hfit : S.vm.assignable ce.cls k = true)
    (P : Handler → Pre) (E : CtlPost) (d : Bool) (acts : List Action) :
    wp (findHandler g q) P E e d acts S ↔ P (.found x.handlerPc) d acts (S.setVm (S.vm.noted g.method.cls x.catchType (.cls k))) := by
  rw [Jvm.W.findHandler_eq hm hc, htab]
  simp only [covers] at hx
  obtain ⟨ha, ht⟩ := (resolveClass_links e.toSetting hl).op (op := VmOp.resolveClass g.method.cls x.catchType) rfl
  have hal : S.vm.Alike (S.vm.noted g.method.cls x.catchType (.cls k)) := (Vm.Alike.refl S.vm).noted _ _ _
  obtain ⟨k1, hk1⟩ := hk
  obtain ⟨k2, hk2⟩ := hc2
  obtain ⟨k3, hk3, -⟩ := hal.2.2 _ _ hk1
  obtain ⟨k4, hk4, -⟩ := hal.2.2 _ _ hk2
  have hfit2 : (S.vm.noted g.method.cls x.catchType (.cls k)).assignable ce.cls k = true := by rw [hal.assignable]; exact hfit
  simp [findHandler.go, hx, h0, ha, ht, hcell, hobj, hk3, hk4, hfit2, VmOp.dirties, VmOp.acts]
theorem vc_step {S : State} {q : Addr} {f : JFrame} {r : List Frame} {pc : Nat} {vm2 : Vm} (hfind : ∀ (P : Handler → Pre) (E : CtlPost) (d : Bool) (acts : List Action), wp (findHandler f q) P E e d acts S ↔ P (.found pc) d acts (S.setVm vm2)) :
    (stepThrowing e S q (.java f :: r)).Is ((S.setVm vm2).setFrames (.java { f with pc := pc, stack := [.ref q] } :: r)) [] := by
  simp only [stepThrowing, searchFrame, vmDo]
  generalize hr : Sem.go _ e false [] S = res
  obtain ⟨as, rfl, ha⟩ := Sem.eq_ok_of hr (a := Handler.found pc) (s' := S.setVm vm2) (acts' := []) (by simp [hfind _ _ _ _])
  exact ⟨rfl, ha⟩
theorem vc_frames (u : State) (vm2 : Vm) (F G : List Frame) : ((u.setFrames F).setVm vm2).setFrames G = (u.setVm vm2).setFrames G := by
  have h1 : (u.setFrames F).setVm vm2 = (u.setVm vm2).setFrames F := rfl
  rw [h1, State.setFrames_setFrames]
theorem vc_catch {own name E : String} {ce : Cell} {q : Addr} {x : ExceptionTableEntry} {pc : Nat} {ls : Array Slot} {rest : List Value} (hown : s.vm.findClass own = some m.cls) (htab : c.exceptionTable.toList = [x]) (hx : covers x pc = true) (h0 : x.catchType ≠ 0)
    (hlink : (Cond.classLink own x.catchType name).before args s = true) (hcast : (Cond.castable E name).before args s = true) (hcell : H[q]? = some ce) (hv : ce.vm = .none) (hcl : s.vm.findClass E = some ce.cls)
    (kk : W p l e R s m args below meth c H locs cells slots Q (F0 m x.handlerPc ls [.ref q])) : vx_W p l e R s m args below meth c H locs cells slots Q (F0 m pc ls rest) q := by
  intro T hT X
  have hpl : e.platform.magicAccessors = ({} : Platform).magicAccessors := by rw [X.admits.platform]
  obtain ⟨c3, c4, hc3, hc4, hasg⟩ := Cond.castable_spec hcast
  cases Option.some.inj (hc3.symm.trans hcl)
  obtain ⟨c5, hc5, hcl5⟩ := Cond.classLink_spec hown hlink e.platform hpl
  cases Option.some.inj (hc4.symm.trans hc5)
  obtain ⟨dk, _, _, kt, hd, _, _, _, _, hkt, _, hopen⟩ := hcl5.here
  have hclT := X.warmed.classLinks hcl5
  have hW2 : s.WarmedH (T.vm.noted m.cls x.catchType (.cls c4)) := X.warmed.noted hd hopen (State.rightAt_cls hcl5)
  have hal := X.warmed.alike
  obtain ⟨kt2, hkt2, -⟩ := hal.2.2 _ _ hkt
  obtain ⟨k9, h9, -⟩ := Vm.findClass_spec hcl
  obtain ⟨k8, h8, -⟩ := hal.2.2 _ _ h9
  obtain ⟨t, a1, b1⟩ := kk (T.setVm (T.vm.noted m.cls x.catchType (.cls c4))) hT (X.noted hW2)
  refine ⟨t, ?_, b1⟩
  have h : At T (F0 m pc ls rest).method c below := X.here
  obtain ⟨hgo, hw⟩ := h.throwing q
  refine Steps.head hgo hw ?_
  have hfind := vc_find (e := e) (S := (T.setTop (F0 m pc ls rest)).pushFrame (.throwing q)) (g := F0 m pc ls rest) (q := q) (x := x) (k := c4) (ce := ce) (meth := meth) (c := c) X.method' X.code htab hx h0 hclT (by show T.heap[q]? = some ce; rw [hT]; exact hcell) (fun z => by rw [hv]; exact fun h => by cases h) ⟨k8, h8⟩ ⟨kt2, hkt2⟩ (show T.vm.assignable ce.cls c4 = true by rw [hal.assignable]; exact hasg)
  rw [stepThread_throwing (frames_entered h.top _), (vc_step (S := (T.setTop (F0 m pc ls rest)).pushFrame (.throwing q)) hfind).1]
  obtain ⟨g₀, hg⟩ := Option.isSome_iff_exists.mp h.top
  obtain ⟨r, hr⟩ := State.topJava?_eq_some.mp hg
  have hr2 : (T.setVm (T.vm.noted m.cls x.catchType (.cls c4))).frames = .java g₀ :: r := hr
  rw [State.setTop_of_frames _ hr2] at a1
  rw [hr, List.tail_cons, State.pushFrame, vc_frames, State.setTop_of_frames _ hr, vc_frames]
  exact a1
end VCC
end
section
def RX0 : String := "PortTimers$Flags"
def TX0 : u_T := fun k => match k with
  | 0 => ("PortTimers$Flags", "raised", "I", false)
  | _ => ("PortTimers$Flags", "enabled", "I", false)
def tyX0 : Nat → FieldType := fun k => match k with
  | 0 => .int
  | _ => .int
abbrev wsX00 : List Cond := u_ws RX0 TX0 2
theorem nmX0 : ∀ a, a < 2 → ∀ b, b < 2 → a ≠ b → (TX0 a).2.1 ≠ (TX0 b).2.1 := by decide +kernel
theorem tyX0_ok : ∀ k, k < 2 → parseFieldDescriptor (TX0 k).2.2.1 = some (tyX0 k) := by decide +kernel
abbrev cX0_init : ByteArray := prog_2_method_1_code
def yX0_init : MethodName := ⟨RX0, "<init>", "()V"⟩
abbrev cX0_clear : ByteArray := prog_2_method_2_code
def yX0_clear : MethodName := ⟨RX0, "clear", "()V"⟩
abbrev cX0_raise : ByteArray := prog_2_method_3_code
def yX0_raise : MethodName := ⟨RX0, "raise", "(I)V"⟩
abbrev cX0_lower : ByteArray := prog_2_method_4_code
def yX0_lower : MethodName := ⟨RX0, "lower", "(I)V"⟩
abbrev cX0_has : ByteArray := prog_2_method_5_code
def yX0_has : MethodName := ⟨RX0, "has", "(I)Z"⟩
abbrev cX0_enable : ByteArray := prog_2_method_6_code
def yX0_enable : MethodName := ⟨RX0, "enable", "(I)V"⟩
abbrev cX0_call : ByteArray := prog_2_method_7_code
def yX0_call : MethodName := ⟨RX0, "call", "()Z"⟩
abbrev cX0_withCall : ByteArray := prog_2_method_8_code
def yX0_withCall : MethodName := ⟨RX0, "withCall", "()I"⟩
def RX1 : String := "PortTimers$Shifter"
def TX1 : u_T := fun k => match k with
  | 0 => ("PortTimers$Shifter", "flags", "LPortTimers$Flags;", true)
  | 1 => ("PortTimers$Shifter", "bits", "I", false)
  | 2 => ("PortTimers$Shifter", "toCome", "I", false)
  | 3 => ("PortTimers$Shifter", "given", "I", false)
  | _ => ("PortTimers$Shifter", "halfway", "Z", false)
def tyX1 : Nat → FieldType := fun k => match k with
  | 0 => .object "PortTimers$Flags"
  | 1 => .int
  | 2 => .int
  | 3 => .int
  | _ => .boolean
abbrev wsX10 : List Cond := u_ws RX1 TX1 5
theorem nmX1 : ∀ a, a < 5 → ∀ b, b < 5 → a ≠ b → (TX1 a).2.1 ≠ (TX1 b).2.1 := by decide +kernel
theorem tyX1_ok : ∀ k, k < 5 → parseFieldDescriptor (TX1 k).2.2.1 = some (tyX1 k) := by decide +kernel
abbrev cX1_init : ByteArray := prog_3_method_1_code
def yX1_init : MethodName := ⟨RX1, "<init>", "(LPortTimers$Flags;)V"⟩
abbrev cX1_clear : ByteArray := prog_3_method_2_code
def yX1_clear : MethodName := ⟨RX1, "clear", "()V"⟩
abbrev cX1_begin : ByteArray := prog_3_method_3_code
def yX1_begin : MethodName := ⟨RX1, "begin", "()V"⟩
abbrev cX1_goOn : ByteArray := prog_3_method_4_code
def yX1_goOn : MethodName := ⟨RX1, "goOn", "(IIZ)V"⟩
abbrev cX1_shift : ByteArray := prog_3_method_5_code
def yX1_shift : MethodName := ⟨RX1, "shift", "(IZ)V"⟩
def RX2 : String := "PortTimers$Side"
def TX2 : u_T := fun k => match k with
  | 0 => ("PortTimers$Side", "flags", "LPortTimers$Flags;", true)
  | 1 => ("PortTimers$Side", "flagOfLine1", "I", true)
  | 2 => ("PortTimers$Side", "flagOfLine2", "I", true)
  | 3 => ("PortTimers$Side", "pins", "I", false)
  | 4 => ("PortTimers$Side", "line1", "Z", false)
  | 5 => ("PortTimers$Side", "line2", "Z", false)
  | 6 => ("PortTimers$Side", "out", "I", false)
  | 7 => ("PortTimers$Side", "directions", "I", false)
  | 8 => ("PortTimers$Side", "ways", "I", false)
  | 9 => ("PortTimers$Side", "heldPins", "I", false)
  | 10 => ("PortTimers$Side", "lowUntilEdge", "Z", false)
  | _ => ("PortTimers$Side", "lowUntilCycle", "Z", false)
def tyX2 : Nat → FieldType := fun k => match k with
  | 0 => .object "PortTimers$Flags"
  | 1 => .int
  | 2 => .int
  | 3 => .int
  | 4 => .boolean
  | 5 => .boolean
  | 6 => .int
  | 7 => .int
  | 8 => .int
  | 9 => .int
  | 10 => .boolean
  | _ => .boolean
abbrev wsX20 : List Cond := u_ws RX2 TX2 12
theorem nmX2 : ∀ a, a < 12 → ∀ b, b < 12 → a ≠ b → (TX2 a).2.1 ≠ (TX2 b).2.1 := by decide +kernel
theorem tyX2_ok : ∀ k, k < 12 → parseFieldDescriptor (TX2 k).2.2.1 = some (tyX2 k) := by decide +kernel
abbrev cX2_init : ByteArray := prog_4_method_1_code
def yX2_init : MethodName := ⟨RX2, "<init>", "(LPortTimers$Flags;II)V"⟩
abbrev cX2_clear : ByteArray := prog_4_method_2_code
def yX2_clear : MethodName := ⟨RX2, "clear", "()V"⟩
abbrev cX2_wayOfLine2 : ByteArray := prog_4_method_3_code
def yX2_wayOfLine2 : MethodName := ⟨RX2, "wayOfLine2", "()I"⟩
abbrev cX2_port : ByteArray := prog_4_method_4_code
def yX2_port : MethodName := ⟨RX2, "port", "(Z)I"⟩
abbrev cX2_touch : ByteArray := prog_4_method_5_code
def yX2_touch : MethodName := ⟨RX2, "touch", "()V"⟩
abbrev cX2_giveTouch : ByteArray := prog_4_method_6_code
def yX2_giveTouch : MethodName := ⟨RX2, "giveTouch", "()V"⟩
abbrev cX2_endCycle : ByteArray := prog_4_method_7_code
def yX2_endCycle : MethodName := ⟨RX2, "endCycle", "()V"⟩
abbrev cX2_moveLine1 : ByteArray := prog_4_method_8_code
def yX2_moveLine1 : MethodName := ⟨RX2, "moveLine1", "(Z)Z"⟩
abbrev cX2_moveLine2 : ByteArray := prog_4_method_9_code
def yX2_moveLine2 : MethodName := ⟨RX2, "moveLine2", "(Z)Z"⟩
abbrev cX2_line2Gives : ByteArray := prog_4_method_10_code
def yX2_line2Gives : MethodName := ⟨RX2, "line2Gives", "()I"⟩
def RX3 : String := "PortTimers$Timer1"
def TX3 : u_T := fun k => match k with
  | 0 => ("PortTimers$Timer1", "flags", "LPortTimers$Flags;", true)
  | 1 => ("PortTimers$Timer1", "count", "I", false)
  | 2 => ("PortTimers$Timer1", "latch", "I", false)
  | 3 => ("PortTimers$Timer1", "bit", "I", false)
  | 4 => ("PortTimers$Timer1", "armed", "Z", false)
  | _ => ("PortTimers$Timer1", "latchIsDue", "Z", false)
def tyX3 : Nat → FieldType := fun k => match k with
  | 0 => .object "PortTimers$Flags"
  | 1 => .int
  | 2 => .int
  | 3 => .int
  | 4 => .boolean
  | _ => .boolean
abbrev wsX30 : List Cond := u_ws RX3 TX3 6
theorem nmX3 : ∀ a, a < 6 → ∀ b, b < 6 → a ≠ b → (TX3 a).2.1 ≠ (TX3 b).2.1 := by decide +kernel
theorem tyX3_ok : ∀ k, k < 6 → parseFieldDescriptor (TX3 k).2.2.1 = some (tyX3 k) := by decide +kernel
abbrev cX3_init : ByteArray := prog_5_method_1_code
def yX3_init : MethodName := ⟨RX3, "<init>", "(LPortTimers$Flags;)V"⟩
abbrev cX3_clear : ByteArray := prog_5_method_2_code
def yX3_clear : MethodName := ⟨RX3, "clear", "()V"⟩
abbrev cX3_latchLow : ByteArray := prog_5_method_3_code
def yX3_latchLow : MethodName := ⟨RX3, "latchLow", "(I)V"⟩
abbrev cX3_latchHigh : ByteArray := prog_5_method_4_code
def yX3_latchHigh : MethodName := ⟨RX3, "latchHigh", "(I)V"⟩
abbrev cX3_start : ByteArray := prog_5_method_5_code
def yX3_start : MethodName := ⟨RX3, "start", "()V"⟩
abbrev cX3_goOn : ByteArray := prog_5_method_6_code
def yX3_goOn : MethodName := ⟨RX3, "goOn", "(IZ)V"⟩
abbrev cX3_runOnce : ByteArray := prog_5_method_7_code
def yX3_runOnce : MethodName := ⟨RX3, "runOnce", "(I)V"⟩
abbrev cX3_runFreely : ByteArray := prog_5_method_8_code
def yX3_runFreely : MethodName := ⟨RX3, "runFreely", "(I)V"⟩
abbrev cX3_runOut : ByteArray := prog_5_method_9_code
def yX3_runOut : MethodName := ⟨RX3, "runOut", "(I)V"⟩
def RX4 : String := "PortTimers$Timer2"
def TX4 : u_T := fun k => match k with
  | 0 => ("PortTimers$Timer2", "flags", "LPortTimers$Flags;", true)
  | 1 => ("PortTimers$Timer2", "count", "I", false)
  | 2 => ("PortTimers$Timer2", "latch", "I", false)
  | _ => ("PortTimers$Timer2", "armed", "Z", false)
def tyX4 : Nat → FieldType := fun k => match k with
  | 0 => .object "PortTimers$Flags"
  | 1 => .int
  | 2 => .int
  | _ => .boolean
abbrev wsX40 : List Cond := u_ws RX4 TX4 4
theorem nmX4 : ∀ a, a < 4 → ∀ b, b < 4 → a ≠ b → (TX4 a).2.1 ≠ (TX4 b).2.1 := by decide +kernel
theorem tyX4_ok : ∀ k, k < 4 → parseFieldDescriptor (TX4 k).2.2.1 = some (tyX4 k) := by decide +kernel
abbrev cX4_init : ByteArray := prog_6_method_1_code
def yX4_init : MethodName := ⟨RX4, "<init>", "(LPortTimers$Flags;)V"⟩
abbrev cX4_clear : ByteArray := prog_6_method_2_code
def yX4_clear : MethodName := ⟨RX4, "clear", "()V"⟩
abbrev cX4_start : ByteArray := prog_6_method_3_code
def yX4_start : MethodName := ⟨RX4, "start", "(I)V"⟩
abbrev cX4_countDown : ByteArray := prog_6_method_4_code
def yX4_countDown : MethodName := ⟨RX4, "countDown", "(I)V"⟩
def RX5 : String := "PortTimers"
def TX5 : u_T := fun k => match k with
  | 0 => ("PortTimers", "flags", "LPortTimers$Flags;", true)
  | 1 => ("PortTimers", "sideA", "LPortTimers$Side;", true)
  | 2 => ("PortTimers", "sideB", "LPortTimers$Side;", true)
  | 3 => ("PortTimers", "timer1", "LPortTimers$Timer1;", true)
  | 4 => ("PortTimers", "timer2", "LPortTimers$Timer2;", true)
  | 5 => ("PortTimers", "shifter", "LPortTimers$Shifter;", true)
  | 6 => ("PortTimers", "control", "I", false)
  | _ => ("PortTimers", "cycles", "I", false)
def tyX5 : Nat → FieldType := fun k => match k with
  | 0 => .object "PortTimers$Flags"
  | 1 => .object "PortTimers$Side"
  | 2 => .object "PortTimers$Side"
  | 3 => .object "PortTimers$Timer1"
  | 4 => .object "PortTimers$Timer2"
  | 5 => .object "PortTimers$Shifter"
  | 6 => .int
  | _ => .int
abbrev wsX50 : List Cond := u_ws RX5 TX5 8
theorem nmX5 : ∀ a, a < 8 → ∀ b, b < 8 → a ≠ b → (TX5 a).2.1 ≠ (TX5 b).2.1 := by decide +kernel
theorem tyX5_ok : ∀ k, k < 8 → parseFieldDescriptor (TX5 k).2.2.1 = some (tyX5 k) := by decide +kernel
abbrev cX5_init : ByteArray := prog_1_method_1_code
def yX5_init : MethodName := ⟨RX5, "<init>", "()V"⟩
abbrev cX5_write : ByteArray := prog_1_method_2_code
def yX5_write : MethodName := ⟨RX5, "write", "(II)V"⟩
abbrev cX5_read : ByteArray := prog_1_method_3_code
def yX5_read : MethodName := ⟨RX5, "read", "(I)I"⟩
abbrev cX5_pins : ByteArray := prog_1_method_4_code
def yX5_pins : MethodName := ⟨RX5, "pins", "(II)V"⟩
abbrev cX5_line : ByteArray := prog_1_method_5_code
def yX5_line : MethodName := ⟨RX5, "line", "(IZ)Z"⟩
abbrev cX5_step : ByteArray := prog_1_method_6_code
def yX5_step : MethodName := ⟨RX5, "step", "(I)I"⟩
abbrev cX5_out : ByteArray := prog_1_method_7_code
def yX5_out : MethodName := ⟨RX5, "out", "(I)I"⟩
abbrev cX5_told : ByteArray := prog_1_method_8_code
def yX5_told : MethodName := ⟨RX5, "told", "(I)I"⟩
abbrev cX5_reset : ByteArray := prog_1_method_9_code
def yX5_reset : MethodName := ⟨RX5, "reset", "()V"⟩
abbrev cX5_goOn : ByteArray := prog_1_method_10_code
def yX5_goOn : MethodName := ⟨RX5, "goOn", "(I)V"⟩
abbrev cX5_readPortA : ByteArray := prog_1_method_11_code
def yX5_readPortA : MethodName := ⟨RX5, "readPortA", "()I"⟩
abbrev cX5_readPortB : ByteArray := prog_1_method_12_code
def yX5_readPortB : MethodName := ⟨RX5, "readPortB", "()I"⟩
abbrev cX5_portA : ByteArray := prog_1_method_13_code
def yX5_portA : MethodName := ⟨RX5, "portA", "()I"⟩
abbrev cX5_withTimersBit : ByteArray := prog_1_method_14_code
def yX5_withTimersBit : MethodName := ⟨RX5, "withTimersBit", "(I)I"⟩
abbrev cX5_lineCB2Gives : ByteArray := prog_1_method_15_code
def yX5_lineCB2Gives : MethodName := ⟨RX5, "lineCB2Gives", "()I"⟩
abbrev cX5_mode : ByteArray := prog_1_method_16_code
def yX5_mode : MethodName := ⟨RX5, "mode", "()I"⟩
abbrev cX5_controlHas : ByteArray := prog_1_method_17_code
def yX5_controlHas : MethodName := ⟨RX5, "controlHas", "(I)Z"⟩
abbrev cX5_isByte : ByteArray := prog_1_method_18_code
def yX5_isByte : MethodName := ⟨RX5, "isByte", "(I)Z"⟩
abbrev cX5_lowByte : ByteArray := prog_1_method_19_code
def yX5_lowByte : MethodName := ⟨RX5, "lowByte", "(I)I"⟩
abbrev cX5_highByte : ByteArray := prog_1_method_20_code
def yX5_highByte : MethodName := ⟨RX5, "highByte", "(I)I"⟩
def RX6 : String := "PortTimersModel"
def TX6 : u_T := fun k => match k with
  | 0 => ("PortTimersModel", "thrown", "I", false)
  | 1 => ("PortTimersModel", "pinsA", "I", false)
  | 2 => ("PortTimersModel", "pinsB", "I", false)
  | 3 => ("PortTimersModel", "lines", "[Z", true)
  | 4 => ("PortTimersModel", "outA", "I", false)
  | 5 => ("PortTimersModel", "outB", "I", false)
  | 6 => ("PortTimersModel", "directionsA", "I", false)
  | 7 => ("PortTimersModel", "directionsB", "I", false)
  | 8 => ("PortTimersModel", "control", "I", false)
  | 9 => ("PortTimersModel", "ways", "I", false)
  | 10 => ("PortTimersModel", "flags", "I", false)
  | 11 => ("PortTimersModel", "enabled", "I", false)
  | 12 => ("PortTimersModel", "heldA", "I", false)
  | 13 => ("PortTimersModel", "heldB", "I", false)
  | 14 => ("PortTimersModel", "untilA", "Z", false)
  | 15 => ("PortTimersModel", "onceA", "Z", false)
  | 16 => ("PortTimersModel", "untilB", "Z", false)
  | 17 => ("PortTimersModel", "onceB", "Z", false)
  | 18 => ("PortTimersModel", "timer1", "I", false)
  | 19 => ("PortTimersModel", "latch1", "I", false)
  | 20 => ("PortTimersModel", "armed1", "Z", false)
  | 21 => ("PortTimersModel", "reloads", "Z", false)
  | 22 => ("PortTimersModel", "bit", "Z", false)
  | 23 => ("PortTimersModel", "timer2", "I", false)
  | 24 => ("PortTimersModel", "latch2", "I", false)
  | 25 => ("PortTimersModel", "armed2", "Z", false)
  | 26 => ("PortTimersModel", "shifter", "I", false)
  | 27 => ("PortTimersModel", "shifts", "I", false)
  | 28 => ("PortTimersModel", "wait", "I", false)
  | 29 => ("PortTimersModel", "shifted", "I", false)
  | _ => ("PortTimersModel", "cycles", "I", false)
def tyX6 : Nat → FieldType := fun k => match k with
  | 0 => .int
  | 1 => .int
  | 2 => .int
  | 3 => .array .boolean
  | 4 => .int
  | 5 => .int
  | 6 => .int
  | 7 => .int
  | 8 => .int
  | 9 => .int
  | 10 => .int
  | 11 => .int
  | 12 => .int
  | 13 => .int
  | 14 => .boolean
  | 15 => .boolean
  | 16 => .boolean
  | 17 => .boolean
  | 18 => .int
  | 19 => .int
  | 20 => .boolean
  | 21 => .boolean
  | 22 => .boolean
  | 23 => .int
  | 24 => .int
  | 25 => .boolean
  | 26 => .int
  | 27 => .int
  | 28 => .int
  | 29 => .int
  | _ => .int
abbrev wsX60 : List Cond := u_ws RX6 TX6 31
theorem nmX6 : ∀ a, a < 31 → ∀ b, b < 31 → a ≠ b → (TX6 a).2.1 ≠ (TX6 b).2.1 := by decide +kernel
theorem tyX6_ok : ∀ k, k < 31 → parseFieldDescriptor (TX6 k).2.2.1 = some (tyX6 k) := by decide +kernel
abbrev cX6_init : ByteArray := prog_8_method_1_code
def yX6_init : MethodName := ⟨RX6, "<init>", "()V"⟩
abbrev cX6_thrown : ByteArray := prog_8_method_2_code
def yX6_thrown : MethodName := ⟨RX6, "thrown", "()I"⟩
abbrev cX6_clear : ByteArray := prog_8_method_3_code
def yX6_clear : MethodName := ⟨RX6, "clear", "()V"⟩
abbrev cX6_reset : ByteArray := prog_8_method_4_code
def yX6_reset : MethodName := ⟨RX6, "reset", "()V"⟩
abbrev cX6_has : ByteArray := prog_8_method_5_code
def yX6_has : MethodName := ⟨RX6, "has", "(I)Z"⟩
abbrev cX6_set : ByteArray := prog_8_method_6_code
def yX6_set : MethodName := ⟨RX6, "set", "(I)V"⟩
abbrev cX6_drop : ByteArray := prog_8_method_7_code
def yX6_drop : MethodName := ⟨RX6, "drop", "(I)V"⟩
abbrev cX6_allFlags : ByteArray := prog_8_method_8_code
def yX6_allFlags : MethodName := ⟨RX6, "allFlags", "()I"⟩
abbrev cX6_wayA : ByteArray := prog_8_method_9_code
def yX6_wayA : MethodName := ⟨RX6, "wayA", "()I"⟩
abbrev cX6_wayB : ByteArray := prog_8_method_10_code
def yX6_wayB : MethodName := ⟨RX6, "wayB", "()I"⟩
abbrev cX6_mode : ByteArray := prog_8_method_11_code
def yX6_mode : MethodName := ⟨RX6, "mode", "()I"⟩
abbrev cX6_touchA : ByteArray := prog_8_method_12_code
def yX6_touchA : MethodName := ⟨RX6, "touchA", "()V"⟩
abbrev cX6_touchB : ByteArray := prog_8_method_13_code
def yX6_touchB : MethodName := ⟨RX6, "touchB", "(Z)V"⟩
abbrev cX6_portA : ByteArray := prog_8_method_14_code
def yX6_portA : MethodName := ⟨RX6, "portA", "()I"⟩
abbrev cX6_portB : ByteArray := prog_8_method_15_code
def yX6_portB : MethodName := ⟨RX6, "portB", "()I"⟩
abbrev cX6_noByte : ByteArray := prog_8_method_16_code
def yX6_noByte : MethodName := ⟨RX6, "noByte", "(I)Z"⟩
abbrev cX6_eight : ByteArray := prog_8_method_17_code
def yX6_eight : MethodName := ⟨RX6, "eight", "()V"⟩
abbrev cX6_write : ByteArray := prog_8_method_18_code
def yX6_write : MethodName := ⟨RX6, "write", "(II)V"⟩
abbrev cX6_read : ByteArray := prog_8_method_19_code
def yX6_read : MethodName := ⟨RX6, "read", "(I)I"⟩
abbrev cX6_lessTimer2 : ByteArray := prog_8_method_20_code
def yX6_lessTimer2 : MethodName := ⟨RX6, "lessTimer2", "()V"⟩
abbrev cX6_pins : ByteArray := prog_8_method_21_code
def yX6_pins : MethodName := ⟨RX6, "pins", "(II)V"⟩
abbrev cX6_line : ByteArray := prog_8_method_22_code
def yX6_line : MethodName := ⟨RX6, "line", "(IZ)Z"⟩
abbrev cX6_cycleOfTimer1 : ByteArray := prog_8_method_23_code
def yX6_cycleOfTimer1 : MethodName := ⟨RX6, "cycleOfTimer1", "()V"⟩
abbrev cX6_cycleOfShifter : ByteArray := prog_8_method_24_code
def yX6_cycleOfShifter : MethodName := ⟨RX6, "cycleOfShifter", "()V"⟩
abbrev cX6_step : ByteArray := prog_8_method_25_code
def yX6_step : MethodName := ⟨RX6, "step", "(I)I"⟩
abbrev cX6_given : ByteArray := prog_8_method_26_code
def yX6_given : MethodName := ⟨RX6, "given", "(IZZ)I"⟩
abbrev cX6_out : ByteArray := prog_8_method_27_code
def yX6_out : MethodName := ⟨RX6, "out", "(I)I"⟩
abbrev cX6_told : ByteArray := prog_8_method_28_code
def yX6_told : MethodName := ⟨RX6, "told", "(I)I"⟩
def RJ0 : String := "java/lang/String"
def TJ0 : u_T := fun k => match k with
  | _ => ("", "", "", false)
def tyJ0 : Nat → FieldType := fun k => match k with
  | _ => .int
abbrev wsJ00 : List Cond := u_ws RJ0 TJ0 0
theorem nmJ0 : ∀ a, a < 0 → ∀ b, b < 0 → a ≠ b → (TJ0 a).2.1 ≠ (TJ0 b).2.1 := by decide +kernel
theorem tyJ0_ok : ∀ k, k < 0 → parseFieldDescriptor (TJ0 k).2.2.1 = some (tyJ0 k) := by decide +kernel
def RL : String := "PortTimersLaw"
abbrev cL_write : ByteArray := method_3_code
def yL_write : MethodName := ⟨RL, "write", "(LPortTimers;II)I"⟩
abbrev cL_read : ByteArray := method_4_code
def yL_read : MethodName := ⟨RL, "read", "(LPortTimers;I[J)I"⟩
abbrev cL_pins : ByteArray := method_5_code
def yL_pins : MethodName := ⟨RL, "pins", "(LPortTimers;II)I"⟩
abbrev cL_line : ByteArray := method_6_code
def yL_line : MethodName := ⟨RL, "line", "(LPortTimers;IZ[J)I"⟩
abbrev cL_step : ByteArray := method_7_code
def yL_step : MethodName := ⟨RL, "step", "(LPortTimers;I[J)I"⟩
abbrev cL_out : ByteArray := method_8_code
def yL_out : MethodName := ⟨RL, "out", "(LPortTimers;I[J)I"⟩
abbrev cL_told : ByteArray := method_9_code
def yL_told : MethodName := ⟨RL, "told", "(LPortTimers;I[J)I"⟩
abbrev cL_law : ByteArray := code
def yL_law : MethodName := ⟨RL, "law", "([I)Z"⟩
abbrev vwCl : List vw_C := [(RX0, TX0, 2), (RX1, TX1, 5), (RX2, TX2, 12), (RX3, TX3, 6), (RX4, TX4, 4), (RX5, TX5, 8), (RX6, TX6, 31)]
end
section
def wsX0_init : List Cond := .code yX0_init cX0_init 1 none :: ([.methodLink RX0 3 objectInit, .instanceMethod objectInit, .code objectInit ⟨#[0xb1]⟩ 1 none])
def wsX0_clear : List Cond := .code yX0_clear cX0_clear 1 none :: ([.fieldLink RX0 9 "PortTimers$Flags" "raised" "I", .fieldLink RX0 15 "PortTimers$Flags" "enabled" "I"] ++ wsX00)
def wsX0_raise : List Cond := .code yX0_raise cX0_raise 2 none :: ([.fieldLink RX0 9 "PortTimers$Flags" "raised" "I"] ++ wsX00)
def wsX0_lower : List Cond := .code yX0_lower cX0_lower 2 none :: ([.fieldLink RX0 9 "PortTimers$Flags" "raised" "I"] ++ wsX00)
def wsX0_has : List Cond := .code yX0_has cX0_has 2 (some .boolean) :: ([.fieldLink RX0 9 "PortTimers$Flags" "raised" "I"] ++ wsX00)
def wsX0_enable : List Cond := .code yX0_enable cX0_enable 2 none :: ([.fieldLink RX0 15 "PortTimers$Flags" "enabled" "I"] ++ wsX00)
def wsX0_call : List Cond := .code yX0_call cX0_call 1 (some .boolean) :: ([.fieldLink RX0 9 "PortTimers$Flags" "raised" "I", .fieldLink RX0 15 "PortTimers$Flags" "enabled" "I"] ++ wsX00)
def wsX0_withCall : List Cond := .code yX0_withCall cX0_withCall 1 (some .int) :: ([.fieldLink RX0 9 "PortTimers$Flags" "raised" "I", .methodLink RX0 18 yX0_call, .instanceMethod yX0_call, .selects RX0 yX0_call yX0_call, .initialized RX0, .code yX0_call cX0_call 1 (some .boolean), .fieldLink RX0 15 "PortTimers$Flags" "enabled" "I"] ++ wsX00)
def wsX1_init : List Cond := .code yX1_init cX1_init 2 none :: ([.methodLink RX1 3 objectInit, .instanceMethod objectInit, .code objectInit ⟨#[0xb1]⟩ 1 none, .fieldLink RX1 9 "PortTimers$Shifter" "given" "I", .fieldLink RX1 15 "PortTimers$Shifter" "flags" "LPortTimers$Flags;"] ++ wsX10)
def wsX1_clear : List Cond := .code yX1_clear cX1_clear 1 none :: ([.fieldLink RX1 19 "PortTimers$Shifter" "bits" "I", .fieldLink RX1 22 "PortTimers$Shifter" "toCome" "I", .fieldLink RX1 9 "PortTimers$Shifter" "given" "I", .fieldLink RX1 25 "PortTimers$Shifter" "halfway" "Z"] ++ wsX10)
def wsX1_begin : List Cond := .code yX1_begin cX1_begin 1 none :: ([.fieldLink RX1 15 "PortTimers$Shifter" "flags" "LPortTimers$Flags;", .fieldLink RX1 22 "PortTimers$Shifter" "toCome" "I", .fieldLink RX1 25 "PortTimers$Shifter" "halfway" "Z", .methodLink RX1 29 yX0_lower, .instanceMethod yX0_lower, .selects RX0 yX0_lower yX0_lower, .initialized RX0, .code yX0_lower cX0_lower 2 none, .fieldLink RX0 9 "PortTimers$Flags" "raised" "I"] ++ wsX10 ++ wsX00)
def wsX1_shift : List Cond := .code yX1_shift cX1_shift 5 none :: ([.fieldLink RX1 19 "PortTimers$Shifter" "bits" "I", .fieldLink RX1 9 "PortTimers$Shifter" "given" "I", .fieldLink RX1 22 "PortTimers$Shifter" "toCome" "I", .fieldLink RX1 15 "PortTimers$Shifter" "flags" "LPortTimers$Flags;", .methodLink RX1 39 yX0_raise, .instanceMethod yX0_raise, .selects RX0 yX0_raise yX0_raise, .initialized RX0, .code yX0_raise cX0_raise 2 none, .fieldLink RX0 9 "PortTimers$Flags" "raised" "I"] ++ wsX10 ++ wsX00)
def wsX1_goOn : List Cond := .code yX1_goOn cX1_goOn 5 none :: ([.fieldLink RX1 22 "PortTimers$Shifter" "toCome" "I", .fieldLink RX1 25 "PortTimers$Shifter" "halfway" "Z", .methodLink RX1 35 yX1_shift, .instanceMethod yX1_shift, .selects RX1 yX1_shift yX1_shift, .initialized RX1, .code yX1_shift cX1_shift 5 none, .fieldLink RX1 19 "PortTimers$Shifter" "bits" "I", .fieldLink RX1 9 "PortTimers$Shifter" "given" "I", .fieldLink RX1 15 "PortTimers$Shifter" "flags" "LPortTimers$Flags;", .methodLink RX1 39 yX0_raise, .instanceMethod yX0_raise, .selects RX0 yX0_raise yX0_raise, .initialized RX0, .code yX0_raise cX0_raise 2 none, .fieldLink RX0 9 "PortTimers$Flags" "raised" "I"] ++ wsX10 ++ wsX00)
def wsX2_init : List Cond := .code yX2_init cX2_init 4 none :: ([.methodLink RX2 3 objectInit, .instanceMethod objectInit, .code objectInit ⟨#[0xb1]⟩ 1 none, .fieldLink RX2 9 "PortTimers$Side" "flags" "LPortTimers$Flags;", .fieldLink RX2 15 "PortTimers$Side" "flagOfLine1" "I", .fieldLink RX2 19 "PortTimers$Side" "flagOfLine2" "I"] ++ wsX20)
def wsX2_clear : List Cond := .code yX2_clear cX2_clear 1 none :: ([.fieldLink RX2 22 "PortTimers$Side" "out" "I", .fieldLink RX2 25 "PortTimers$Side" "directions" "I", .fieldLink RX2 28 "PortTimers$Side" "ways" "I", .fieldLink RX2 31 "PortTimers$Side" "heldPins" "I", .fieldLink RX2 34 "PortTimers$Side" "lowUntilEdge" "Z", .fieldLink RX2 38 "PortTimers$Side" "lowUntilCycle" "Z"] ++ wsX20)
def wsX2_wayOfLine2 : List Cond := .code yX2_wayOfLine2 cX2_wayOfLine2 1 (some .int) :: ([.fieldLink RX2 28 "PortTimers$Side" "ways" "I"] ++ wsX20)
def wsX2_port : List Cond := .code yX2_port cX2_port 3 (some .int) :: ([.fieldLink RX2 9 "PortTimers$Side" "flags" "LPortTimers$Flags;", .fieldLink RX2 15 "PortTimers$Side" "flagOfLine1" "I", .fieldLink RX2 31 "PortTimers$Side" "heldPins" "I", .fieldLink RX2 47 "PortTimers$Side" "pins" "I", .fieldLink RX2 22 "PortTimers$Side" "out" "I", .fieldLink RX2 25 "PortTimers$Side" "directions" "I", .methodLink RX2 41 yX0_has, .instanceMethod yX0_has, .selects RX0 yX0_has yX0_has, .initialized RX0, .code yX0_has cX0_has 2 (some .boolean), .fieldLink RX0 9 "PortTimers$Flags" "raised" "I"] ++ wsX20 ++ wsX00)
def wsX2_touch : List Cond := .code yX2_touch cX2_touch 2 none :: ([.fieldLink RX2 9 "PortTimers$Side" "flags" "LPortTimers$Flags;", .fieldLink RX2 15 "PortTimers$Side" "flagOfLine1" "I", .fieldLink RX2 19 "PortTimers$Side" "flagOfLine2" "I", .methodLink RX2 50 yX0_lower, .instanceMethod yX0_lower, .selects RX0 yX0_lower yX0_lower, .initialized RX0, .code yX0_lower cX0_lower 2 none, .fieldLink RX0 9 "PortTimers$Flags" "raised" "I", .methodLink RX2 54 yX2_wayOfLine2, .instanceMethod yX2_wayOfLine2, .selects RX2 yX2_wayOfLine2 yX2_wayOfLine2, .initialized RX2, .code yX2_wayOfLine2 cX2_wayOfLine2 1 (some .int), .fieldLink RX2 28 "PortTimers$Side" "ways" "I"] ++ wsX20 ++ wsX00)
def wsX2_giveTouch : List Cond := .code yX2_giveTouch cX2_giveTouch 2 none :: ([.fieldLink RX2 34 "PortTimers$Side" "lowUntilEdge" "Z", .fieldLink RX2 38 "PortTimers$Side" "lowUntilCycle" "Z", .methodLink RX2 54 yX2_wayOfLine2, .instanceMethod yX2_wayOfLine2, .selects RX2 yX2_wayOfLine2 yX2_wayOfLine2, .initialized RX2, .code yX2_wayOfLine2 cX2_wayOfLine2 1 (some .int), .fieldLink RX2 28 "PortTimers$Side" "ways" "I"] ++ wsX20)
def wsX2_endCycle : List Cond := .code yX2_endCycle cX2_endCycle 1 none :: ([.fieldLink RX2 38 "PortTimers$Side" "lowUntilCycle" "Z"] ++ wsX20)
def wsX2_moveLine1 : List Cond := .code yX2_moveLine1 cX2_moveLine1 4 (some .boolean) :: ([.fieldLink RX2 28 "PortTimers$Side" "ways" "I", .fieldLink RX2 58 "PortTimers$Side" "line1" "Z", .fieldLink RX2 9 "PortTimers$Side" "flags" "LPortTimers$Flags;", .fieldLink RX2 15 "PortTimers$Side" "flagOfLine1" "I", .fieldLink RX2 47 "PortTimers$Side" "pins" "I", .fieldLink RX2 31 "PortTimers$Side" "heldPins" "I", .fieldLink RX2 34 "PortTimers$Side" "lowUntilEdge" "Z", .methodLink RX2 61 yX0_raise, .instanceMethod yX0_raise, .selects RX0 yX0_raise yX0_raise, .initialized RX0, .code yX0_raise cX0_raise 2 none, .fieldLink RX0 9 "PortTimers$Flags" "raised" "I"] ++ wsX20 ++ wsX00)
def wsX2_moveLine2 : List Cond := .code yX2_moveLine2 cX2_moveLine2 5 (some .boolean) :: ([.fieldLink RX2 64 "PortTimers$Side" "line2" "Z", .fieldLink RX2 9 "PortTimers$Side" "flags" "LPortTimers$Flags;", .fieldLink RX2 19 "PortTimers$Side" "flagOfLine2" "I", .methodLink RX2 54 yX2_wayOfLine2, .instanceMethod yX2_wayOfLine2, .selects RX2 yX2_wayOfLine2 yX2_wayOfLine2, .initialized RX2, .code yX2_wayOfLine2 cX2_wayOfLine2 1 (some .int), .fieldLink RX2 28 "PortTimers$Side" "ways" "I", .methodLink RX2 61 yX0_raise, .instanceMethod yX0_raise, .selects RX0 yX0_raise yX0_raise, .initialized RX0, .code yX0_raise cX0_raise 2 none, .fieldLink RX0 9 "PortTimers$Flags" "raised" "I"] ++ wsX20 ++ wsX00)
def wsX2_line2Gives : List Cond := .code yX2_line2Gives cX2_line2Gives 3 (some .int) :: ([.fieldLink RX2 34 "PortTimers$Side" "lowUntilEdge" "Z", .fieldLink RX2 38 "PortTimers$Side" "lowUntilCycle" "Z", .methodLink RX2 54 yX2_wayOfLine2, .instanceMethod yX2_wayOfLine2, .selects RX2 yX2_wayOfLine2 yX2_wayOfLine2, .initialized RX2, .code yX2_wayOfLine2 cX2_wayOfLine2 1 (some .int), .fieldLink RX2 28 "PortTimers$Side" "ways" "I"] ++ wsX20)
def wsX3_init : List Cond := .code yX3_init cX3_init 2 none :: ([.methodLink RX3 3 objectInit, .instanceMethod objectInit, .code objectInit ⟨#[0xb1]⟩ 1 none, .fieldLink RX3 9 "PortTimers$Timer1" "bit" "I", .fieldLink RX3 15 "PortTimers$Timer1" "flags" "LPortTimers$Flags;"] ++ wsX30)
def wsX3_clear : List Cond := .code yX3_clear cX3_clear 1 none :: ([.fieldLink RX3 19 "PortTimers$Timer1" "count" "I", .fieldLink RX3 22 "PortTimers$Timer1" "latch" "I", .fieldLink RX3 9 "PortTimers$Timer1" "bit" "I", .fieldLink RX3 25 "PortTimers$Timer1" "armed" "Z", .fieldLink RX3 29 "PortTimers$Timer1" "latchIsDue" "Z"] ++ wsX30)
def wsX3_latchLow : List Cond := .code yX3_latchLow cX3_latchLow 2 none :: ([.fieldLink RX3 22 "PortTimers$Timer1" "latch" "I"] ++ wsX30)
def wsX3_latchHigh : List Cond := .code yX3_latchHigh cX3_latchHigh 2 none :: ([.fieldLink RX3 22 "PortTimers$Timer1" "latch" "I", .fieldLink RX3 15 "PortTimers$Timer1" "flags" "LPortTimers$Flags;", .methodLink RX3 32 yX0_lower, .instanceMethod yX0_lower, .selects RX0 yX0_lower yX0_lower, .initialized RX0, .code yX0_lower cX0_lower 2 none, .fieldLink RX0 9 "PortTimers$Flags" "raised" "I"] ++ wsX30 ++ wsX00)
def wsX3_start : List Cond := .code yX3_start cX3_start 1 none :: ([.fieldLink RX3 22 "PortTimers$Timer1" "latch" "I", .fieldLink RX3 19 "PortTimers$Timer1" "count" "I", .fieldLink RX3 25 "PortTimers$Timer1" "armed" "Z", .fieldLink RX3 9 "PortTimers$Timer1" "bit" "I", .fieldLink RX3 29 "PortTimers$Timer1" "latchIsDue" "Z"] ++ wsX30)
def wsX3_runOut : List Cond := .code yX3_runOut cX3_runOut 5 none :: ([.fieldLink RX3 22 "PortTimers$Timer1" "latch" "I", .fieldLink RX3 15 "PortTimers$Timer1" "flags" "LPortTimers$Flags;", .fieldLink RX3 9 "PortTimers$Timer1" "bit" "I", .fieldLink RX3 29 "PortTimers$Timer1" "latchIsDue" "Z", .constant RX3 47 (65535), .fieldLink RX3 19 "PortTimers$Timer1" "count" "I", .methodLink RX3 44 yX0_raise, .instanceMethod yX0_raise, .selects RX0 yX0_raise yX0_raise, .initialized RX0, .code yX0_raise cX0_raise 2 none, .fieldLink RX0 9 "PortTimers$Flags" "raised" "I"] ++ wsX30 ++ wsX00)
def wsX3_runFreely : List Cond := .code yX3_runFreely cX3_runFreely 3 none :: ([.fieldLink RX3 29 "PortTimers$Timer1" "latchIsDue" "Z", .fieldLink RX3 22 "PortTimers$Timer1" "latch" "I", .fieldLink RX3 19 "PortTimers$Timer1" "count" "I", .methodLink RX3 48 yX3_runOut, .instanceMethod yX3_runOut, .selects RX3 yX3_runOut yX3_runOut, .initialized RX3, .code yX3_runOut cX3_runOut 5 none, .fieldLink RX3 15 "PortTimers$Timer1" "flags" "LPortTimers$Flags;", .fieldLink RX3 9 "PortTimers$Timer1" "bit" "I", .constant RX3 47 (65535), .methodLink RX3 44 yX0_raise, .instanceMethod yX0_raise, .selects RX0 yX0_raise yX0_raise, .initialized RX0, .code yX0_raise cX0_raise 2 none, .fieldLink RX0 9 "PortTimers$Flags" "raised" "I"] ++ wsX30 ++ wsX00)
def wsX3_runOnce : List Cond := .code yX3_runOnce cX3_runOnce 2 none :: ([.fieldLink RX3 29 "PortTimers$Timer1" "latchIsDue" "Z", .fieldLink RX3 19 "PortTimers$Timer1" "count" "I", .fieldLink RX3 25 "PortTimers$Timer1" "armed" "Z", .fieldLink RX3 15 "PortTimers$Timer1" "flags" "LPortTimers$Flags;", .fieldLink RX3 9 "PortTimers$Timer1" "bit" "I", .constant RX3 47 (65535), .methodLink RX3 44 yX0_raise, .instanceMethod yX0_raise, .selects RX0 yX0_raise yX0_raise, .initialized RX0, .code yX0_raise cX0_raise 2 none, .fieldLink RX0 9 "PortTimers$Flags" "raised" "I"] ++ wsX30 ++ wsX00)
def wsX3_goOn_r1 : List Cond := [Cond.methodLink RX3 38 yX3_runFreely, Cond.instanceMethod yX3_runFreely, Cond.selects RX3 yX3_runFreely yX3_runFreely, Cond.initialized RX3, Cond.code yX3_runFreely cX3_runFreely 3 none, Cond.fieldLink RX3 29 "PortTimers$Timer1" "latchIsDue" "Z", Cond.fieldLink RX3 22 "PortTimers$Timer1" "latch" "I", Cond.fieldLink RX3 19 "PortTimers$Timer1" "count" "I", Cond.methodLink RX3 48 yX3_runOut, Cond.instanceMethod yX3_runOut, Cond.selects RX3 yX3_runOut yX3_runOut, Cond.code yX3_runOut cX3_runOut 5 none, Cond.fieldLink RX3 15 "PortTimers$Timer1" "flags" "LPortTimers$Flags;", Cond.fieldLink RX3 9 "PortTimers$Timer1" "bit" "I", Cond.constant RX3 47 (65535), Cond.methodLink RX3 44 yX0_raise, Cond.instanceMethod yX0_raise, Cond.selects RX0 yX0_raise yX0_raise, Cond.initialized RX0, Cond.code yX0_raise cX0_raise 2 none, Cond.fieldLink RX0 9 "PortTimers$Flags" "raised" "I", Cond.methodLink RX3 41 yX3_runOnce, Cond.instanceMethod yX3_runOnce, Cond.selects RX3 yX3_runOnce yX3_runOnce]
def wsX3_goOn_r2 : List Cond := [Cond.code yX3_runOnce cX3_runOnce 2 none, Cond.fieldLink RX3 25 "PortTimers$Timer1" "armed" "Z"]
def wsX3_goOn : List Cond := .code yX3_goOn cX3_goOn 3 none :: ((wsX3_goOn_r1 ++ wsX3_goOn_r2) ++ wsX30 ++ wsX00)
def wsX4_init : List Cond := .code yX4_init cX4_init 2 none :: ([.methodLink RX4 3 objectInit, .instanceMethod objectInit, .code objectInit ⟨#[0xb1]⟩ 1 none, .fieldLink RX4 9 "PortTimers$Timer2" "flags" "LPortTimers$Flags;"] ++ wsX40)
def wsX4_clear : List Cond := .code yX4_clear cX4_clear 1 none :: ([.fieldLink RX4 15 "PortTimers$Timer2" "count" "I", .fieldLink RX4 19 "PortTimers$Timer2" "latch" "I", .fieldLink RX4 22 "PortTimers$Timer2" "armed" "Z"] ++ wsX40)
def wsX4_start : List Cond := .code yX4_start cX4_start 2 none :: ([.fieldLink RX4 19 "PortTimers$Timer2" "latch" "I", .fieldLink RX4 15 "PortTimers$Timer2" "count" "I", .fieldLink RX4 22 "PortTimers$Timer2" "armed" "Z", .fieldLink RX4 9 "PortTimers$Timer2" "flags" "LPortTimers$Flags;", .methodLink RX4 26 yX0_lower, .instanceMethod yX0_lower, .selects RX0 yX0_lower yX0_lower, .initialized RX0, .code yX0_lower cX0_lower 2 none, .fieldLink RX0 9 "PortTimers$Flags" "raised" "I"] ++ wsX40 ++ wsX00)
def wsX4_countDown : List Cond := .code yX4_countDown cX4_countDown 2 none :: ([.fieldLink RX4 15 "PortTimers$Timer2" "count" "I", .fieldLink RX4 22 "PortTimers$Timer2" "armed" "Z", .fieldLink RX4 9 "PortTimers$Timer2" "flags" "LPortTimers$Flags;", .constant RX4 35 (65535), .methodLink RX4 32 yX0_raise, .instanceMethod yX0_raise, .selects RX0 yX0_raise yX0_raise, .initialized RX0, .code yX0_raise cX0_raise 2 none, .fieldLink RX0 9 "PortTimers$Flags" "raised" "I"] ++ wsX40 ++ wsX00)
def wsX5_init_r1 : List Cond := [Cond.methodLink RX5 1 objectInit, Cond.instanceMethod objectInit, Cond.code objectInit ⟨#[0xb1]⟩ 1 none, Cond.classLink RX5 7 RX0, Cond.instantiable RX0 2, Cond.initialized RX0, Cond.fieldLink RX5 10 "PortTimers" "flags" "LPortTimers$Flags;", Cond.classLink RX5 16 RX2, Cond.instantiable RX2 12, Cond.initialized RX2, Cond.fieldLink RX5 21 "PortTimers" "sideA" "LPortTimers$Side;", Cond.fieldLink RX5 25 "PortTimers" "sideB" "LPortTimers$Side;", Cond.classLink RX5 28 RX3, Cond.instantiable RX3 6, Cond.initialized RX3, Cond.fieldLink RX5 33 "PortTimers" "timer1" "LPortTimers$Timer1;", Cond.classLink RX5 37 RX4, Cond.instantiable RX4 4, Cond.initialized RX4, Cond.fieldLink RX5 40 "PortTimers" "timer2" "LPortTimers$Timer2;", Cond.classLink RX5 44 RX1, Cond.instantiable RX1 5, Cond.initialized RX1, Cond.fieldLink RX5 47 "PortTimers" "shifter" "LPortTimers$Shifter;"]
def wsX5_init_r2 : List Cond := [Cond.instanceMethod yX0_init, Cond.code yX0_init cX0_init 1 none, Cond.methodLink RX0 3 objectInit, Cond.methodLink RX5 18 yX2_init, Cond.instanceMethod yX2_init, Cond.code yX2_init cX2_init 4 none, Cond.methodLink RX2 3 objectInit, Cond.fieldLink RX2 9 "PortTimers$Side" "flags" "LPortTimers$Flags;", Cond.fieldLink RX2 15 "PortTimers$Side" "flagOfLine1" "I", Cond.fieldLink RX2 19 "PortTimers$Side" "flagOfLine2" "I", Cond.methodLink RX5 30 yX3_init, Cond.instanceMethod yX3_init, Cond.code yX3_init cX3_init 2 none, Cond.methodLink RX3 3 objectInit, Cond.fieldLink RX3 9 "PortTimers$Timer1" "bit" "I", Cond.fieldLink RX3 15 "PortTimers$Timer1" "flags" "LPortTimers$Flags;", Cond.methodLink RX5 39 yX4_init, Cond.instanceMethod yX4_init, Cond.code yX4_init cX4_init 2 none, Cond.methodLink RX4 3 objectInit, Cond.fieldLink RX4 9 "PortTimers$Timer2" "flags" "LPortTimers$Flags;", Cond.methodLink RX5 46 yX1_init, Cond.instanceMethod yX1_init, Cond.code yX1_init cX1_init 2 none]
def wsX5_init_r3 : List Cond := [Cond.methodLink RX1 3 objectInit, Cond.fieldLink RX1 9 "PortTimers$Shifter" "given" "I", Cond.fieldLink RX1 15 "PortTimers$Shifter" "flags" "LPortTimers$Flags;"]
def wsX5_init : List Cond := .code yX5_init cX5_init 1 none :: ((wsX5_init_r1 ++ (wsX5_init_r2 ++ wsX5_init_r3)) ++ wsX00 ++ wsX50 ++ wsX20 ++ wsX30 ++ wsX40 ++ wsX10)
def wsX5_isByte : List Cond := .code yX5_isByte cX5_isByte 1 (some .boolean) :: ([])
def wsX5_write_r1 : List Cond := [Cond.classLink RX5 55 "java/lang/IllegalArgumentException", Cond.initialized "java/lang/IllegalArgumentException", Cond.fieldLink RX5 25 "PortTimers" "sideB" "LPortTimers$Side;", Cond.fieldLink RX5 21 "PortTimers" "sideA" "LPortTimers$Side;", Cond.fieldLink RX5 33 "PortTimers" "timer1" "LPortTimers$Timer1;", Cond.fieldLink RX5 40 "PortTimers" "timer2" "LPortTimers$Timer2;", Cond.fieldLink RX5 47 "PortTimers" "shifter" "LPortTimers$Shifter;", Cond.fieldLink RX5 96 "PortTimers" "control" "I", Cond.fieldLink RX5 10 "PortTimers" "flags" "LPortTimers$Flags;", Cond.methodLink RX5 51 yX5_isByte, Cond.static yX5_isByte, Cond.initialized RX5, Cond.code yX5_isByte cX5_isByte 1 (some .boolean), Cond.methodLink RX5 66 yX2_touch, Cond.instanceMethod yX2_touch, Cond.selects RX2 yX2_touch yX2_touch, Cond.initialized RX2, Cond.code yX2_touch cX2_touch 2 none, Cond.fieldLink RX2 9 "PortTimers$Side" "flags" "LPortTimers$Flags;", Cond.fieldLink RX2 15 "PortTimers$Side" "flagOfLine1" "I", Cond.fieldLink RX2 19 "PortTimers$Side" "flagOfLine2" "I", Cond.methodLink RX2 50 yX0_lower, Cond.instanceMethod yX0_lower, Cond.selects RX0 yX0_lower yX0_lower]
def wsX5_write_r2 : List Cond := [Cond.initialized RX0, Cond.code yX0_lower cX0_lower 2 none, Cond.fieldLink RX0 9 "PortTimers$Flags" "raised" "I", Cond.methodLink RX2 54 yX2_wayOfLine2, Cond.instanceMethod yX2_wayOfLine2, Cond.selects RX2 yX2_wayOfLine2 yX2_wayOfLine2, Cond.code yX2_wayOfLine2 cX2_wayOfLine2 1 (some .int), Cond.fieldLink RX2 28 "PortTimers$Side" "ways" "I", Cond.methodLink RX5 69 yX2_giveTouch, Cond.instanceMethod yX2_giveTouch, Cond.selects RX2 yX2_giveTouch yX2_giveTouch, Cond.code yX2_giveTouch cX2_giveTouch 2 none, Cond.fieldLink RX2 34 "PortTimers$Side" "lowUntilEdge" "Z", Cond.fieldLink RX2 38 "PortTimers$Side" "lowUntilCycle" "Z", Cond.methodLink RX5 75 yX3_latchLow, Cond.instanceMethod yX3_latchLow, Cond.selects RX3 yX3_latchLow yX3_latchLow, Cond.initialized RX3, Cond.code yX3_latchLow cX3_latchLow 2 none, Cond.fieldLink RX3 22 "PortTimers$Timer1" "latch" "I", Cond.methodLink RX5 79 yX3_latchHigh, Cond.instanceMethod yX3_latchHigh, Cond.selects RX3 yX3_latchHigh yX3_latchHigh, Cond.code yX3_latchHigh cX3_latchHigh 2 none]
def wsX5_write_r3 : List Cond := [Cond.fieldLink RX3 15 "PortTimers$Timer1" "flags" "LPortTimers$Flags;", Cond.methodLink RX3 32 yX0_lower, Cond.methodLink RX5 82 yX3_start, Cond.instanceMethod yX3_start, Cond.selects RX3 yX3_start yX3_start, Cond.code yX3_start cX3_start 1 none, Cond.fieldLink RX3 19 "PortTimers$Timer1" "count" "I", Cond.fieldLink RX3 25 "PortTimers$Timer1" "armed" "Z", Cond.fieldLink RX3 9 "PortTimers$Timer1" "bit" "I", Cond.fieldLink RX3 29 "PortTimers$Timer1" "latchIsDue" "Z", Cond.methodLink RX5 88 yX4_start, Cond.instanceMethod yX4_start, Cond.selects RX4 yX4_start yX4_start, Cond.initialized RX4, Cond.code yX4_start cX4_start 2 none, Cond.fieldLink RX4 19 "PortTimers$Timer2" "latch" "I", Cond.fieldLink RX4 15 "PortTimers$Timer2" "count" "I", Cond.fieldLink RX4 22 "PortTimers$Timer2" "armed" "Z", Cond.fieldLink RX4 9 "PortTimers$Timer2" "flags" "LPortTimers$Flags;", Cond.methodLink RX4 26 yX0_lower, Cond.methodLink RX5 93 yX1_begin, Cond.instanceMethod yX1_begin, Cond.selects RX1 yX1_begin yX1_begin, Cond.initialized RX1]
def wsX5_write_r4 : List Cond := [Cond.code yX1_begin cX1_begin 1 none, Cond.fieldLink RX1 15 "PortTimers$Shifter" "flags" "LPortTimers$Flags;", Cond.fieldLink RX1 22 "PortTimers$Shifter" "toCome" "I", Cond.fieldLink RX1 25 "PortTimers$Shifter" "halfway" "Z", Cond.methodLink RX1 29 yX0_lower, Cond.methodLink RX5 102 yX0_lower, Cond.methodLink RX5 105 yX0_enable, Cond.instanceMethod yX0_enable, Cond.selects RX0 yX0_enable yX0_enable, Cond.code yX0_enable cX0_enable 2 none, Cond.fieldLink RX0 15 "PortTimers$Flags" "enabled" "I"]
def wsX5_write : List Cond := .code yX5_write cX5_write 3 none :: ((wsX5_write_r1 ++ (wsX5_write_r2 ++ (wsX5_write_r3 ++ wsX5_write_r4))) ++ wsX50 ++ wsX20 ++ wsX40 ++ wsX10 ++ wsX00 ++ wsX30 ++ (vx_atS RX5 59 "java/lang/IllegalArgumentException" ["java/lang/RuntimeException", "java/lang/Exception"]).filter goodWord)
def wsX5_controlHas : List Cond := .code yX5_controlHas cX5_controlHas 2 (some .boolean) :: ([.fieldLink RX5 96 "PortTimers" "control" "I"] ++ wsX50)
def wsX5_withTimersBit : List Cond := .code yX5_withTimersBit cX5_withTimersBit 2 (some .int) :: ([.fieldLink RX5 33 "PortTimers" "timer1" "LPortTimers$Timer1;", .methodLink RX5 143 yX5_controlHas, .instanceMethod yX5_controlHas, .selects RX5 yX5_controlHas yX5_controlHas, .initialized RX5, .code yX5_controlHas cX5_controlHas 2 (some .boolean), .fieldLink RX5 96 "PortTimers" "control" "I"] ++ wsX50 ++ wsX30)
def wsX5_readPortB_r1 : List Cond := [Cond.fieldLink RX5 25 "PortTimers" "sideB" "LPortTimers$Side;", Cond.methodLink RX5 143 yX5_controlHas, Cond.instanceMethod yX5_controlHas, Cond.selects RX5 yX5_controlHas yX5_controlHas, Cond.initialized RX5, Cond.code yX5_controlHas cX5_controlHas 2 (some .boolean), Cond.fieldLink RX5 96 "PortTimers" "control" "I", Cond.methodLink RX5 217 yX2_port, Cond.instanceMethod yX2_port, Cond.selects RX2 yX2_port yX2_port, Cond.initialized RX2, Cond.code yX2_port cX2_port 3 (some .int), Cond.fieldLink RX2 9 "PortTimers$Side" "flags" "LPortTimers$Flags;", Cond.fieldLink RX2 15 "PortTimers$Side" "flagOfLine1" "I", Cond.fieldLink RX2 31 "PortTimers$Side" "heldPins" "I", Cond.fieldLink RX2 47 "PortTimers$Side" "pins" "I", Cond.fieldLink RX2 22 "PortTimers$Side" "out" "I", Cond.fieldLink RX2 25 "PortTimers$Side" "directions" "I", Cond.methodLink RX2 41 yX0_has, Cond.instanceMethod yX0_has, Cond.selects RX0 yX0_has yX0_has, Cond.initialized RX0, Cond.code yX0_has cX0_has 2 (some .boolean), Cond.fieldLink RX0 9 "PortTimers$Flags" "raised" "I"]
def wsX5_readPortB_r2 : List Cond := [Cond.methodLink RX5 164 yX5_withTimersBit, Cond.instanceMethod yX5_withTimersBit, Cond.selects RX5 yX5_withTimersBit yX5_withTimersBit, Cond.code yX5_withTimersBit cX5_withTimersBit 2 (some .int), Cond.fieldLink RX5 33 "PortTimers" "timer1" "LPortTimers$Timer1;", Cond.methodLink RX5 66 yX2_touch, Cond.instanceMethod yX2_touch, Cond.selects RX2 yX2_touch yX2_touch, Cond.code yX2_touch cX2_touch 2 none, Cond.fieldLink RX2 19 "PortTimers$Side" "flagOfLine2" "I", Cond.methodLink RX2 50 yX0_lower, Cond.instanceMethod yX0_lower, Cond.selects RX0 yX0_lower yX0_lower, Cond.code yX0_lower cX0_lower 2 none, Cond.methodLink RX2 54 yX2_wayOfLine2, Cond.instanceMethod yX2_wayOfLine2, Cond.selects RX2 yX2_wayOfLine2 yX2_wayOfLine2, Cond.code yX2_wayOfLine2 cX2_wayOfLine2 1 (some .int), Cond.fieldLink RX2 28 "PortTimers$Side" "ways" "I"]
def wsX5_readPortB : List Cond := .code yX5_readPortB cX5_readPortB 2 (some .int) :: ((wsX5_readPortB_r1 ++ wsX5_readPortB_r2) ++ wsX50 ++ wsX20 ++ wsX00 ++ wsX30)
def wsX5_portA : List Cond := .code yX5_portA cX5_portA 1 (some .int) :: ([.fieldLink RX5 21 "PortTimers" "sideA" "LPortTimers$Side;", .methodLink RX5 143 yX5_controlHas, .instanceMethod yX5_controlHas, .selects RX5 yX5_controlHas yX5_controlHas, .initialized RX5, .code yX5_controlHas cX5_controlHas 2 (some .boolean), .fieldLink RX5 96 "PortTimers" "control" "I", .methodLink RX5 217 yX2_port, .instanceMethod yX2_port, .selects RX2 yX2_port yX2_port, .initialized RX2, .code yX2_port cX2_port 3 (some .int), .fieldLink RX2 9 "PortTimers$Side" "flags" "LPortTimers$Flags;", .fieldLink RX2 15 "PortTimers$Side" "flagOfLine1" "I", .fieldLink RX2 31 "PortTimers$Side" "heldPins" "I", .fieldLink RX2 47 "PortTimers$Side" "pins" "I", .fieldLink RX2 22 "PortTimers$Side" "out" "I", .fieldLink RX2 25 "PortTimers$Side" "directions" "I", .methodLink RX2 41 yX0_has, .instanceMethod yX0_has, .selects RX0 yX0_has yX0_has, .initialized RX0, .code yX0_has cX0_has 2 (some .boolean), .fieldLink RX0 9 "PortTimers$Flags" "raised" "I"] ++ wsX50 ++ wsX20 ++ wsX00)
def wsX5_readPortA_r1 : List Cond := [Cond.fieldLink RX5 21 "PortTimers" "sideA" "LPortTimers$Side;", Cond.methodLink RX5 135 yX5_portA, Cond.instanceMethod yX5_portA, Cond.selects RX5 yX5_portA yX5_portA, Cond.initialized RX5, Cond.code yX5_portA cX5_portA 1 (some .int), Cond.methodLink RX5 143 yX5_controlHas, Cond.instanceMethod yX5_controlHas, Cond.selects RX5 yX5_controlHas yX5_controlHas, Cond.code yX5_controlHas cX5_controlHas 2 (some .boolean), Cond.fieldLink RX5 96 "PortTimers" "control" "I", Cond.methodLink RX5 217 yX2_port, Cond.instanceMethod yX2_port, Cond.selects RX2 yX2_port yX2_port, Cond.initialized RX2, Cond.code yX2_port cX2_port 3 (some .int), Cond.fieldLink RX2 9 "PortTimers$Side" "flags" "LPortTimers$Flags;", Cond.fieldLink RX2 15 "PortTimers$Side" "flagOfLine1" "I", Cond.fieldLink RX2 31 "PortTimers$Side" "heldPins" "I", Cond.fieldLink RX2 47 "PortTimers$Side" "pins" "I", Cond.fieldLink RX2 22 "PortTimers$Side" "out" "I", Cond.fieldLink RX2 25 "PortTimers$Side" "directions" "I", Cond.methodLink RX2 41 yX0_has, Cond.instanceMethod yX0_has]
def wsX5_readPortA_r2 : List Cond := [Cond.selects RX0 yX0_has yX0_has, Cond.initialized RX0, Cond.code yX0_has cX0_has 2 (some .boolean), Cond.fieldLink RX0 9 "PortTimers$Flags" "raised" "I", Cond.methodLink RX5 66 yX2_touch, Cond.instanceMethod yX2_touch, Cond.selects RX2 yX2_touch yX2_touch, Cond.code yX2_touch cX2_touch 2 none, Cond.fieldLink RX2 19 "PortTimers$Side" "flagOfLine2" "I", Cond.methodLink RX2 50 yX0_lower, Cond.instanceMethod yX0_lower, Cond.selects RX0 yX0_lower yX0_lower, Cond.code yX0_lower cX0_lower 2 none, Cond.methodLink RX2 54 yX2_wayOfLine2, Cond.instanceMethod yX2_wayOfLine2, Cond.selects RX2 yX2_wayOfLine2 yX2_wayOfLine2, Cond.code yX2_wayOfLine2 cX2_wayOfLine2 1 (some .int), Cond.fieldLink RX2 28 "PortTimers$Side" "ways" "I", Cond.methodLink RX5 69 yX2_giveTouch, Cond.instanceMethod yX2_giveTouch, Cond.selects RX2 yX2_giveTouch yX2_giveTouch, Cond.code yX2_giveTouch cX2_giveTouch 2 none, Cond.fieldLink RX2 34 "PortTimers$Side" "lowUntilEdge" "Z", Cond.fieldLink RX2 38 "PortTimers$Side" "lowUntilCycle" "Z"]
def wsX5_readPortA : List Cond := .code yX5_readPortA cX5_readPortA 2 (some .int) :: ((wsX5_readPortA_r1 ++ wsX5_readPortA_r2) ++ wsX50 ++ wsX20 ++ wsX00)
def wsX5_lowByte : List Cond := .code yX5_lowByte cX5_lowByte 1 (some .int) :: ([])
def wsX5_highByte : List Cond := .code yX5_highByte cX5_highByte 1 (some .int) :: ([])
def wsX5_read_r1 : List Cond := [Cond.classLink RX5 55 "java/lang/IllegalArgumentException", Cond.initialized "java/lang/IllegalArgumentException", Cond.fieldLink RX5 25 "PortTimers" "sideB" "LPortTimers$Side;", Cond.fieldLink RX5 21 "PortTimers" "sideA" "LPortTimers$Side;", Cond.fieldLink RX5 10 "PortTimers" "flags" "LPortTimers$Flags;", Cond.fieldLink RX5 33 "PortTimers" "timer1" "LPortTimers$Timer1;", Cond.fieldLink RX5 40 "PortTimers" "timer2" "LPortTimers$Timer2;", Cond.fieldLink RX5 47 "PortTimers" "shifter" "LPortTimers$Shifter;", Cond.fieldLink RX5 96 "PortTimers" "control" "I", Cond.methodLink RX5 110 yX5_readPortB, Cond.instanceMethod yX5_readPortB, Cond.selects RX5 yX5_readPortB yX5_readPortB, Cond.initialized RX5, Cond.code yX5_readPortB cX5_readPortB 2 (some .int), Cond.methodLink RX5 143 yX5_controlHas, Cond.instanceMethod yX5_controlHas, Cond.selects RX5 yX5_controlHas yX5_controlHas, Cond.code yX5_controlHas cX5_controlHas 2 (some .boolean), Cond.methodLink RX5 217 yX2_port, Cond.instanceMethod yX2_port, Cond.selects RX2 yX2_port yX2_port, Cond.initialized RX2, Cond.code yX2_port cX2_port 3 (some .int), Cond.fieldLink RX2 9 "PortTimers$Side" "flags" "LPortTimers$Flags;"]
def wsX5_read_r2 : List Cond := [Cond.fieldLink RX2 15 "PortTimers$Side" "flagOfLine1" "I", Cond.fieldLink RX2 31 "PortTimers$Side" "heldPins" "I", Cond.fieldLink RX2 47 "PortTimers$Side" "pins" "I", Cond.fieldLink RX2 22 "PortTimers$Side" "out" "I", Cond.fieldLink RX2 25 "PortTimers$Side" "directions" "I", Cond.methodLink RX2 41 yX0_has, Cond.instanceMethod yX0_has, Cond.selects RX0 yX0_has yX0_has, Cond.initialized RX0, Cond.code yX0_has cX0_has 2 (some .boolean), Cond.fieldLink RX0 9 "PortTimers$Flags" "raised" "I", Cond.methodLink RX5 164 yX5_withTimersBit, Cond.instanceMethod yX5_withTimersBit, Cond.selects RX5 yX5_withTimersBit yX5_withTimersBit, Cond.code yX5_withTimersBit cX5_withTimersBit 2 (some .int), Cond.methodLink RX5 66 yX2_touch, Cond.instanceMethod yX2_touch, Cond.selects RX2 yX2_touch yX2_touch, Cond.code yX2_touch cX2_touch 2 none, Cond.fieldLink RX2 19 "PortTimers$Side" "flagOfLine2" "I", Cond.methodLink RX2 50 yX0_lower, Cond.instanceMethod yX0_lower, Cond.selects RX0 yX0_lower yX0_lower, Cond.code yX0_lower cX0_lower 2 none]
def wsX5_read_r3 : List Cond := [Cond.methodLink RX2 54 yX2_wayOfLine2, Cond.instanceMethod yX2_wayOfLine2, Cond.selects RX2 yX2_wayOfLine2 yX2_wayOfLine2, Cond.code yX2_wayOfLine2 cX2_wayOfLine2 1 (some .int), Cond.fieldLink RX2 28 "PortTimers$Side" "ways" "I", Cond.methodLink RX5 114 yX5_readPortA, Cond.instanceMethod yX5_readPortA, Cond.selects RX5 yX5_readPortA yX5_readPortA, Cond.code yX5_readPortA cX5_readPortA 2 (some .int), Cond.methodLink RX5 135 yX5_portA, Cond.instanceMethod yX5_portA, Cond.selects RX5 yX5_portA yX5_portA, Cond.code yX5_portA cX5_portA 1 (some .int), Cond.methodLink RX5 69 yX2_giveTouch, Cond.instanceMethod yX2_giveTouch, Cond.selects RX2 yX2_giveTouch yX2_giveTouch, Cond.code yX2_giveTouch cX2_giveTouch 2 none, Cond.fieldLink RX2 34 "PortTimers$Side" "lowUntilEdge" "Z", Cond.fieldLink RX2 38 "PortTimers$Side" "lowUntilCycle" "Z", Cond.methodLink RX5 102 yX0_lower, Cond.methodLink RX5 120 yX5_lowByte, Cond.static yX5_lowByte, Cond.code yX5_lowByte cX5_lowByte 1 (some .int), Cond.methodLink RX5 124 yX5_highByte]
def wsX5_read_r4 : List Cond := [Cond.static yX5_highByte, Cond.code yX5_highByte cX5_highByte 1 (some .int), Cond.methodLink RX5 93 yX1_begin, Cond.instanceMethod yX1_begin, Cond.selects RX1 yX1_begin yX1_begin, Cond.initialized RX1, Cond.code yX1_begin cX1_begin 1 none, Cond.fieldLink RX1 15 "PortTimers$Shifter" "flags" "LPortTimers$Flags;", Cond.fieldLink RX1 22 "PortTimers$Shifter" "toCome" "I", Cond.fieldLink RX1 25 "PortTimers$Shifter" "halfway" "Z", Cond.methodLink RX1 29 yX0_lower, Cond.methodLink RX5 129 yX0_withCall, Cond.instanceMethod yX0_withCall, Cond.selects RX0 yX0_withCall yX0_withCall, Cond.code yX0_withCall cX0_withCall 1 (some .int), Cond.methodLink RX0 18 yX0_call, Cond.instanceMethod yX0_call, Cond.selects RX0 yX0_call yX0_call, Cond.code yX0_call cX0_call 1 (some .boolean), Cond.fieldLink RX0 15 "PortTimers$Flags" "enabled" "I"]
def wsX5_read : List Cond := .code yX5_read cX5_read 2 (some .int) :: ((wsX5_read_r1 ++ (wsX5_read_r2 ++ (wsX5_read_r3 ++ wsX5_read_r4))) ++ wsX50 ++ wsX20 ++ wsX30 ++ wsX40 ++ wsX10 ++ wsX00 ++ (vx_atS RX5 59 "java/lang/IllegalArgumentException" ["java/lang/RuntimeException", "java/lang/Exception"]).filter goodWord)
def wsX5_pins_r1 : List Cond := [Cond.classLink RX5 55 "java/lang/IllegalArgumentException", Cond.initialized "java/lang/IllegalArgumentException", Cond.fieldLink RX5 25 "PortTimers" "sideB" "LPortTimers$Side;", Cond.fieldLink RX5 21 "PortTimers" "sideA" "LPortTimers$Side;", Cond.fieldLink RX5 40 "PortTimers" "timer2" "LPortTimers$Timer2;", Cond.methodLink RX5 51 yX5_isByte, Cond.static yX5_isByte, Cond.initialized RX5, Cond.code yX5_isByte cX5_isByte 1 (some .boolean), Cond.methodLink RX5 143 yX5_controlHas, Cond.instanceMethod yX5_controlHas, Cond.selects RX5 yX5_controlHas yX5_controlHas, Cond.code yX5_controlHas cX5_controlHas 2 (some .boolean), Cond.fieldLink RX5 96 "PortTimers" "control" "I", Cond.methodLink RX5 146 yX4_countDown, Cond.instanceMethod yX4_countDown, Cond.selects RX4 yX4_countDown yX4_countDown, Cond.initialized RX4, Cond.code yX4_countDown cX4_countDown 2 none, Cond.fieldLink RX4 15 "PortTimers$Timer2" "count" "I", Cond.fieldLink RX4 22 "PortTimers$Timer2" "armed" "Z", Cond.fieldLink RX4 9 "PortTimers$Timer2" "flags" "LPortTimers$Flags;", Cond.constant RX4 35 (65535), Cond.methodLink RX4 32 yX0_raise]
def wsX5_pins_r2 : List Cond := [Cond.instanceMethod yX0_raise, Cond.selects RX0 yX0_raise yX0_raise, Cond.initialized RX0, Cond.code yX0_raise cX0_raise 2 none, Cond.fieldLink RX0 9 "PortTimers$Flags" "raised" "I"]
def wsX5_pins : List Cond := .code yX5_pins cX5_pins 4 none :: ((wsX5_pins_r1 ++ wsX5_pins_r2) ++ wsX50 ++ wsX20 ++ wsX40 ++ wsX00 ++ (vx_atS RX5 59 "java/lang/IllegalArgumentException" ["java/lang/RuntimeException", "java/lang/Exception"]).filter goodWord)
def wsX5_line_r1 : List Cond := [Cond.classLink RX5 55 "java/lang/IllegalArgumentException", Cond.initialized "java/lang/IllegalArgumentException", Cond.fieldLink RX5 21 "PortTimers" "sideA" "LPortTimers$Side;", Cond.fieldLink RX5 25 "PortTimers" "sideB" "LPortTimers$Side;", Cond.methodLink RX5 149 yX2_moveLine1, Cond.instanceMethod yX2_moveLine1, Cond.selects RX2 yX2_moveLine1 yX2_moveLine1, Cond.initialized RX2, Cond.code yX2_moveLine1 cX2_moveLine1 4 (some .boolean), Cond.fieldLink RX2 28 "PortTimers$Side" "ways" "I", Cond.fieldLink RX2 58 "PortTimers$Side" "line1" "Z", Cond.fieldLink RX2 9 "PortTimers$Side" "flags" "LPortTimers$Flags;", Cond.fieldLink RX2 15 "PortTimers$Side" "flagOfLine1" "I", Cond.fieldLink RX2 47 "PortTimers$Side" "pins" "I", Cond.fieldLink RX2 31 "PortTimers$Side" "heldPins" "I", Cond.fieldLink RX2 34 "PortTimers$Side" "lowUntilEdge" "Z", Cond.methodLink RX2 61 yX0_raise, Cond.instanceMethod yX0_raise, Cond.selects RX0 yX0_raise yX0_raise, Cond.initialized RX0, Cond.code yX0_raise cX0_raise 2 none, Cond.fieldLink RX0 9 "PortTimers$Flags" "raised" "I", Cond.methodLink RX5 153 yX2_moveLine2, Cond.instanceMethod yX2_moveLine2]
def wsX5_line_r2 : List Cond := [Cond.selects RX2 yX2_moveLine2 yX2_moveLine2, Cond.code yX2_moveLine2 cX2_moveLine2 5 (some .boolean), Cond.fieldLink RX2 64 "PortTimers$Side" "line2" "Z", Cond.fieldLink RX2 19 "PortTimers$Side" "flagOfLine2" "I", Cond.methodLink RX2 54 yX2_wayOfLine2, Cond.instanceMethod yX2_wayOfLine2, Cond.selects RX2 yX2_wayOfLine2 yX2_wayOfLine2, Cond.code yX2_wayOfLine2 cX2_wayOfLine2 1 (some .int)]
def wsX5_line : List Cond := .code yX5_line cX5_line 3 (some .boolean) :: ((wsX5_line_r1 ++ wsX5_line_r2) ++ wsX50 ++ wsX20 ++ wsX00 ++ (vx_atS RX5 59 "java/lang/IllegalArgumentException" ["java/lang/RuntimeException", "java/lang/Exception"]).filter goodWord)
def wsX5_mode : List Cond := .code yX5_mode cX5_mode 1 (some .int) :: ([.fieldLink RX5 96 "PortTimers" "control" "I"] ++ wsX50)
def wsX5_goOn_r1 : List Cond := [Cond.fieldLink RX5 33 "PortTimers" "timer1" "LPortTimers$Timer1;", Cond.fieldLink RX5 40 "PortTimers" "timer2" "LPortTimers$Timer2;", Cond.fieldLink RX5 47 "PortTimers" "shifter" "LPortTimers$Shifter;", Cond.fieldLink RX5 25 "PortTimers" "sideB" "LPortTimers$Side;", Cond.fieldLink RX5 21 "PortTimers" "sideA" "LPortTimers$Side;", Cond.fieldLink RX5 190 "PortTimers" "cycles" "I", Cond.methodLink RX5 143 yX5_controlHas, Cond.instanceMethod yX5_controlHas, Cond.selects RX5 yX5_controlHas yX5_controlHas, Cond.initialized RX5, Cond.code yX5_controlHas cX5_controlHas 2 (some .boolean), Cond.fieldLink RX5 96 "PortTimers" "control" "I", Cond.methodLink RX5 202 yX3_goOn, Cond.instanceMethod yX3_goOn, Cond.selects RX3 yX3_goOn yX3_goOn, Cond.initialized RX3, Cond.code yX3_goOn cX3_goOn 3 none, Cond.methodLink RX3 38 yX3_runFreely, Cond.instanceMethod yX3_runFreely, Cond.selects RX3 yX3_runFreely yX3_runFreely, Cond.code yX3_runFreely cX3_runFreely 3 none, Cond.fieldLink RX3 29 "PortTimers$Timer1" "latchIsDue" "Z", Cond.fieldLink RX3 22 "PortTimers$Timer1" "latch" "I", Cond.fieldLink RX3 19 "PortTimers$Timer1" "count" "I"]
def wsX5_goOn_r2 : List Cond := [Cond.methodLink RX3 48 yX3_runOut, Cond.instanceMethod yX3_runOut, Cond.selects RX3 yX3_runOut yX3_runOut, Cond.code yX3_runOut cX3_runOut 5 none, Cond.fieldLink RX3 15 "PortTimers$Timer1" "flags" "LPortTimers$Flags;", Cond.fieldLink RX3 9 "PortTimers$Timer1" "bit" "I", Cond.constant RX3 47 (65535), Cond.methodLink RX3 44 yX0_raise, Cond.instanceMethod yX0_raise, Cond.selects RX0 yX0_raise yX0_raise, Cond.initialized RX0, Cond.code yX0_raise cX0_raise 2 none, Cond.fieldLink RX0 9 "PortTimers$Flags" "raised" "I", Cond.methodLink RX3 41 yX3_runOnce, Cond.instanceMethod yX3_runOnce, Cond.selects RX3 yX3_runOnce yX3_runOnce, Cond.code yX3_runOnce cX3_runOnce 2 none, Cond.fieldLink RX3 25 "PortTimers$Timer1" "armed" "Z", Cond.methodLink RX5 146 yX4_countDown, Cond.instanceMethod yX4_countDown, Cond.selects RX4 yX4_countDown yX4_countDown, Cond.initialized RX4, Cond.code yX4_countDown cX4_countDown 2 none, Cond.fieldLink RX4 15 "PortTimers$Timer2" "count" "I"]
def wsX5_goOn_r3 : List Cond := [Cond.fieldLink RX4 22 "PortTimers$Timer2" "armed" "Z", Cond.fieldLink RX4 9 "PortTimers$Timer2" "flags" "LPortTimers$Flags;", Cond.constant RX4 35 (65535), Cond.methodLink RX4 32 yX0_raise, Cond.methodLink RX5 205 yX5_mode, Cond.instanceMethod yX5_mode, Cond.selects RX5 yX5_mode yX5_mode, Cond.code yX5_mode cX5_mode 1 (some .int), Cond.methodLink RX5 211 yX1_goOn, Cond.instanceMethod yX1_goOn, Cond.selects RX1 yX1_goOn yX1_goOn, Cond.initialized RX1, Cond.code yX1_goOn cX1_goOn 5 none, Cond.fieldLink RX1 22 "PortTimers$Shifter" "toCome" "I", Cond.fieldLink RX1 25 "PortTimers$Shifter" "halfway" "Z", Cond.methodLink RX1 35 yX1_shift, Cond.instanceMethod yX1_shift, Cond.selects RX1 yX1_shift yX1_shift, Cond.code yX1_shift cX1_shift 5 none, Cond.fieldLink RX1 19 "PortTimers$Shifter" "bits" "I", Cond.fieldLink RX1 9 "PortTimers$Shifter" "given" "I", Cond.fieldLink RX1 15 "PortTimers$Shifter" "flags" "LPortTimers$Flags;", Cond.methodLink RX1 39 yX0_raise, Cond.methodLink RX5 214 yX2_endCycle]
def wsX5_goOn_r4 : List Cond := [Cond.instanceMethod yX2_endCycle, Cond.selects RX2 yX2_endCycle yX2_endCycle, Cond.initialized RX2, Cond.code yX2_endCycle cX2_endCycle 1 none, Cond.fieldLink RX2 38 "PortTimers$Side" "lowUntilCycle" "Z"]
def wsX5_goOn : List Cond := .code yX5_goOn cX5_goOn 2 none :: ((wsX5_goOn_r1 ++ (wsX5_goOn_r2 ++ (wsX5_goOn_r3 ++ wsX5_goOn_r4))) ++ wsX50 ++ wsX20 ++ wsX30 ++ wsX00 ++ wsX40 ++ wsX10)
def wsX5_step_r1 : List Cond := [Cond.classLink RX5 55 "java/lang/IllegalArgumentException", Cond.initialized "java/lang/IllegalArgumentException", Cond.constant RX5 158 (200000), Cond.fieldLink RX5 10 "PortTimers" "flags" "LPortTimers$Flags;", Cond.methodLink RX5 161 yX5_goOn, Cond.instanceMethod yX5_goOn, Cond.selects RX5 yX5_goOn yX5_goOn, Cond.initialized RX5, Cond.code yX5_goOn cX5_goOn 2 none, Cond.fieldLink RX5 33 "PortTimers" "timer1" "LPortTimers$Timer1;", Cond.fieldLink RX5 40 "PortTimers" "timer2" "LPortTimers$Timer2;", Cond.fieldLink RX5 47 "PortTimers" "shifter" "LPortTimers$Shifter;", Cond.fieldLink RX5 25 "PortTimers" "sideB" "LPortTimers$Side;", Cond.fieldLink RX5 21 "PortTimers" "sideA" "LPortTimers$Side;", Cond.fieldLink RX5 190 "PortTimers" "cycles" "I", Cond.methodLink RX5 143 yX5_controlHas, Cond.instanceMethod yX5_controlHas, Cond.selects RX5 yX5_controlHas yX5_controlHas, Cond.code yX5_controlHas cX5_controlHas 2 (some .boolean), Cond.fieldLink RX5 96 "PortTimers" "control" "I", Cond.methodLink RX5 202 yX3_goOn, Cond.instanceMethod yX3_goOn, Cond.selects RX3 yX3_goOn yX3_goOn, Cond.initialized RX3]
def wsX5_step_r2 : List Cond := [Cond.code yX3_goOn cX3_goOn 3 none, Cond.methodLink RX3 38 yX3_runFreely, Cond.instanceMethod yX3_runFreely, Cond.selects RX3 yX3_runFreely yX3_runFreely, Cond.code yX3_runFreely cX3_runFreely 3 none, Cond.fieldLink RX3 29 "PortTimers$Timer1" "latchIsDue" "Z", Cond.fieldLink RX3 22 "PortTimers$Timer1" "latch" "I", Cond.fieldLink RX3 19 "PortTimers$Timer1" "count" "I", Cond.methodLink RX3 48 yX3_runOut, Cond.instanceMethod yX3_runOut, Cond.selects RX3 yX3_runOut yX3_runOut, Cond.code yX3_runOut cX3_runOut 5 none, Cond.fieldLink RX3 15 "PortTimers$Timer1" "flags" "LPortTimers$Flags;", Cond.fieldLink RX3 9 "PortTimers$Timer1" "bit" "I", Cond.constant RX3 47 (65535), Cond.methodLink RX3 44 yX0_raise, Cond.instanceMethod yX0_raise, Cond.selects RX0 yX0_raise yX0_raise, Cond.initialized RX0, Cond.code yX0_raise cX0_raise 2 none, Cond.fieldLink RX0 9 "PortTimers$Flags" "raised" "I", Cond.methodLink RX3 41 yX3_runOnce, Cond.instanceMethod yX3_runOnce, Cond.selects RX3 yX3_runOnce yX3_runOnce]
def wsX5_step_r3 : List Cond := [Cond.code yX3_runOnce cX3_runOnce 2 none, Cond.fieldLink RX3 25 "PortTimers$Timer1" "armed" "Z", Cond.methodLink RX5 146 yX4_countDown, Cond.instanceMethod yX4_countDown, Cond.selects RX4 yX4_countDown yX4_countDown, Cond.initialized RX4, Cond.code yX4_countDown cX4_countDown 2 none, Cond.fieldLink RX4 15 "PortTimers$Timer2" "count" "I", Cond.fieldLink RX4 22 "PortTimers$Timer2" "armed" "Z", Cond.fieldLink RX4 9 "PortTimers$Timer2" "flags" "LPortTimers$Flags;", Cond.constant RX4 35 (65535), Cond.methodLink RX4 32 yX0_raise, Cond.methodLink RX5 205 yX5_mode, Cond.instanceMethod yX5_mode, Cond.selects RX5 yX5_mode yX5_mode, Cond.code yX5_mode cX5_mode 1 (some .int), Cond.methodLink RX5 211 yX1_goOn, Cond.instanceMethod yX1_goOn, Cond.selects RX1 yX1_goOn yX1_goOn, Cond.initialized RX1, Cond.code yX1_goOn cX1_goOn 5 none, Cond.fieldLink RX1 22 "PortTimers$Shifter" "toCome" "I", Cond.fieldLink RX1 25 "PortTimers$Shifter" "halfway" "Z", Cond.methodLink RX1 35 yX1_shift]
def wsX5_step_r4 : List Cond := [Cond.instanceMethod yX1_shift, Cond.selects RX1 yX1_shift yX1_shift, Cond.code yX1_shift cX1_shift 5 none, Cond.fieldLink RX1 19 "PortTimers$Shifter" "bits" "I", Cond.fieldLink RX1 9 "PortTimers$Shifter" "given" "I", Cond.fieldLink RX1 15 "PortTimers$Shifter" "flags" "LPortTimers$Flags;", Cond.methodLink RX1 39 yX0_raise, Cond.methodLink RX5 214 yX2_endCycle, Cond.instanceMethod yX2_endCycle, Cond.selects RX2 yX2_endCycle yX2_endCycle, Cond.initialized RX2, Cond.code yX2_endCycle cX2_endCycle 1 none, Cond.fieldLink RX2 38 "PortTimers$Side" "lowUntilCycle" "Z", Cond.methodLink RX5 129 yX0_withCall, Cond.instanceMethod yX0_withCall, Cond.selects RX0 yX0_withCall yX0_withCall, Cond.code yX0_withCall cX0_withCall 1 (some .int), Cond.methodLink RX0 18 yX0_call, Cond.instanceMethod yX0_call, Cond.selects RX0 yX0_call yX0_call, Cond.code yX0_call cX0_call 1 (some .boolean), Cond.fieldLink RX0 15 "PortTimers$Flags" "enabled" "I"]
def wsX5_step : List Cond := .code yX5_step cX5_step 2 (some .int) :: ((wsX5_step_r1 ++ (wsX5_step_r2 ++ (wsX5_step_r3 ++ wsX5_step_r4))) ++ wsX50 ++ wsX20 ++ wsX30 ++ wsX00 ++ wsX40 ++ wsX10 ++ (vx_atS RX5 59 "java/lang/IllegalArgumentException" ["java/lang/RuntimeException", "java/lang/Exception"]).filter goodWord)
def wsX5_lineCB2Gives : List Cond := .code yX5_lineCB2Gives cX5_lineCB2Gives 2 (some .int) :: ([.fieldLink RX5 25 "PortTimers" "sideB" "LPortTimers$Side;", .fieldLink RX5 47 "PortTimers" "shifter" "LPortTimers$Shifter;", .methodLink RX5 221 yX2_wayOfLine2, .instanceMethod yX2_wayOfLine2, .selects RX2 yX2_wayOfLine2 yX2_wayOfLine2, .initialized RX2, .code yX2_wayOfLine2 cX2_wayOfLine2 1 (some .int), .fieldLink RX2 28 "PortTimers$Side" "ways" "I", .methodLink RX5 205 yX5_mode, .instanceMethod yX5_mode, .selects RX5 yX5_mode yX5_mode, .initialized RX5, .code yX5_mode cX5_mode 1 (some .int), .fieldLink RX5 96 "PortTimers" "control" "I", .methodLink RX5 167 yX2_line2Gives, .instanceMethod yX2_line2Gives, .selects RX2 yX2_line2Gives yX2_line2Gives, .code yX2_line2Gives cX2_line2Gives 3 (some .int), .fieldLink RX2 34 "PortTimers$Side" "lowUntilEdge" "Z", .fieldLink RX2 38 "PortTimers$Side" "lowUntilCycle" "Z", .methodLink RX2 54 yX2_wayOfLine2] ++ wsX50 ++ wsX10 ++ wsX20)
def wsX5_out_r1 : List Cond := [Cond.classLink RX5 55 "java/lang/IllegalArgumentException", Cond.initialized "java/lang/IllegalArgumentException", Cond.fieldLink RX5 21 "PortTimers" "sideA" "LPortTimers$Side;", Cond.fieldLink RX5 25 "PortTimers" "sideB" "LPortTimers$Side;", Cond.fieldLink RX5 10 "PortTimers" "flags" "LPortTimers$Flags;", Cond.methodLink RX5 164 yX5_withTimersBit, Cond.instanceMethod yX5_withTimersBit, Cond.selects RX5 yX5_withTimersBit yX5_withTimersBit, Cond.initialized RX5, Cond.code yX5_withTimersBit cX5_withTimersBit 2 (some .int), Cond.fieldLink RX5 33 "PortTimers" "timer1" "LPortTimers$Timer1;", Cond.methodLink RX5 143 yX5_controlHas, Cond.instanceMethod yX5_controlHas, Cond.selects RX5 yX5_controlHas yX5_controlHas, Cond.code yX5_controlHas cX5_controlHas 2 (some .boolean), Cond.fieldLink RX5 96 "PortTimers" "control" "I", Cond.methodLink RX5 167 yX2_line2Gives, Cond.instanceMethod yX2_line2Gives, Cond.selects RX2 yX2_line2Gives yX2_line2Gives, Cond.initialized RX2, Cond.code yX2_line2Gives cX2_line2Gives 3 (some .int), Cond.fieldLink RX2 34 "PortTimers$Side" "lowUntilEdge" "Z", Cond.fieldLink RX2 38 "PortTimers$Side" "lowUntilCycle" "Z", Cond.methodLink RX2 54 yX2_wayOfLine2]
def wsX5_out_r2 : List Cond := [Cond.instanceMethod yX2_wayOfLine2, Cond.selects RX2 yX2_wayOfLine2 yX2_wayOfLine2, Cond.code yX2_wayOfLine2 cX2_wayOfLine2 1 (some .int), Cond.fieldLink RX2 28 "PortTimers$Side" "ways" "I", Cond.methodLink RX5 170 yX5_lineCB2Gives, Cond.instanceMethod yX5_lineCB2Gives, Cond.selects RX5 yX5_lineCB2Gives yX5_lineCB2Gives, Cond.code yX5_lineCB2Gives cX5_lineCB2Gives 2 (some .int), Cond.fieldLink RX5 47 "PortTimers" "shifter" "LPortTimers$Shifter;", Cond.methodLink RX5 221 yX2_wayOfLine2, Cond.methodLink RX5 205 yX5_mode, Cond.instanceMethod yX5_mode, Cond.selects RX5 yX5_mode yX5_mode, Cond.code yX5_mode cX5_mode 1 (some .int), Cond.methodLink RX5 173 yX0_call, Cond.instanceMethod yX0_call, Cond.selects RX0 yX0_call yX0_call, Cond.initialized RX0, Cond.code yX0_call cX0_call 1 (some .boolean), Cond.fieldLink RX0 9 "PortTimers$Flags" "raised" "I", Cond.fieldLink RX0 15 "PortTimers$Flags" "enabled" "I"]
def wsX5_out : List Cond := .code yX5_out cX5_out 2 (some .int) :: ((wsX5_out_r1 ++ wsX5_out_r2) ++ wsX50 ++ wsX20 ++ wsX30 ++ wsX10 ++ wsX00 ++ (vx_atS RX5 59 "java/lang/IllegalArgumentException" ["java/lang/RuntimeException", "java/lang/Exception"]).filter goodWord)
def wsX5_told : List Cond := .code yX5_told cX5_told 2 (some .int) :: ([.classLink RX5 55 "java/lang/IllegalArgumentException", .initialized "java/lang/IllegalArgumentException", .fieldLink RX5 33 "PortTimers" "timer1" "LPortTimers$Timer1;", .fieldLink RX5 40 "PortTimers" "timer2" "LPortTimers$Timer2;", .fieldLink RX5 47 "PortTimers" "shifter" "LPortTimers$Shifter;", .fieldLink RX5 190 "PortTimers" "cycles" "I"] ++ wsX50 ++ wsX30 ++ wsX40 ++ wsX10 ++ (vx_atS RX5 59 "java/lang/IllegalArgumentException" ["java/lang/RuntimeException", "java/lang/Exception"]).filter goodWord)
def wsX5_reset_r1 : List Cond := [Cond.fieldLink RX5 10 "PortTimers" "flags" "LPortTimers$Flags;", Cond.fieldLink RX5 21 "PortTimers" "sideA" "LPortTimers$Side;", Cond.fieldLink RX5 25 "PortTimers" "sideB" "LPortTimers$Side;", Cond.fieldLink RX5 33 "PortTimers" "timer1" "LPortTimers$Timer1;", Cond.fieldLink RX5 40 "PortTimers" "timer2" "LPortTimers$Timer2;", Cond.fieldLink RX5 47 "PortTimers" "shifter" "LPortTimers$Shifter;", Cond.fieldLink RX5 96 "PortTimers" "control" "I", Cond.fieldLink RX5 190 "PortTimers" "cycles" "I", Cond.methodLink RX5 195 yX0_clear, Cond.instanceMethod yX0_clear, Cond.selects RX0 yX0_clear yX0_clear, Cond.initialized RX0, Cond.code yX0_clear cX0_clear 1 none, Cond.fieldLink RX0 9 "PortTimers$Flags" "raised" "I", Cond.fieldLink RX0 15 "PortTimers$Flags" "enabled" "I", Cond.methodLink RX5 198 yX2_clear, Cond.instanceMethod yX2_clear, Cond.selects RX2 yX2_clear yX2_clear, Cond.initialized RX2, Cond.code yX2_clear cX2_clear 1 none, Cond.fieldLink RX2 22 "PortTimers$Side" "out" "I", Cond.fieldLink RX2 25 "PortTimers$Side" "directions" "I", Cond.fieldLink RX2 28 "PortTimers$Side" "ways" "I", Cond.fieldLink RX2 31 "PortTimers$Side" "heldPins" "I"]
def wsX5_reset_r2 : List Cond := [Cond.fieldLink RX2 34 "PortTimers$Side" "lowUntilEdge" "Z", Cond.fieldLink RX2 38 "PortTimers$Side" "lowUntilCycle" "Z", Cond.methodLink RX5 199 yX3_clear, Cond.instanceMethod yX3_clear, Cond.selects RX3 yX3_clear yX3_clear, Cond.initialized RX3, Cond.code yX3_clear cX3_clear 1 none, Cond.fieldLink RX3 19 "PortTimers$Timer1" "count" "I", Cond.fieldLink RX3 22 "PortTimers$Timer1" "latch" "I", Cond.fieldLink RX3 9 "PortTimers$Timer1" "bit" "I", Cond.fieldLink RX3 25 "PortTimers$Timer1" "armed" "Z", Cond.fieldLink RX3 29 "PortTimers$Timer1" "latchIsDue" "Z", Cond.methodLink RX5 200 yX4_clear, Cond.instanceMethod yX4_clear, Cond.selects RX4 yX4_clear yX4_clear, Cond.initialized RX4, Cond.code yX4_clear cX4_clear 1 none, Cond.fieldLink RX4 15 "PortTimers$Timer2" "count" "I", Cond.fieldLink RX4 19 "PortTimers$Timer2" "latch" "I", Cond.fieldLink RX4 22 "PortTimers$Timer2" "armed" "Z", Cond.methodLink RX5 201 yX1_clear, Cond.instanceMethod yX1_clear, Cond.selects RX1 yX1_clear yX1_clear, Cond.initialized RX1]
def wsX5_reset_r3 : List Cond := [Cond.code yX1_clear cX1_clear 1 none, Cond.fieldLink RX1 19 "PortTimers$Shifter" "bits" "I", Cond.fieldLink RX1 22 "PortTimers$Shifter" "toCome" "I", Cond.fieldLink RX1 9 "PortTimers$Shifter" "given" "I", Cond.fieldLink RX1 25 "PortTimers$Shifter" "halfway" "Z"]
def wsX5_reset : List Cond := .code yX5_reset cX5_reset 1 none :: ((wsX5_reset_r1 ++ (wsX5_reset_r2 ++ wsX5_reset_r3)) ++ wsX50 ++ wsX00 ++ wsX20 ++ wsX30 ++ wsX40 ++ wsX10)
def wsX6_clear_r1 : List Cond := [Cond.fieldLink RX6 20 "PortTimersModel" "outA" "I", Cond.fieldLink RX6 23 "PortTimersModel" "outB" "I", Cond.fieldLink RX6 26 "PortTimersModel" "directionsA" "I", Cond.fieldLink RX6 29 "PortTimersModel" "directionsB" "I", Cond.fieldLink RX6 32 "PortTimersModel" "control" "I", Cond.fieldLink RX6 35 "PortTimersModel" "ways" "I", Cond.fieldLink RX6 38 "PortTimersModel" "flags" "I", Cond.fieldLink RX6 41 "PortTimersModel" "enabled" "I", Cond.fieldLink RX6 44 "PortTimersModel" "heldA" "I", Cond.fieldLink RX6 47 "PortTimersModel" "heldB" "I", Cond.fieldLink RX6 50 "PortTimersModel" "untilA" "Z", Cond.fieldLink RX6 54 "PortTimersModel" "onceA" "Z", Cond.fieldLink RX6 57 "PortTimersModel" "untilB" "Z", Cond.fieldLink RX6 60 "PortTimersModel" "onceB" "Z", Cond.fieldLink RX6 63 "PortTimersModel" "timer1" "I", Cond.fieldLink RX6 66 "PortTimersModel" "latch1" "I", Cond.fieldLink RX6 69 "PortTimersModel" "armed1" "Z", Cond.fieldLink RX6 72 "PortTimersModel" "reloads" "Z", Cond.fieldLink RX6 75 "PortTimersModel" "bit" "Z", Cond.fieldLink RX6 78 "PortTimersModel" "timer2" "I", Cond.fieldLink RX6 81 "PortTimersModel" "latch2" "I", Cond.fieldLink RX6 84 "PortTimersModel" "armed2" "Z", Cond.fieldLink RX6 87 "PortTimersModel" "shifter" "I", Cond.fieldLink RX6 90 "PortTimersModel" "shifts" "I"]
def wsX6_clear_r2 : List Cond := [Cond.fieldLink RX6 93 "PortTimersModel" "wait" "I", Cond.fieldLink RX6 96 "PortTimersModel" "shifted" "I", Cond.fieldLink RX6 99 "PortTimersModel" "cycles" "I"]
def wsX6_clear : List Cond := .code yX6_clear cX6_clear 1 none :: ((wsX6_clear_r1 ++ wsX6_clear_r2) ++ wsX60)
def wsX6_init_r1 : List Cond := [Cond.methodLink RX6 1 objectInit, Cond.instanceMethod objectInit, Cond.code objectInit ⟨#[0xb1]⟩ 1 none, Cond.arrayClass .boolean, Cond.fieldLink RX6 7 "PortTimersModel" "lines" "[Z", Cond.methodLink RX6 13 yX6_clear, Cond.instanceMethod yX6_clear, Cond.selects RX6 yX6_clear yX6_clear, Cond.initialized RX6, Cond.code yX6_clear cX6_clear 1 none, Cond.fieldLink RX6 20 "PortTimersModel" "outA" "I", Cond.fieldLink RX6 23 "PortTimersModel" "outB" "I", Cond.fieldLink RX6 26 "PortTimersModel" "directionsA" "I", Cond.fieldLink RX6 29 "PortTimersModel" "directionsB" "I", Cond.fieldLink RX6 32 "PortTimersModel" "control" "I", Cond.fieldLink RX6 35 "PortTimersModel" "ways" "I", Cond.fieldLink RX6 38 "PortTimersModel" "flags" "I", Cond.fieldLink RX6 41 "PortTimersModel" "enabled" "I", Cond.fieldLink RX6 44 "PortTimersModel" "heldA" "I", Cond.fieldLink RX6 47 "PortTimersModel" "heldB" "I", Cond.fieldLink RX6 50 "PortTimersModel" "untilA" "Z", Cond.fieldLink RX6 54 "PortTimersModel" "onceA" "Z", Cond.fieldLink RX6 57 "PortTimersModel" "untilB" "Z", Cond.fieldLink RX6 60 "PortTimersModel" "onceB" "Z"]
def wsX6_init_r2 : List Cond := [Cond.fieldLink RX6 63 "PortTimersModel" "timer1" "I", Cond.fieldLink RX6 66 "PortTimersModel" "latch1" "I", Cond.fieldLink RX6 69 "PortTimersModel" "armed1" "Z", Cond.fieldLink RX6 72 "PortTimersModel" "reloads" "Z", Cond.fieldLink RX6 75 "PortTimersModel" "bit" "Z", Cond.fieldLink RX6 78 "PortTimersModel" "timer2" "I", Cond.fieldLink RX6 81 "PortTimersModel" "latch2" "I", Cond.fieldLink RX6 84 "PortTimersModel" "armed2" "Z", Cond.fieldLink RX6 87 "PortTimersModel" "shifter" "I", Cond.fieldLink RX6 90 "PortTimersModel" "shifts" "I", Cond.fieldLink RX6 93 "PortTimersModel" "wait" "I", Cond.fieldLink RX6 96 "PortTimersModel" "shifted" "I", Cond.fieldLink RX6 99 "PortTimersModel" "cycles" "I"]
def wsX6_init : List Cond := .code yX6_init cX6_init 1 none :: ((wsX6_init_r1 ++ wsX6_init_r2) ++ wsX60)
def wsX6_thrown : List Cond := .code yX6_thrown cX6_thrown 1 (some .int) :: ([.fieldLink RX6 16 "PortTimersModel" "thrown" "I"] ++ wsX60)
def wsX6_reset_r1 : List Cond := [Cond.fieldLink RX6 16 "PortTimersModel" "thrown" "I", Cond.methodLink RX6 13 yX6_clear, Cond.instanceMethod yX6_clear, Cond.selects RX6 yX6_clear yX6_clear, Cond.initialized RX6, Cond.code yX6_clear cX6_clear 1 none, Cond.fieldLink RX6 20 "PortTimersModel" "outA" "I", Cond.fieldLink RX6 23 "PortTimersModel" "outB" "I", Cond.fieldLink RX6 26 "PortTimersModel" "directionsA" "I", Cond.fieldLink RX6 29 "PortTimersModel" "directionsB" "I", Cond.fieldLink RX6 32 "PortTimersModel" "control" "I", Cond.fieldLink RX6 35 "PortTimersModel" "ways" "I", Cond.fieldLink RX6 38 "PortTimersModel" "flags" "I", Cond.fieldLink RX6 41 "PortTimersModel" "enabled" "I", Cond.fieldLink RX6 44 "PortTimersModel" "heldA" "I", Cond.fieldLink RX6 47 "PortTimersModel" "heldB" "I", Cond.fieldLink RX6 50 "PortTimersModel" "untilA" "Z", Cond.fieldLink RX6 54 "PortTimersModel" "onceA" "Z", Cond.fieldLink RX6 57 "PortTimersModel" "untilB" "Z", Cond.fieldLink RX6 60 "PortTimersModel" "onceB" "Z", Cond.fieldLink RX6 63 "PortTimersModel" "timer1" "I", Cond.fieldLink RX6 66 "PortTimersModel" "latch1" "I", Cond.fieldLink RX6 69 "PortTimersModel" "armed1" "Z", Cond.fieldLink RX6 72 "PortTimersModel" "reloads" "Z"]
def wsX6_reset_r2 : List Cond := [Cond.fieldLink RX6 75 "PortTimersModel" "bit" "Z", Cond.fieldLink RX6 78 "PortTimersModel" "timer2" "I", Cond.fieldLink RX6 81 "PortTimersModel" "latch2" "I", Cond.fieldLink RX6 84 "PortTimersModel" "armed2" "Z", Cond.fieldLink RX6 87 "PortTimersModel" "shifter" "I", Cond.fieldLink RX6 90 "PortTimersModel" "shifts" "I", Cond.fieldLink RX6 93 "PortTimersModel" "wait" "I", Cond.fieldLink RX6 96 "PortTimersModel" "shifted" "I", Cond.fieldLink RX6 99 "PortTimersModel" "cycles" "I"]
def wsX6_reset : List Cond := .code yX6_reset cX6_reset 1 none :: ((wsX6_reset_r1 ++ wsX6_reset_r2) ++ wsX60)
def wsX6_has : List Cond := .code yX6_has cX6_has 2 (some .boolean) :: ([.fieldLink RX6 38 "PortTimersModel" "flags" "I"] ++ wsX60)
def wsX6_set : List Cond := .code yX6_set cX6_set 2 none :: ([.fieldLink RX6 38 "PortTimersModel" "flags" "I"] ++ wsX60)
def wsX6_drop : List Cond := .code yX6_drop cX6_drop 2 none :: ([.fieldLink RX6 38 "PortTimersModel" "flags" "I"] ++ wsX60)
def wsX6_allFlags : List Cond := .code yX6_allFlags cX6_allFlags 1 (some .int) :: ([.fieldLink RX6 38 "PortTimersModel" "flags" "I", .fieldLink RX6 41 "PortTimersModel" "enabled" "I"] ++ wsX60)
def wsX6_wayA : List Cond := .code yX6_wayA cX6_wayA 1 (some .int) :: ([.fieldLink RX6 35 "PortTimersModel" "ways" "I"] ++ wsX60)
def wsX6_wayB : List Cond := .code yX6_wayB cX6_wayB 1 (some .int) :: ([.fieldLink RX6 35 "PortTimersModel" "ways" "I"] ++ wsX60)
def wsX6_mode : List Cond := .code yX6_mode cX6_mode 1 (some .int) :: ([.fieldLink RX6 32 "PortTimersModel" "control" "I"] ++ wsX60)
def wsX6_touchA : List Cond := .code yX6_touchA cX6_touchA 1 none :: ([.fieldLink RX6 50 "PortTimersModel" "untilA" "Z", .fieldLink RX6 54 "PortTimersModel" "onceA" "Z", .methodLink RX6 102 yX6_drop, .instanceMethod yX6_drop, .selects RX6 yX6_drop yX6_drop, .initialized RX6, .code yX6_drop cX6_drop 2 none, .fieldLink RX6 38 "PortTimersModel" "flags" "I", .methodLink RX6 106 yX6_wayA, .instanceMethod yX6_wayA, .selects RX6 yX6_wayA yX6_wayA, .code yX6_wayA cX6_wayA 1 (some .int), .fieldLink RX6 35 "PortTimersModel" "ways" "I"] ++ wsX60)
def wsX6_touchB : List Cond := .code yX6_touchB cX6_touchB 2 none :: ([.fieldLink RX6 57 "PortTimersModel" "untilB" "Z", .fieldLink RX6 60 "PortTimersModel" "onceB" "Z", .methodLink RX6 102 yX6_drop, .instanceMethod yX6_drop, .selects RX6 yX6_drop yX6_drop, .initialized RX6, .code yX6_drop cX6_drop 2 none, .fieldLink RX6 38 "PortTimersModel" "flags" "I", .methodLink RX6 110 yX6_wayB, .instanceMethod yX6_wayB, .selects RX6 yX6_wayB yX6_wayB, .code yX6_wayB cX6_wayB 1 (some .int), .fieldLink RX6 35 "PortTimersModel" "ways" "I"] ++ wsX60)
def wsX6_portA : List Cond := .code yX6_portA cX6_portA 2 (some .int) :: ([.fieldLink RX6 32 "PortTimersModel" "control" "I", .fieldLink RX6 44 "PortTimersModel" "heldA" "I", .fieldLink RX6 117 "PortTimersModel" "pinsA" "I", .fieldLink RX6 20 "PortTimersModel" "outA" "I", .fieldLink RX6 26 "PortTimersModel" "directionsA" "I", .methodLink RX6 113 yX6_has, .instanceMethod yX6_has, .selects RX6 yX6_has yX6_has, .initialized RX6, .code yX6_has cX6_has 2 (some .boolean), .fieldLink RX6 38 "PortTimersModel" "flags" "I"] ++ wsX60)
def wsX6_portB : List Cond := .code yX6_portB cX6_portB 3 (some .int) :: ([.fieldLink RX6 32 "PortTimersModel" "control" "I", .fieldLink RX6 47 "PortTimersModel" "heldB" "I", .fieldLink RX6 120 "PortTimersModel" "pinsB" "I", .fieldLink RX6 23 "PortTimersModel" "outB" "I", .fieldLink RX6 29 "PortTimersModel" "directionsB" "I", .fieldLink RX6 75 "PortTimersModel" "bit" "Z", .methodLink RX6 113 yX6_has, .instanceMethod yX6_has, .selects RX6 yX6_has yX6_has, .initialized RX6, .code yX6_has cX6_has 2 (some .boolean), .fieldLink RX6 38 "PortTimersModel" "flags" "I"] ++ wsX60)
def wsX6_noByte : List Cond := .code yX6_noByte cX6_noByte 1 (some .boolean) :: ([])
def wsX6_eight : List Cond := .code yX6_eight cX6_eight 1 none :: ([.fieldLink RX6 90 "PortTimersModel" "shifts" "I", .fieldLink RX6 93 "PortTimersModel" "wait" "I", .methodLink RX6 102 yX6_drop, .instanceMethod yX6_drop, .selects RX6 yX6_drop yX6_drop, .initialized RX6, .code yX6_drop cX6_drop 2 none, .fieldLink RX6 38 "PortTimersModel" "flags" "I"] ++ wsX60)
def wsX6_write_r1 : List Cond := [Cond.fieldLink RX6 16 "PortTimersModel" "thrown" "I", Cond.fieldLink RX6 23 "PortTimersModel" "outB" "I", Cond.fieldLink RX6 20 "PortTimersModel" "outA" "I", Cond.fieldLink RX6 29 "PortTimersModel" "directionsB" "I", Cond.fieldLink RX6 26 "PortTimersModel" "directionsA" "I", Cond.fieldLink RX6 66 "PortTimersModel" "latch1" "I", Cond.constant RX6 133 (65280), Cond.fieldLink RX6 63 "PortTimersModel" "timer1" "I", Cond.fieldLink RX6 69 "PortTimersModel" "armed1" "Z", Cond.fieldLink RX6 72 "PortTimersModel" "reloads" "Z", Cond.fieldLink RX6 75 "PortTimersModel" "bit" "Z", Cond.fieldLink RX6 81 "PortTimersModel" "latch2" "I", Cond.fieldLink RX6 78 "PortTimersModel" "timer2" "I", Cond.fieldLink RX6 84 "PortTimersModel" "armed2" "Z", Cond.fieldLink RX6 87 "PortTimersModel" "shifter" "I", Cond.fieldLink RX6 32 "PortTimersModel" "control" "I", Cond.fieldLink RX6 35 "PortTimersModel" "ways" "I", Cond.fieldLink RX6 38 "PortTimersModel" "flags" "I", Cond.fieldLink RX6 41 "PortTimersModel" "enabled" "I", Cond.methodLink RX6 123 yX6_noByte, Cond.static yX6_noByte, Cond.initialized RX6, Cond.code yX6_noByte cX6_noByte 1 (some .boolean), Cond.methodLink RX6 126 yX6_touchB]
def wsX6_write_r2 : List Cond := [Cond.instanceMethod yX6_touchB, Cond.selects RX6 yX6_touchB yX6_touchB, Cond.code yX6_touchB cX6_touchB 2 none, Cond.fieldLink RX6 57 "PortTimersModel" "untilB" "Z", Cond.fieldLink RX6 60 "PortTimersModel" "onceB" "Z", Cond.methodLink RX6 102 yX6_drop, Cond.instanceMethod yX6_drop, Cond.selects RX6 yX6_drop yX6_drop, Cond.code yX6_drop cX6_drop 2 none, Cond.methodLink RX6 110 yX6_wayB, Cond.instanceMethod yX6_wayB, Cond.selects RX6 yX6_wayB yX6_wayB, Cond.code yX6_wayB cX6_wayB 1 (some .int), Cond.methodLink RX6 130 yX6_touchA, Cond.instanceMethod yX6_touchA, Cond.selects RX6 yX6_touchA yX6_touchA, Cond.code yX6_touchA cX6_touchA 1 none, Cond.fieldLink RX6 50 "PortTimersModel" "untilA" "Z", Cond.fieldLink RX6 54 "PortTimersModel" "onceA" "Z", Cond.methodLink RX6 106 yX6_wayA, Cond.instanceMethod yX6_wayA, Cond.selects RX6 yX6_wayA yX6_wayA, Cond.code yX6_wayA cX6_wayA 1 (some .int), Cond.methodLink RX6 134 yX6_eight]
def wsX6_write_r3 : List Cond := [Cond.instanceMethod yX6_eight, Cond.selects RX6 yX6_eight yX6_eight, Cond.code yX6_eight cX6_eight 1 none, Cond.fieldLink RX6 90 "PortTimersModel" "shifts" "I", Cond.fieldLink RX6 93 "PortTimersModel" "wait" "I"]
def wsX6_write : List Cond := .code yX6_write cX6_write 3 none :: ((wsX6_write_r1 ++ (wsX6_write_r2 ++ wsX6_write_r3)) ++ wsX60)
def wsX6_read_r1 : List Cond := [Cond.fieldLink RX6 16 "PortTimersModel" "thrown" "I", Cond.fieldLink RX6 29 "PortTimersModel" "directionsB" "I", Cond.fieldLink RX6 26 "PortTimersModel" "directionsA" "I", Cond.fieldLink RX6 63 "PortTimersModel" "timer1" "I", Cond.fieldLink RX6 66 "PortTimersModel" "latch1" "I", Cond.fieldLink RX6 78 "PortTimersModel" "timer2" "I", Cond.fieldLink RX6 87 "PortTimersModel" "shifter" "I", Cond.fieldLink RX6 32 "PortTimersModel" "control" "I", Cond.fieldLink RX6 35 "PortTimersModel" "ways" "I", Cond.fieldLink RX6 41 "PortTimersModel" "enabled" "I", Cond.methodLink RX6 137 yX6_portB, Cond.instanceMethod yX6_portB, Cond.selects RX6 yX6_portB yX6_portB, Cond.initialized RX6, Cond.code yX6_portB cX6_portB 3 (some .int), Cond.fieldLink RX6 47 "PortTimersModel" "heldB" "I", Cond.fieldLink RX6 120 "PortTimersModel" "pinsB" "I", Cond.fieldLink RX6 23 "PortTimersModel" "outB" "I", Cond.fieldLink RX6 75 "PortTimersModel" "bit" "Z", Cond.methodLink RX6 113 yX6_has, Cond.instanceMethod yX6_has, Cond.selects RX6 yX6_has yX6_has, Cond.code yX6_has cX6_has 2 (some .boolean), Cond.fieldLink RX6 38 "PortTimersModel" "flags" "I"]
def wsX6_read_r2 : List Cond := [Cond.methodLink RX6 126 yX6_touchB, Cond.instanceMethod yX6_touchB, Cond.selects RX6 yX6_touchB yX6_touchB, Cond.code yX6_touchB cX6_touchB 2 none, Cond.fieldLink RX6 57 "PortTimersModel" "untilB" "Z", Cond.fieldLink RX6 60 "PortTimersModel" "onceB" "Z", Cond.methodLink RX6 102 yX6_drop, Cond.instanceMethod yX6_drop, Cond.selects RX6 yX6_drop yX6_drop, Cond.code yX6_drop cX6_drop 2 none, Cond.methodLink RX6 110 yX6_wayB, Cond.instanceMethod yX6_wayB, Cond.selects RX6 yX6_wayB yX6_wayB, Cond.code yX6_wayB cX6_wayB 1 (some .int), Cond.methodLink RX6 140 yX6_portA, Cond.instanceMethod yX6_portA, Cond.selects RX6 yX6_portA yX6_portA, Cond.code yX6_portA cX6_portA 2 (some .int), Cond.fieldLink RX6 44 "PortTimersModel" "heldA" "I", Cond.fieldLink RX6 117 "PortTimersModel" "pinsA" "I", Cond.fieldLink RX6 20 "PortTimersModel" "outA" "I", Cond.methodLink RX6 130 yX6_touchA, Cond.instanceMethod yX6_touchA, Cond.selects RX6 yX6_touchA yX6_touchA]
def wsX6_read_r3 : List Cond := [Cond.code yX6_touchA cX6_touchA 1 none, Cond.fieldLink RX6 50 "PortTimersModel" "untilA" "Z", Cond.fieldLink RX6 54 "PortTimersModel" "onceA" "Z", Cond.methodLink RX6 106 yX6_wayA, Cond.instanceMethod yX6_wayA, Cond.selects RX6 yX6_wayA yX6_wayA, Cond.code yX6_wayA cX6_wayA 1 (some .int), Cond.methodLink RX6 134 yX6_eight, Cond.instanceMethod yX6_eight, Cond.selects RX6 yX6_eight yX6_eight, Cond.code yX6_eight cX6_eight 1 none, Cond.fieldLink RX6 90 "PortTimersModel" "shifts" "I", Cond.fieldLink RX6 93 "PortTimersModel" "wait" "I", Cond.methodLink RX6 143 yX6_allFlags, Cond.instanceMethod yX6_allFlags, Cond.selects RX6 yX6_allFlags yX6_allFlags, Cond.code yX6_allFlags cX6_allFlags 1 (some .int)]
def wsX6_read : List Cond := .code yX6_read cX6_read 3 (some .int) :: ((wsX6_read_r1 ++ (wsX6_read_r2 ++ wsX6_read_r3)) ++ wsX60)
def wsX6_lessTimer2 : List Cond := .code yX6_lessTimer2 cX6_lessTimer2 1 none :: ([.fieldLink RX6 78 "PortTimersModel" "timer2" "I", .constant RX6 146 (65535), .fieldLink RX6 84 "PortTimersModel" "armed2" "Z", .methodLink RX6 147 yX6_set, .instanceMethod yX6_set, .selects RX6 yX6_set yX6_set, .initialized RX6, .code yX6_set cX6_set 2 none, .fieldLink RX6 38 "PortTimersModel" "flags" "I"] ++ wsX60)
def wsX6_pins : List Cond := .code yX6_pins cX6_pins 4 none :: ([.fieldLink RX6 16 "PortTimersModel" "thrown" "I", .fieldLink RX6 120 "PortTimersModel" "pinsB" "I", .fieldLink RX6 117 "PortTimersModel" "pinsA" "I", .fieldLink RX6 32 "PortTimersModel" "control" "I", .methodLink RX6 123 yX6_noByte, .static yX6_noByte, .initialized RX6, .code yX6_noByte cX6_noByte 1 (some .boolean), .methodLink RX6 150 yX6_lessTimer2, .instanceMethod yX6_lessTimer2, .selects RX6 yX6_lessTimer2 yX6_lessTimer2, .code yX6_lessTimer2 cX6_lessTimer2 1 none, .fieldLink RX6 78 "PortTimersModel" "timer2" "I", .constant RX6 146 (65535), .fieldLink RX6 84 "PortTimersModel" "armed2" "Z", .methodLink RX6 147 yX6_set, .instanceMethod yX6_set, .selects RX6 yX6_set yX6_set, .code yX6_set cX6_set 2 none, .fieldLink RX6 38 "PortTimersModel" "flags" "I"] ++ wsX60)
def wsX6_line : List Cond := .code yX6_line cX6_line 6 (some .boolean) :: ([.fieldLink RX6 16 "PortTimersModel" "thrown" "I", .fieldLink RX6 7 "PortTimersModel" "lines" "[Z", .fieldLink RX6 35 "PortTimersModel" "ways" "I", .fieldLink RX6 117 "PortTimersModel" "pinsA" "I", .fieldLink RX6 44 "PortTimersModel" "heldA" "I", .fieldLink RX6 50 "PortTimersModel" "untilA" "Z", .fieldLink RX6 120 "PortTimersModel" "pinsB" "I", .fieldLink RX6 47 "PortTimersModel" "heldB" "I", .fieldLink RX6 57 "PortTimersModel" "untilB" "Z", .methodLink RX6 106 yX6_wayA, .instanceMethod yX6_wayA, .selects RX6 yX6_wayA yX6_wayA, .initialized RX6, .code yX6_wayA cX6_wayA 1 (some .int), .methodLink RX6 110 yX6_wayB, .instanceMethod yX6_wayB, .selects RX6 yX6_wayB yX6_wayB, .code yX6_wayB cX6_wayB 1 (some .int), .methodLink RX6 147 yX6_set, .instanceMethod yX6_set, .selects RX6 yX6_set yX6_set, .code yX6_set cX6_set 2 none, .fieldLink RX6 38 "PortTimersModel" "flags" "I"] ++ wsX60)
def wsX6_cycleOfTimer1 : List Cond := .code yX6_cycleOfTimer1 cX6_cycleOfTimer1 2 none :: ([.fieldLink RX6 32 "PortTimersModel" "control" "I", .fieldLink RX6 72 "PortTimersModel" "reloads" "Z", .fieldLink RX6 66 "PortTimersModel" "latch1" "I", .fieldLink RX6 63 "PortTimersModel" "timer1" "I", .constant RX6 146 (65535), .fieldLink RX6 75 "PortTimersModel" "bit" "Z", .fieldLink RX6 69 "PortTimersModel" "armed1" "Z", .methodLink RX6 147 yX6_set, .instanceMethod yX6_set, .selects RX6 yX6_set yX6_set, .initialized RX6, .code yX6_set cX6_set 2 none, .fieldLink RX6 38 "PortTimersModel" "flags" "I"] ++ wsX60)
def wsX6_cycleOfShifter : List Cond := .code yX6_cycleOfShifter cX6_cycleOfShifter 3 none :: ([.fieldLink RX6 90 "PortTimersModel" "shifts" "I", .fieldLink RX6 93 "PortTimersModel" "wait" "I", .fieldLink RX6 87 "PortTimersModel" "shifter" "I", .fieldLink RX6 7 "PortTimersModel" "lines" "[Z", .fieldLink RX6 96 "PortTimersModel" "shifted" "I", .methodLink RX6 153 yX6_mode, .instanceMethod yX6_mode, .selects RX6 yX6_mode yX6_mode, .initialized RX6, .code yX6_mode cX6_mode 1 (some .int), .fieldLink RX6 32 "PortTimersModel" "control" "I", .methodLink RX6 147 yX6_set, .instanceMethod yX6_set, .selects RX6 yX6_set yX6_set, .code yX6_set cX6_set 2 none, .fieldLink RX6 38 "PortTimersModel" "flags" "I"] ++ wsX60)
def wsX6_step_r1 : List Cond := [Cond.constant RX6 156 (200000), Cond.fieldLink RX6 16 "PortTimersModel" "thrown" "I", Cond.fieldLink RX6 32 "PortTimersModel" "control" "I", Cond.fieldLink RX6 54 "PortTimersModel" "onceA" "Z", Cond.fieldLink RX6 60 "PortTimersModel" "onceB" "Z", Cond.fieldLink RX6 99 "PortTimersModel" "cycles" "I", Cond.methodLink RX6 157 yX6_cycleOfTimer1, Cond.instanceMethod yX6_cycleOfTimer1, Cond.selects RX6 yX6_cycleOfTimer1 yX6_cycleOfTimer1, Cond.initialized RX6, Cond.code yX6_cycleOfTimer1 cX6_cycleOfTimer1 2 none, Cond.fieldLink RX6 72 "PortTimersModel" "reloads" "Z", Cond.fieldLink RX6 66 "PortTimersModel" "latch1" "I", Cond.fieldLink RX6 63 "PortTimersModel" "timer1" "I", Cond.constant RX6 146 (65535), Cond.fieldLink RX6 75 "PortTimersModel" "bit" "Z", Cond.fieldLink RX6 69 "PortTimersModel" "armed1" "Z", Cond.methodLink RX6 147 yX6_set, Cond.instanceMethod yX6_set, Cond.selects RX6 yX6_set yX6_set, Cond.code yX6_set cX6_set 2 none, Cond.fieldLink RX6 38 "PortTimersModel" "flags" "I", Cond.methodLink RX6 150 yX6_lessTimer2, Cond.instanceMethod yX6_lessTimer2]
def wsX6_step_r2 : List Cond := [Cond.selects RX6 yX6_lessTimer2 yX6_lessTimer2, Cond.code yX6_lessTimer2 cX6_lessTimer2 1 none, Cond.fieldLink RX6 78 "PortTimersModel" "timer2" "I", Cond.fieldLink RX6 84 "PortTimersModel" "armed2" "Z", Cond.methodLink RX6 160 yX6_cycleOfShifter, Cond.instanceMethod yX6_cycleOfShifter, Cond.selects RX6 yX6_cycleOfShifter yX6_cycleOfShifter, Cond.code yX6_cycleOfShifter cX6_cycleOfShifter 3 none, Cond.fieldLink RX6 90 "PortTimersModel" "shifts" "I", Cond.fieldLink RX6 93 "PortTimersModel" "wait" "I", Cond.fieldLink RX6 87 "PortTimersModel" "shifter" "I", Cond.fieldLink RX6 7 "PortTimersModel" "lines" "[Z", Cond.fieldLink RX6 96 "PortTimersModel" "shifted" "I", Cond.methodLink RX6 153 yX6_mode, Cond.instanceMethod yX6_mode, Cond.selects RX6 yX6_mode yX6_mode, Cond.code yX6_mode cX6_mode 1 (some .int), Cond.methodLink RX6 143 yX6_allFlags, Cond.instanceMethod yX6_allFlags, Cond.selects RX6 yX6_allFlags yX6_allFlags, Cond.code yX6_allFlags cX6_allFlags 1 (some .int), Cond.fieldLink RX6 41 "PortTimersModel" "enabled" "I"]
def wsX6_step : List Cond := .code yX6_step cX6_step 3 (some .int) :: ((wsX6_step_r1 ++ wsX6_step_r2) ++ wsX60)
def wsX6_given : List Cond := .code yX6_given cX6_given 4 (some .int) :: ([])
def wsX6_out_r1 : List Cond := [Cond.fieldLink RX6 16 "PortTimersModel" "thrown" "I", Cond.fieldLink RX6 20 "PortTimersModel" "outA" "I", Cond.fieldLink RX6 26 "PortTimersModel" "directionsA" "I", Cond.fieldLink RX6 23 "PortTimersModel" "outB" "I", Cond.fieldLink RX6 29 "PortTimersModel" "directionsB" "I", Cond.fieldLink RX6 32 "PortTimersModel" "control" "I", Cond.fieldLink RX6 75 "PortTimersModel" "bit" "Z", Cond.fieldLink RX6 50 "PortTimersModel" "untilA" "Z", Cond.fieldLink RX6 54 "PortTimersModel" "onceA" "Z", Cond.fieldLink RX6 57 "PortTimersModel" "untilB" "Z", Cond.fieldLink RX6 60 "PortTimersModel" "onceB" "Z", Cond.fieldLink RX6 96 "PortTimersModel" "shifted" "I", Cond.fieldLink RX6 38 "PortTimersModel" "flags" "I", Cond.fieldLink RX6 41 "PortTimersModel" "enabled" "I", Cond.methodLink RX6 106 yX6_wayA, Cond.instanceMethod yX6_wayA, Cond.selects RX6 yX6_wayA yX6_wayA, Cond.initialized RX6, Cond.code yX6_wayA cX6_wayA 1 (some .int), Cond.fieldLink RX6 35 "PortTimersModel" "ways" "I", Cond.methodLink RX6 163 yX6_given, Cond.static yX6_given, Cond.code yX6_given cX6_given 4 (some .int), Cond.methodLink RX6 110 yX6_wayB]
def wsX6_out_r2 : List Cond := [Cond.instanceMethod yX6_wayB, Cond.selects RX6 yX6_wayB yX6_wayB, Cond.code yX6_wayB cX6_wayB 1 (some .int), Cond.methodLink RX6 153 yX6_mode, Cond.instanceMethod yX6_mode, Cond.selects RX6 yX6_mode yX6_mode, Cond.code yX6_mode cX6_mode 1 (some .int)]
def wsX6_out : List Cond := .code yX6_out cX6_out 3 (some .int) :: ((wsX6_out_r1 ++ wsX6_out_r2) ++ wsX60)
def wsX6_told : List Cond := .code yX6_told cX6_told 2 (some .int) :: ([.fieldLink RX6 16 "PortTimersModel" "thrown" "I", .fieldLink RX6 63 "PortTimersModel" "timer1" "I", .fieldLink RX6 78 "PortTimersModel" "timer2" "I", .fieldLink RX6 66 "PortTimersModel" "latch1" "I", .fieldLink RX6 90 "PortTimersModel" "shifts" "I", .fieldLink RX6 75 "PortTimersModel" "bit" "Z", .fieldLink RX6 69 "PortTimersModel" "armed1" "Z", .fieldLink RX6 84 "PortTimersModel" "armed2" "Z", .fieldLink RX6 99 "PortTimersModel" "cycles" "I"] ++ wsX60)
def wsL_write_r1 : List Cond := [Cond.classLink RL 13 "java/lang/IllegalArgumentException", Cond.methodLink RL 7 yX5_write, Cond.instanceMethod yX5_write, Cond.selects RX5 yX5_write yX5_write, Cond.initialized RX5, Cond.code yX5_write cX5_write 3 none, Cond.classLink RX5 55 "java/lang/IllegalArgumentException", Cond.initialized "java/lang/IllegalArgumentException", Cond.fieldLink RX5 25 "PortTimers" "sideB" "LPortTimers$Side;", Cond.fieldLink RX5 21 "PortTimers" "sideA" "LPortTimers$Side;", Cond.fieldLink RX5 33 "PortTimers" "timer1" "LPortTimers$Timer1;", Cond.fieldLink RX5 40 "PortTimers" "timer2" "LPortTimers$Timer2;", Cond.fieldLink RX5 47 "PortTimers" "shifter" "LPortTimers$Shifter;", Cond.fieldLink RX5 96 "PortTimers" "control" "I", Cond.fieldLink RX5 10 "PortTimers" "flags" "LPortTimers$Flags;", Cond.methodLink RX5 51 yX5_isByte, Cond.static yX5_isByte, Cond.code yX5_isByte cX5_isByte 1 (some .boolean), Cond.methodLink RX5 66 yX2_touch, Cond.instanceMethod yX2_touch, Cond.selects RX2 yX2_touch yX2_touch, Cond.initialized RX2, Cond.code yX2_touch cX2_touch 2 none, Cond.fieldLink RX2 9 "PortTimers$Side" "flags" "LPortTimers$Flags;"]
def wsL_write_r2 : List Cond := [Cond.fieldLink RX2 15 "PortTimers$Side" "flagOfLine1" "I", Cond.fieldLink RX2 19 "PortTimers$Side" "flagOfLine2" "I", Cond.methodLink RX2 50 yX0_lower, Cond.instanceMethod yX0_lower, Cond.selects RX0 yX0_lower yX0_lower, Cond.initialized RX0, Cond.code yX0_lower cX0_lower 2 none, Cond.fieldLink RX0 9 "PortTimers$Flags" "raised" "I", Cond.methodLink RX2 54 yX2_wayOfLine2, Cond.instanceMethod yX2_wayOfLine2, Cond.selects RX2 yX2_wayOfLine2 yX2_wayOfLine2, Cond.code yX2_wayOfLine2 cX2_wayOfLine2 1 (some .int), Cond.fieldLink RX2 28 "PortTimers$Side" "ways" "I", Cond.methodLink RX5 69 yX2_giveTouch, Cond.instanceMethod yX2_giveTouch, Cond.selects RX2 yX2_giveTouch yX2_giveTouch, Cond.code yX2_giveTouch cX2_giveTouch 2 none, Cond.fieldLink RX2 34 "PortTimers$Side" "lowUntilEdge" "Z", Cond.fieldLink RX2 38 "PortTimers$Side" "lowUntilCycle" "Z", Cond.methodLink RX5 75 yX3_latchLow, Cond.instanceMethod yX3_latchLow, Cond.selects RX3 yX3_latchLow yX3_latchLow, Cond.initialized RX3, Cond.code yX3_latchLow cX3_latchLow 2 none]
def wsL_write_r3 : List Cond := [Cond.fieldLink RX3 22 "PortTimers$Timer1" "latch" "I", Cond.methodLink RX5 79 yX3_latchHigh, Cond.instanceMethod yX3_latchHigh, Cond.selects RX3 yX3_latchHigh yX3_latchHigh, Cond.code yX3_latchHigh cX3_latchHigh 2 none, Cond.fieldLink RX3 15 "PortTimers$Timer1" "flags" "LPortTimers$Flags;", Cond.methodLink RX3 32 yX0_lower, Cond.methodLink RX5 82 yX3_start, Cond.instanceMethod yX3_start, Cond.selects RX3 yX3_start yX3_start, Cond.code yX3_start cX3_start 1 none, Cond.fieldLink RX3 19 "PortTimers$Timer1" "count" "I", Cond.fieldLink RX3 25 "PortTimers$Timer1" "armed" "Z", Cond.fieldLink RX3 9 "PortTimers$Timer1" "bit" "I", Cond.fieldLink RX3 29 "PortTimers$Timer1" "latchIsDue" "Z", Cond.methodLink RX5 88 yX4_start, Cond.instanceMethod yX4_start, Cond.selects RX4 yX4_start yX4_start, Cond.initialized RX4, Cond.code yX4_start cX4_start 2 none, Cond.fieldLink RX4 19 "PortTimers$Timer2" "latch" "I", Cond.fieldLink RX4 15 "PortTimers$Timer2" "count" "I", Cond.fieldLink RX4 22 "PortTimers$Timer2" "armed" "Z", Cond.fieldLink RX4 9 "PortTimers$Timer2" "flags" "LPortTimers$Flags;"]
def wsL_write_r4 : List Cond := [Cond.methodLink RX4 26 yX0_lower, Cond.methodLink RX5 93 yX1_begin, Cond.instanceMethod yX1_begin, Cond.selects RX1 yX1_begin yX1_begin, Cond.initialized RX1, Cond.code yX1_begin cX1_begin 1 none, Cond.fieldLink RX1 15 "PortTimers$Shifter" "flags" "LPortTimers$Flags;", Cond.fieldLink RX1 22 "PortTimers$Shifter" "toCome" "I", Cond.fieldLink RX1 25 "PortTimers$Shifter" "halfway" "Z", Cond.methodLink RX1 29 yX0_lower, Cond.methodLink RX5 102 yX0_lower, Cond.methodLink RX5 105 yX0_enable, Cond.instanceMethod yX0_enable, Cond.selects RX0 yX0_enable yX0_enable, Cond.code yX0_enable cX0_enable 2 none, Cond.fieldLink RX0 15 "PortTimers$Flags" "enabled" "I"]
def wsL_write : List Cond := .codeWith yL_write cL_write 4 (some .int) [(0, 6, 9, 13)] :: ((wsL_write_r1 ++ (wsL_write_r2 ++ (wsL_write_r3 ++ wsL_write_r4))) ++ wsX50 ++ wsX20 ++ wsX40 ++ wsX10 ++ wsX00 ++ wsX30 ++ (vx_atS RX5 59 "java/lang/IllegalArgumentException" ["java/lang/RuntimeException", "java/lang/Exception"]).filter goodWord)
def wsL_read_r1 : List Cond := [Cond.classLink RL 13 "java/lang/IllegalArgumentException", Cond.methodLink RL 15 yX5_read, Cond.instanceMethod yX5_read, Cond.selects RX5 yX5_read yX5_read, Cond.initialized RX5, Cond.code yX5_read cX5_read 2 (some .int), Cond.classLink RX5 55 "java/lang/IllegalArgumentException", Cond.initialized "java/lang/IllegalArgumentException", Cond.fieldLink RX5 25 "PortTimers" "sideB" "LPortTimers$Side;", Cond.fieldLink RX5 21 "PortTimers" "sideA" "LPortTimers$Side;", Cond.fieldLink RX5 10 "PortTimers" "flags" "LPortTimers$Flags;", Cond.fieldLink RX5 33 "PortTimers" "timer1" "LPortTimers$Timer1;", Cond.fieldLink RX5 40 "PortTimers" "timer2" "LPortTimers$Timer2;", Cond.fieldLink RX5 47 "PortTimers" "shifter" "LPortTimers$Shifter;", Cond.fieldLink RX5 96 "PortTimers" "control" "I", Cond.methodLink RX5 110 yX5_readPortB, Cond.instanceMethod yX5_readPortB, Cond.selects RX5 yX5_readPortB yX5_readPortB, Cond.code yX5_readPortB cX5_readPortB 2 (some .int), Cond.methodLink RX5 143 yX5_controlHas, Cond.instanceMethod yX5_controlHas, Cond.selects RX5 yX5_controlHas yX5_controlHas, Cond.code yX5_controlHas cX5_controlHas 2 (some .boolean), Cond.methodLink RX5 217 yX2_port]
def wsL_read_r2 : List Cond := [Cond.instanceMethod yX2_port, Cond.selects RX2 yX2_port yX2_port, Cond.initialized RX2, Cond.code yX2_port cX2_port 3 (some .int), Cond.fieldLink RX2 9 "PortTimers$Side" "flags" "LPortTimers$Flags;", Cond.fieldLink RX2 15 "PortTimers$Side" "flagOfLine1" "I", Cond.fieldLink RX2 31 "PortTimers$Side" "heldPins" "I", Cond.fieldLink RX2 47 "PortTimers$Side" "pins" "I", Cond.fieldLink RX2 22 "PortTimers$Side" "out" "I", Cond.fieldLink RX2 25 "PortTimers$Side" "directions" "I", Cond.methodLink RX2 41 yX0_has, Cond.instanceMethod yX0_has, Cond.selects RX0 yX0_has yX0_has, Cond.initialized RX0, Cond.code yX0_has cX0_has 2 (some .boolean), Cond.fieldLink RX0 9 "PortTimers$Flags" "raised" "I", Cond.methodLink RX5 164 yX5_withTimersBit, Cond.instanceMethod yX5_withTimersBit, Cond.selects RX5 yX5_withTimersBit yX5_withTimersBit, Cond.code yX5_withTimersBit cX5_withTimersBit 2 (some .int), Cond.methodLink RX5 66 yX2_touch, Cond.instanceMethod yX2_touch, Cond.selects RX2 yX2_touch yX2_touch, Cond.code yX2_touch cX2_touch 2 none]
def wsL_read_r3 : List Cond := [Cond.fieldLink RX2 19 "PortTimers$Side" "flagOfLine2" "I", Cond.methodLink RX2 50 yX0_lower, Cond.instanceMethod yX0_lower, Cond.selects RX0 yX0_lower yX0_lower, Cond.code yX0_lower cX0_lower 2 none, Cond.methodLink RX2 54 yX2_wayOfLine2, Cond.instanceMethod yX2_wayOfLine2, Cond.selects RX2 yX2_wayOfLine2 yX2_wayOfLine2, Cond.code yX2_wayOfLine2 cX2_wayOfLine2 1 (some .int), Cond.fieldLink RX2 28 "PortTimers$Side" "ways" "I", Cond.methodLink RX5 114 yX5_readPortA, Cond.instanceMethod yX5_readPortA, Cond.selects RX5 yX5_readPortA yX5_readPortA, Cond.code yX5_readPortA cX5_readPortA 2 (some .int), Cond.methodLink RX5 135 yX5_portA, Cond.instanceMethod yX5_portA, Cond.selects RX5 yX5_portA yX5_portA, Cond.code yX5_portA cX5_portA 1 (some .int), Cond.methodLink RX5 69 yX2_giveTouch, Cond.instanceMethod yX2_giveTouch, Cond.selects RX2 yX2_giveTouch yX2_giveTouch, Cond.code yX2_giveTouch cX2_giveTouch 2 none, Cond.fieldLink RX2 34 "PortTimers$Side" "lowUntilEdge" "Z", Cond.fieldLink RX2 38 "PortTimers$Side" "lowUntilCycle" "Z"]
def wsL_read_r4 : List Cond := [Cond.methodLink RX5 102 yX0_lower, Cond.methodLink RX5 120 yX5_lowByte, Cond.static yX5_lowByte, Cond.code yX5_lowByte cX5_lowByte 1 (some .int), Cond.methodLink RX5 124 yX5_highByte, Cond.static yX5_highByte, Cond.code yX5_highByte cX5_highByte 1 (some .int), Cond.methodLink RX5 93 yX1_begin, Cond.instanceMethod yX1_begin, Cond.selects RX1 yX1_begin yX1_begin, Cond.initialized RX1, Cond.code yX1_begin cX1_begin 1 none, Cond.fieldLink RX1 15 "PortTimers$Shifter" "flags" "LPortTimers$Flags;", Cond.fieldLink RX1 22 "PortTimers$Shifter" "toCome" "I", Cond.fieldLink RX1 25 "PortTimers$Shifter" "halfway" "Z", Cond.methodLink RX1 29 yX0_lower, Cond.methodLink RX5 129 yX0_withCall, Cond.instanceMethod yX0_withCall, Cond.selects RX0 yX0_withCall yX0_withCall, Cond.code yX0_withCall cX0_withCall 1 (some .int), Cond.methodLink RX0 18 yX0_call, Cond.instanceMethod yX0_call, Cond.selects RX0 yX0_call yX0_call, Cond.code yX0_call cX0_call 1 (some .boolean)]
def wsL_read_r5 : List Cond := [Cond.fieldLink RX0 15 "PortTimers$Flags" "enabled" "I"]
def wsL_read : List Cond := .codeWith yL_read cL_read 4 (some .int) [(0, 9, 12, 13)] :: ((wsL_read_r1 ++ (wsL_read_r2 ++ (wsL_read_r3 ++ (wsL_read_r4 ++ wsL_read_r5)))) ++ wsX50 ++ wsX20 ++ wsX30 ++ wsX40 ++ wsX10 ++ wsX00 ++ (vx_atS RX5 59 "java/lang/IllegalArgumentException" ["java/lang/RuntimeException", "java/lang/Exception"]).filter goodWord)
def wsL_pins_r1 : List Cond := [Cond.classLink RL 13 "java/lang/IllegalArgumentException", Cond.methodLink RL 19 yX5_pins, Cond.instanceMethod yX5_pins, Cond.selects RX5 yX5_pins yX5_pins, Cond.initialized RX5, Cond.code yX5_pins cX5_pins 4 none, Cond.classLink RX5 55 "java/lang/IllegalArgumentException", Cond.initialized "java/lang/IllegalArgumentException", Cond.fieldLink RX5 25 "PortTimers" "sideB" "LPortTimers$Side;", Cond.fieldLink RX5 21 "PortTimers" "sideA" "LPortTimers$Side;", Cond.fieldLink RX5 40 "PortTimers" "timer2" "LPortTimers$Timer2;", Cond.methodLink RX5 51 yX5_isByte, Cond.static yX5_isByte, Cond.code yX5_isByte cX5_isByte 1 (some .boolean), Cond.methodLink RX5 143 yX5_controlHas, Cond.instanceMethod yX5_controlHas, Cond.selects RX5 yX5_controlHas yX5_controlHas, Cond.code yX5_controlHas cX5_controlHas 2 (some .boolean), Cond.fieldLink RX5 96 "PortTimers" "control" "I", Cond.methodLink RX5 146 yX4_countDown, Cond.instanceMethod yX4_countDown, Cond.selects RX4 yX4_countDown yX4_countDown, Cond.initialized RX4, Cond.code yX4_countDown cX4_countDown 2 none]
def wsL_pins_r2 : List Cond := [Cond.fieldLink RX4 15 "PortTimers$Timer2" "count" "I", Cond.fieldLink RX4 22 "PortTimers$Timer2" "armed" "Z", Cond.fieldLink RX4 9 "PortTimers$Timer2" "flags" "LPortTimers$Flags;", Cond.constant RX4 35 (65535), Cond.methodLink RX4 32 yX0_raise, Cond.instanceMethod yX0_raise, Cond.selects RX0 yX0_raise yX0_raise, Cond.initialized RX0, Cond.code yX0_raise cX0_raise 2 none, Cond.fieldLink RX0 9 "PortTimers$Flags" "raised" "I"]
def wsL_pins : List Cond := .codeWith yL_pins cL_pins 4 (some .int) [(0, 6, 9, 13)] :: ((wsL_pins_r1 ++ wsL_pins_r2) ++ wsX50 ++ wsX20 ++ wsX40 ++ wsX00 ++ (vx_atS RX5 59 "java/lang/IllegalArgumentException" ["java/lang/RuntimeException", "java/lang/Exception"]).filter goodWord)
def wsL_line_r1 : List Cond := [Cond.classLink RL 13 "java/lang/IllegalArgumentException", Cond.methodLink RL 22 yX5_line, Cond.instanceMethod yX5_line, Cond.selects RX5 yX5_line yX5_line, Cond.initialized RX5, Cond.code yX5_line cX5_line 3 (some .boolean), Cond.classLink RX5 55 "java/lang/IllegalArgumentException", Cond.initialized "java/lang/IllegalArgumentException", Cond.fieldLink RX5 21 "PortTimers" "sideA" "LPortTimers$Side;", Cond.fieldLink RX5 25 "PortTimers" "sideB" "LPortTimers$Side;", Cond.methodLink RX5 149 yX2_moveLine1, Cond.instanceMethod yX2_moveLine1, Cond.selects RX2 yX2_moveLine1 yX2_moveLine1, Cond.initialized RX2, Cond.code yX2_moveLine1 cX2_moveLine1 4 (some .boolean), Cond.fieldLink RX2 28 "PortTimers$Side" "ways" "I", Cond.fieldLink RX2 58 "PortTimers$Side" "line1" "Z", Cond.fieldLink RX2 9 "PortTimers$Side" "flags" "LPortTimers$Flags;", Cond.fieldLink RX2 15 "PortTimers$Side" "flagOfLine1" "I", Cond.fieldLink RX2 47 "PortTimers$Side" "pins" "I", Cond.fieldLink RX2 31 "PortTimers$Side" "heldPins" "I", Cond.fieldLink RX2 34 "PortTimers$Side" "lowUntilEdge" "Z", Cond.methodLink RX2 61 yX0_raise, Cond.instanceMethod yX0_raise]
def wsL_line_r2 : List Cond := [Cond.selects RX0 yX0_raise yX0_raise, Cond.initialized RX0, Cond.code yX0_raise cX0_raise 2 none, Cond.fieldLink RX0 9 "PortTimers$Flags" "raised" "I", Cond.methodLink RX5 153 yX2_moveLine2, Cond.instanceMethod yX2_moveLine2, Cond.selects RX2 yX2_moveLine2 yX2_moveLine2, Cond.code yX2_moveLine2 cX2_moveLine2 5 (some .boolean), Cond.fieldLink RX2 64 "PortTimers$Side" "line2" "Z", Cond.fieldLink RX2 19 "PortTimers$Side" "flagOfLine2" "I", Cond.methodLink RX2 54 yX2_wayOfLine2, Cond.instanceMethod yX2_wayOfLine2, Cond.selects RX2 yX2_wayOfLine2 yX2_wayOfLine2, Cond.code yX2_wayOfLine2 cX2_wayOfLine2 1 (some .int)]
def wsL_line : List Cond := .codeWith yL_line cL_line 5 (some .int) [(0, 17, 20, 13)] :: ((wsL_line_r1 ++ wsL_line_r2) ++ wsX50 ++ wsX20 ++ wsX00 ++ (vx_atS RX5 59 "java/lang/IllegalArgumentException" ["java/lang/RuntimeException", "java/lang/Exception"]).filter goodWord)
def wsL_step_r1 : List Cond := [Cond.classLink RL 13 "java/lang/IllegalArgumentException", Cond.methodLink RL 26 yX5_step, Cond.instanceMethod yX5_step, Cond.selects RX5 yX5_step yX5_step, Cond.initialized RX5, Cond.code yX5_step cX5_step 2 (some .int), Cond.classLink RX5 55 "java/lang/IllegalArgumentException", Cond.initialized "java/lang/IllegalArgumentException", Cond.constant RX5 158 (200000), Cond.fieldLink RX5 10 "PortTimers" "flags" "LPortTimers$Flags;", Cond.methodLink RX5 161 yX5_goOn, Cond.instanceMethod yX5_goOn, Cond.selects RX5 yX5_goOn yX5_goOn, Cond.code yX5_goOn cX5_goOn 2 none, Cond.fieldLink RX5 33 "PortTimers" "timer1" "LPortTimers$Timer1;", Cond.fieldLink RX5 40 "PortTimers" "timer2" "LPortTimers$Timer2;", Cond.fieldLink RX5 47 "PortTimers" "shifter" "LPortTimers$Shifter;", Cond.fieldLink RX5 25 "PortTimers" "sideB" "LPortTimers$Side;", Cond.fieldLink RX5 21 "PortTimers" "sideA" "LPortTimers$Side;", Cond.fieldLink RX5 190 "PortTimers" "cycles" "I", Cond.methodLink RX5 143 yX5_controlHas, Cond.instanceMethod yX5_controlHas, Cond.selects RX5 yX5_controlHas yX5_controlHas, Cond.code yX5_controlHas cX5_controlHas 2 (some .boolean)]
def wsL_step_r2 : List Cond := [Cond.fieldLink RX5 96 "PortTimers" "control" "I", Cond.methodLink RX5 202 yX3_goOn, Cond.instanceMethod yX3_goOn, Cond.selects RX3 yX3_goOn yX3_goOn, Cond.initialized RX3, Cond.code yX3_goOn cX3_goOn 3 none, Cond.methodLink RX3 38 yX3_runFreely, Cond.instanceMethod yX3_runFreely, Cond.selects RX3 yX3_runFreely yX3_runFreely, Cond.code yX3_runFreely cX3_runFreely 3 none, Cond.fieldLink RX3 29 "PortTimers$Timer1" "latchIsDue" "Z", Cond.fieldLink RX3 22 "PortTimers$Timer1" "latch" "I", Cond.fieldLink RX3 19 "PortTimers$Timer1" "count" "I", Cond.methodLink RX3 48 yX3_runOut, Cond.instanceMethod yX3_runOut, Cond.selects RX3 yX3_runOut yX3_runOut, Cond.code yX3_runOut cX3_runOut 5 none, Cond.fieldLink RX3 15 "PortTimers$Timer1" "flags" "LPortTimers$Flags;", Cond.fieldLink RX3 9 "PortTimers$Timer1" "bit" "I", Cond.constant RX3 47 (65535), Cond.methodLink RX3 44 yX0_raise, Cond.instanceMethod yX0_raise, Cond.selects RX0 yX0_raise yX0_raise, Cond.initialized RX0]
def wsL_step_r3 : List Cond := [Cond.code yX0_raise cX0_raise 2 none, Cond.fieldLink RX0 9 "PortTimers$Flags" "raised" "I", Cond.methodLink RX3 41 yX3_runOnce, Cond.instanceMethod yX3_runOnce, Cond.selects RX3 yX3_runOnce yX3_runOnce, Cond.code yX3_runOnce cX3_runOnce 2 none, Cond.fieldLink RX3 25 "PortTimers$Timer1" "armed" "Z", Cond.methodLink RX5 146 yX4_countDown, Cond.instanceMethod yX4_countDown, Cond.selects RX4 yX4_countDown yX4_countDown, Cond.initialized RX4, Cond.code yX4_countDown cX4_countDown 2 none, Cond.fieldLink RX4 15 "PortTimers$Timer2" "count" "I", Cond.fieldLink RX4 22 "PortTimers$Timer2" "armed" "Z", Cond.fieldLink RX4 9 "PortTimers$Timer2" "flags" "LPortTimers$Flags;", Cond.constant RX4 35 (65535), Cond.methodLink RX4 32 yX0_raise, Cond.methodLink RX5 205 yX5_mode, Cond.instanceMethod yX5_mode, Cond.selects RX5 yX5_mode yX5_mode, Cond.code yX5_mode cX5_mode 1 (some .int), Cond.methodLink RX5 211 yX1_goOn, Cond.instanceMethod yX1_goOn, Cond.selects RX1 yX1_goOn yX1_goOn]
def wsL_step_r4 : List Cond := [Cond.initialized RX1, Cond.code yX1_goOn cX1_goOn 5 none, Cond.fieldLink RX1 22 "PortTimers$Shifter" "toCome" "I", Cond.fieldLink RX1 25 "PortTimers$Shifter" "halfway" "Z", Cond.methodLink RX1 35 yX1_shift, Cond.instanceMethod yX1_shift, Cond.selects RX1 yX1_shift yX1_shift, Cond.code yX1_shift cX1_shift 5 none, Cond.fieldLink RX1 19 "PortTimers$Shifter" "bits" "I", Cond.fieldLink RX1 9 "PortTimers$Shifter" "given" "I", Cond.fieldLink RX1 15 "PortTimers$Shifter" "flags" "LPortTimers$Flags;", Cond.methodLink RX1 39 yX0_raise, Cond.methodLink RX5 214 yX2_endCycle, Cond.instanceMethod yX2_endCycle, Cond.selects RX2 yX2_endCycle yX2_endCycle, Cond.initialized RX2, Cond.code yX2_endCycle cX2_endCycle 1 none, Cond.fieldLink RX2 38 "PortTimers$Side" "lowUntilCycle" "Z", Cond.methodLink RX5 129 yX0_withCall, Cond.instanceMethod yX0_withCall, Cond.selects RX0 yX0_withCall yX0_withCall, Cond.code yX0_withCall cX0_withCall 1 (some .int), Cond.methodLink RX0 18 yX0_call, Cond.instanceMethod yX0_call]
def wsL_step_r5 : List Cond := [Cond.selects RX0 yX0_call yX0_call, Cond.code yX0_call cX0_call 1 (some .boolean), Cond.fieldLink RX0 15 "PortTimers$Flags" "enabled" "I"]
def wsL_step : List Cond := .codeWith yL_step cL_step 4 (some .int) [(0, 9, 12, 13)] :: ((wsL_step_r1 ++ (wsL_step_r2 ++ (wsL_step_r3 ++ (wsL_step_r4 ++ wsL_step_r5)))) ++ wsX50 ++ wsX20 ++ wsX30 ++ wsX00 ++ wsX40 ++ wsX10 ++ (vx_atS RX5 59 "java/lang/IllegalArgumentException" ["java/lang/RuntimeException", "java/lang/Exception"]).filter goodWord)
def wsL_out_r1 : List Cond := [Cond.classLink RL 13 "java/lang/IllegalArgumentException", Cond.methodLink RL 29 yX5_out, Cond.instanceMethod yX5_out, Cond.selects RX5 yX5_out yX5_out, Cond.initialized RX5, Cond.code yX5_out cX5_out 2 (some .int), Cond.classLink RX5 55 "java/lang/IllegalArgumentException", Cond.initialized "java/lang/IllegalArgumentException", Cond.fieldLink RX5 21 "PortTimers" "sideA" "LPortTimers$Side;", Cond.fieldLink RX5 25 "PortTimers" "sideB" "LPortTimers$Side;", Cond.fieldLink RX5 10 "PortTimers" "flags" "LPortTimers$Flags;", Cond.methodLink RX5 164 yX5_withTimersBit, Cond.instanceMethod yX5_withTimersBit, Cond.selects RX5 yX5_withTimersBit yX5_withTimersBit, Cond.code yX5_withTimersBit cX5_withTimersBit 2 (some .int), Cond.fieldLink RX5 33 "PortTimers" "timer1" "LPortTimers$Timer1;", Cond.methodLink RX5 143 yX5_controlHas, Cond.instanceMethod yX5_controlHas, Cond.selects RX5 yX5_controlHas yX5_controlHas, Cond.code yX5_controlHas cX5_controlHas 2 (some .boolean), Cond.fieldLink RX5 96 "PortTimers" "control" "I", Cond.methodLink RX5 167 yX2_line2Gives, Cond.instanceMethod yX2_line2Gives, Cond.selects RX2 yX2_line2Gives yX2_line2Gives]
def wsL_out_r2 : List Cond := [Cond.initialized RX2, Cond.code yX2_line2Gives cX2_line2Gives 3 (some .int), Cond.fieldLink RX2 34 "PortTimers$Side" "lowUntilEdge" "Z", Cond.fieldLink RX2 38 "PortTimers$Side" "lowUntilCycle" "Z", Cond.methodLink RX2 54 yX2_wayOfLine2, Cond.instanceMethod yX2_wayOfLine2, Cond.selects RX2 yX2_wayOfLine2 yX2_wayOfLine2, Cond.code yX2_wayOfLine2 cX2_wayOfLine2 1 (some .int), Cond.fieldLink RX2 28 "PortTimers$Side" "ways" "I", Cond.methodLink RX5 170 yX5_lineCB2Gives, Cond.instanceMethod yX5_lineCB2Gives, Cond.selects RX5 yX5_lineCB2Gives yX5_lineCB2Gives, Cond.code yX5_lineCB2Gives cX5_lineCB2Gives 2 (some .int), Cond.fieldLink RX5 47 "PortTimers" "shifter" "LPortTimers$Shifter;", Cond.methodLink RX5 221 yX2_wayOfLine2, Cond.methodLink RX5 205 yX5_mode, Cond.instanceMethod yX5_mode, Cond.selects RX5 yX5_mode yX5_mode, Cond.code yX5_mode cX5_mode 1 (some .int), Cond.methodLink RX5 173 yX0_call, Cond.instanceMethod yX0_call, Cond.selects RX0 yX0_call yX0_call, Cond.initialized RX0, Cond.code yX0_call cX0_call 1 (some .boolean)]
def wsL_out_r3 : List Cond := [Cond.fieldLink RX0 9 "PortTimers$Flags" "raised" "I", Cond.fieldLink RX0 15 "PortTimers$Flags" "enabled" "I"]
def wsL_out : List Cond := .codeWith yL_out cL_out 4 (some .int) [(0, 9, 12, 13)] :: ((wsL_out_r1 ++ (wsL_out_r2 ++ wsL_out_r3)) ++ wsX50 ++ wsX20 ++ wsX30 ++ wsX10 ++ wsX00 ++ (vx_atS RX5 59 "java/lang/IllegalArgumentException" ["java/lang/RuntimeException", "java/lang/Exception"]).filter goodWord)
def wsL_told : List Cond := .codeWith yL_told cL_told 4 (some .int) [(0, 9, 12, 13)] :: ([.classLink RL 13 "java/lang/IllegalArgumentException", .methodLink RL 32 yX5_told, .instanceMethod yX5_told, .selects RX5 yX5_told yX5_told, .initialized RX5, .code yX5_told cX5_told 2 (some .int), .classLink RX5 55 "java/lang/IllegalArgumentException", .initialized "java/lang/IllegalArgumentException", .fieldLink RX5 33 "PortTimers" "timer1" "LPortTimers$Timer1;", .fieldLink RX5 40 "PortTimers" "timer2" "LPortTimers$Timer2;", .fieldLink RX5 47 "PortTimers" "shifter" "LPortTimers$Shifter;", .fieldLink RX5 190 "PortTimers" "cycles" "I"] ++ wsX50 ++ wsX30 ++ wsX40 ++ wsX10 ++ (vx_atS RX5 59 "java/lang/IllegalArgumentException" ["java/lang/RuntimeException", "java/lang/Exception"]).filter goodWord)
def wsL_law0_r1 : List Cond := [Cond.classLink RL 8 RX5, Cond.instantiable RX5 8, Cond.initialized RX5, Cond.classLink RL 36 RX6, Cond.instantiable RX6 31, Cond.initialized RX6, Cond.arrayClass .long, Cond.methodLink RL 35 yX5_init, Cond.instanceMethod yX5_init, Cond.code yX5_init cX5_init 1 none, Cond.methodLink RX5 1 objectInit, Cond.instanceMethod objectInit, Cond.code objectInit ⟨#[0xb1]⟩ 1 none, Cond.classLink RX5 7 RX0, Cond.instantiable RX0 2, Cond.initialized RX0, Cond.fieldLink RX5 10 "PortTimers" "flags" "LPortTimers$Flags;", Cond.classLink RX5 16 RX2, Cond.instantiable RX2 12, Cond.initialized RX2, Cond.fieldLink RX5 21 "PortTimers" "sideA" "LPortTimers$Side;", Cond.fieldLink RX5 25 "PortTimers" "sideB" "LPortTimers$Side;", Cond.classLink RX5 28 RX3, Cond.instantiable RX3 6]
def wsL_law0_r2 : List Cond := [Cond.initialized RX3, Cond.fieldLink RX5 33 "PortTimers" "timer1" "LPortTimers$Timer1;", Cond.classLink RX5 37 RX4, Cond.instantiable RX4 4, Cond.initialized RX4, Cond.fieldLink RX5 40 "PortTimers" "timer2" "LPortTimers$Timer2;", Cond.classLink RX5 44 RX1, Cond.instantiable RX1 5, Cond.initialized RX1, Cond.fieldLink RX5 47 "PortTimers" "shifter" "LPortTimers$Shifter;", Cond.instanceMethod yX0_init, Cond.code yX0_init cX0_init 1 none, Cond.methodLink RX0 3 objectInit, Cond.methodLink RX5 18 yX2_init, Cond.instanceMethod yX2_init, Cond.code yX2_init cX2_init 4 none, Cond.methodLink RX2 3 objectInit, Cond.fieldLink RX2 9 "PortTimers$Side" "flags" "LPortTimers$Flags;", Cond.fieldLink RX2 15 "PortTimers$Side" "flagOfLine1" "I", Cond.fieldLink RX2 19 "PortTimers$Side" "flagOfLine2" "I", Cond.methodLink RX5 30 yX3_init, Cond.instanceMethod yX3_init, Cond.code yX3_init cX3_init 2 none, Cond.methodLink RX3 3 objectInit]
def wsL_law0_r3 : List Cond := [Cond.fieldLink RX3 9 "PortTimers$Timer1" "bit" "I", Cond.fieldLink RX3 15 "PortTimers$Timer1" "flags" "LPortTimers$Flags;", Cond.methodLink RX5 39 yX4_init, Cond.instanceMethod yX4_init, Cond.code yX4_init cX4_init 2 none, Cond.methodLink RX4 3 objectInit, Cond.fieldLink RX4 9 "PortTimers$Timer2" "flags" "LPortTimers$Flags;", Cond.methodLink RX5 46 yX1_init, Cond.instanceMethod yX1_init, Cond.code yX1_init cX1_init 2 none, Cond.methodLink RX1 3 objectInit, Cond.fieldLink RX1 9 "PortTimers$Shifter" "given" "I", Cond.fieldLink RX1 15 "PortTimers$Shifter" "flags" "LPortTimers$Flags;", Cond.methodLink RL 38 yX6_init, Cond.instanceMethod yX6_init, Cond.code yX6_init cX6_init 1 none, Cond.methodLink RX6 1 objectInit, Cond.arrayClass .boolean, Cond.fieldLink RX6 7 "PortTimersModel" "lines" "[Z", Cond.methodLink RX6 13 yX6_clear, Cond.instanceMethod yX6_clear, Cond.selects RX6 yX6_clear yX6_clear, Cond.code yX6_clear cX6_clear 1 none, Cond.fieldLink RX6 20 "PortTimersModel" "outA" "I"]
def wsL_law0_r4 : List Cond := [Cond.fieldLink RX6 23 "PortTimersModel" "outB" "I", Cond.fieldLink RX6 26 "PortTimersModel" "directionsA" "I", Cond.fieldLink RX6 29 "PortTimersModel" "directionsB" "I", Cond.fieldLink RX6 32 "PortTimersModel" "control" "I", Cond.fieldLink RX6 35 "PortTimersModel" "ways" "I", Cond.fieldLink RX6 38 "PortTimersModel" "flags" "I", Cond.fieldLink RX6 41 "PortTimersModel" "enabled" "I", Cond.fieldLink RX6 44 "PortTimersModel" "heldA" "I", Cond.fieldLink RX6 47 "PortTimersModel" "heldB" "I", Cond.fieldLink RX6 50 "PortTimersModel" "untilA" "Z", Cond.fieldLink RX6 54 "PortTimersModel" "onceA" "Z", Cond.fieldLink RX6 57 "PortTimersModel" "untilB" "Z", Cond.fieldLink RX6 60 "PortTimersModel" "onceB" "Z", Cond.fieldLink RX6 63 "PortTimersModel" "timer1" "I", Cond.fieldLink RX6 66 "PortTimersModel" "latch1" "I", Cond.fieldLink RX6 69 "PortTimersModel" "armed1" "Z", Cond.fieldLink RX6 72 "PortTimersModel" "reloads" "Z", Cond.fieldLink RX6 75 "PortTimersModel" "bit" "Z", Cond.fieldLink RX6 78 "PortTimersModel" "timer2" "I", Cond.fieldLink RX6 81 "PortTimersModel" "latch2" "I", Cond.fieldLink RX6 84 "PortTimersModel" "armed2" "Z", Cond.fieldLink RX6 87 "PortTimersModel" "shifter" "I", Cond.fieldLink RX6 90 "PortTimersModel" "shifts" "I", Cond.fieldLink RX6 93 "PortTimersModel" "wait" "I"]
def wsL_law0_r5 : List Cond := [Cond.fieldLink RX6 96 "PortTimersModel" "shifted" "I", Cond.fieldLink RX6 99 "PortTimersModel" "cycles" "I", Cond.methodLink RL 39 yL_write, Cond.static yL_write, Cond.initialized RL, Cond.codeWith yL_write cL_write 4 (some .int) [(0, 6, 9, 13)], Cond.classLink RL 13 "java/lang/IllegalArgumentException", Cond.methodLink RL 7 yX5_write, Cond.instanceMethod yX5_write, Cond.selects RX5 yX5_write yX5_write, Cond.code yX5_write cX5_write 3 none, Cond.classLink RX5 55 "java/lang/IllegalArgumentException", Cond.initialized "java/lang/IllegalArgumentException", Cond.fieldLink RX5 96 "PortTimers" "control" "I", Cond.methodLink RX5 51 yX5_isByte, Cond.static yX5_isByte, Cond.code yX5_isByte cX5_isByte 1 (some .boolean), Cond.methodLink RX5 66 yX2_touch, Cond.instanceMethod yX2_touch, Cond.selects RX2 yX2_touch yX2_touch, Cond.code yX2_touch cX2_touch 2 none, Cond.methodLink RX2 50 yX0_lower, Cond.instanceMethod yX0_lower, Cond.selects RX0 yX0_lower yX0_lower]
def wsL_law0_r6 : List Cond := [Cond.code yX0_lower cX0_lower 2 none, Cond.fieldLink RX0 9 "PortTimers$Flags" "raised" "I", Cond.methodLink RX2 54 yX2_wayOfLine2, Cond.instanceMethod yX2_wayOfLine2, Cond.selects RX2 yX2_wayOfLine2 yX2_wayOfLine2, Cond.code yX2_wayOfLine2 cX2_wayOfLine2 1 (some .int), Cond.fieldLink RX2 28 "PortTimers$Side" "ways" "I", Cond.methodLink RX5 69 yX2_giveTouch, Cond.instanceMethod yX2_giveTouch, Cond.selects RX2 yX2_giveTouch yX2_giveTouch, Cond.code yX2_giveTouch cX2_giveTouch 2 none, Cond.fieldLink RX2 34 "PortTimers$Side" "lowUntilEdge" "Z", Cond.fieldLink RX2 38 "PortTimers$Side" "lowUntilCycle" "Z", Cond.methodLink RX5 75 yX3_latchLow, Cond.instanceMethod yX3_latchLow, Cond.selects RX3 yX3_latchLow yX3_latchLow, Cond.code yX3_latchLow cX3_latchLow 2 none, Cond.fieldLink RX3 22 "PortTimers$Timer1" "latch" "I", Cond.methodLink RX5 79 yX3_latchHigh, Cond.instanceMethod yX3_latchHigh, Cond.selects RX3 yX3_latchHigh yX3_latchHigh, Cond.code yX3_latchHigh cX3_latchHigh 2 none, Cond.methodLink RX3 32 yX0_lower, Cond.methodLink RX5 82 yX3_start]
def wsL_law0_r7 : List Cond := [Cond.instanceMethod yX3_start, Cond.selects RX3 yX3_start yX3_start, Cond.code yX3_start cX3_start 1 none, Cond.fieldLink RX3 19 "PortTimers$Timer1" "count" "I", Cond.fieldLink RX3 25 "PortTimers$Timer1" "armed" "Z", Cond.fieldLink RX3 29 "PortTimers$Timer1" "latchIsDue" "Z", Cond.methodLink RX5 88 yX4_start, Cond.instanceMethod yX4_start, Cond.selects RX4 yX4_start yX4_start, Cond.code yX4_start cX4_start 2 none, Cond.fieldLink RX4 19 "PortTimers$Timer2" "latch" "I", Cond.fieldLink RX4 15 "PortTimers$Timer2" "count" "I", Cond.fieldLink RX4 22 "PortTimers$Timer2" "armed" "Z", Cond.methodLink RX4 26 yX0_lower, Cond.methodLink RX5 93 yX1_begin, Cond.instanceMethod yX1_begin, Cond.selects RX1 yX1_begin yX1_begin, Cond.code yX1_begin cX1_begin 1 none, Cond.fieldLink RX1 22 "PortTimers$Shifter" "toCome" "I", Cond.fieldLink RX1 25 "PortTimers$Shifter" "halfway" "Z", Cond.methodLink RX1 29 yX0_lower, Cond.methodLink RX5 102 yX0_lower, Cond.methodLink RX5 105 yX0_enable, Cond.instanceMethod yX0_enable]
def wsL_law0_r8 : List Cond := [Cond.selects RX0 yX0_enable yX0_enable, Cond.code yX0_enable cX0_enable 2 none, Cond.fieldLink RX0 15 "PortTimers$Flags" "enabled" "I", Cond.methodLink RL 44 yX6_write, Cond.instanceMethod yX6_write, Cond.selects RX6 yX6_write yX6_write, Cond.code yX6_write cX6_write 3 none, Cond.fieldLink RX6 16 "PortTimersModel" "thrown" "I", Cond.constant RX6 133 (65280), Cond.methodLink RX6 123 yX6_noByte, Cond.static yX6_noByte, Cond.code yX6_noByte cX6_noByte 1 (some .boolean), Cond.methodLink RX6 126 yX6_touchB, Cond.instanceMethod yX6_touchB, Cond.selects RX6 yX6_touchB yX6_touchB, Cond.code yX6_touchB cX6_touchB 2 none, Cond.methodLink RX6 102 yX6_drop, Cond.instanceMethod yX6_drop, Cond.selects RX6 yX6_drop yX6_drop, Cond.code yX6_drop cX6_drop 2 none, Cond.methodLink RX6 110 yX6_wayB, Cond.instanceMethod yX6_wayB, Cond.selects RX6 yX6_wayB yX6_wayB, Cond.code yX6_wayB cX6_wayB 1 (some .int)]
def wsL_law0_r9 : List Cond := [Cond.methodLink RX6 130 yX6_touchA, Cond.instanceMethod yX6_touchA, Cond.selects RX6 yX6_touchA yX6_touchA, Cond.code yX6_touchA cX6_touchA 1 none, Cond.methodLink RX6 106 yX6_wayA, Cond.instanceMethod yX6_wayA, Cond.selects RX6 yX6_wayA yX6_wayA, Cond.code yX6_wayA cX6_wayA 1 (some .int), Cond.methodLink RX6 134 yX6_eight, Cond.instanceMethod yX6_eight, Cond.selects RX6 yX6_eight yX6_eight, Cond.code yX6_eight cX6_eight 1 none, Cond.methodLink RL 45 yX6_thrown, Cond.instanceMethod yX6_thrown, Cond.selects RX6 yX6_thrown yX6_thrown, Cond.code yX6_thrown cX6_thrown 1 (some .int), Cond.methodLink RL 49 yL_read, Cond.static yL_read, Cond.codeWith yL_read cL_read 4 (some .int) [(0, 9, 12, 13)], Cond.methodLink RL 15 yX5_read, Cond.instanceMethod yX5_read, Cond.selects RX5 yX5_read yX5_read, Cond.code yX5_read cX5_read 2 (some .int), Cond.methodLink RX5 110 yX5_readPortB]
def wsL_law0_r10 : List Cond := [Cond.instanceMethod yX5_readPortB, Cond.selects RX5 yX5_readPortB yX5_readPortB, Cond.code yX5_readPortB cX5_readPortB 2 (some .int), Cond.methodLink RX5 143 yX5_controlHas, Cond.instanceMethod yX5_controlHas, Cond.selects RX5 yX5_controlHas yX5_controlHas, Cond.code yX5_controlHas cX5_controlHas 2 (some .boolean), Cond.methodLink RX5 217 yX2_port, Cond.instanceMethod yX2_port, Cond.selects RX2 yX2_port yX2_port, Cond.code yX2_port cX2_port 3 (some .int), Cond.fieldLink RX2 31 "PortTimers$Side" "heldPins" "I", Cond.fieldLink RX2 47 "PortTimers$Side" "pins" "I", Cond.fieldLink RX2 22 "PortTimers$Side" "out" "I", Cond.fieldLink RX2 25 "PortTimers$Side" "directions" "I", Cond.methodLink RX2 41 yX0_has, Cond.instanceMethod yX0_has, Cond.selects RX0 yX0_has yX0_has, Cond.code yX0_has cX0_has 2 (some .boolean), Cond.methodLink RX5 164 yX5_withTimersBit, Cond.instanceMethod yX5_withTimersBit, Cond.selects RX5 yX5_withTimersBit yX5_withTimersBit, Cond.code yX5_withTimersBit cX5_withTimersBit 2 (some .int), Cond.methodLink RX5 114 yX5_readPortA]
def wsL_law0_r11 : List Cond := [Cond.instanceMethod yX5_readPortA, Cond.selects RX5 yX5_readPortA yX5_readPortA, Cond.code yX5_readPortA cX5_readPortA 2 (some .int), Cond.methodLink RX5 135 yX5_portA, Cond.instanceMethod yX5_portA, Cond.selects RX5 yX5_portA yX5_portA, Cond.code yX5_portA cX5_portA 1 (some .int), Cond.methodLink RX5 120 yX5_lowByte, Cond.static yX5_lowByte, Cond.code yX5_lowByte cX5_lowByte 1 (some .int), Cond.methodLink RX5 124 yX5_highByte, Cond.static yX5_highByte, Cond.code yX5_highByte cX5_highByte 1 (some .int), Cond.methodLink RX5 129 yX0_withCall, Cond.instanceMethod yX0_withCall, Cond.selects RX0 yX0_withCall yX0_withCall, Cond.code yX0_withCall cX0_withCall 1 (some .int), Cond.methodLink RX0 18 yX0_call, Cond.instanceMethod yX0_call, Cond.selects RX0 yX0_call yX0_call, Cond.code yX0_call cX0_call 1 (some .boolean), Cond.methodLink RL 52 yX6_read, Cond.instanceMethod yX6_read, Cond.selects RX6 yX6_read yX6_read]
def wsL_law0_r12 : List Cond := [Cond.code yX6_read cX6_read 3 (some .int), Cond.methodLink RX6 137 yX6_portB, Cond.instanceMethod yX6_portB, Cond.selects RX6 yX6_portB yX6_portB, Cond.code yX6_portB cX6_portB 3 (some .int), Cond.fieldLink RX6 120 "PortTimersModel" "pinsB" "I", Cond.methodLink RX6 113 yX6_has, Cond.instanceMethod yX6_has, Cond.selects RX6 yX6_has yX6_has, Cond.code yX6_has cX6_has 2 (some .boolean), Cond.methodLink RX6 140 yX6_portA, Cond.instanceMethod yX6_portA, Cond.selects RX6 yX6_portA yX6_portA, Cond.code yX6_portA cX6_portA 2 (some .int), Cond.fieldLink RX6 117 "PortTimersModel" "pinsA" "I", Cond.methodLink RX6 143 yX6_allFlags, Cond.instanceMethod yX6_allFlags, Cond.selects RX6 yX6_allFlags yX6_allFlags, Cond.code yX6_allFlags cX6_allFlags 1 (some .int), Cond.methodLink RL 53 yL_pins, Cond.static yL_pins, Cond.codeWith yL_pins cL_pins 4 (some .int) [(0, 6, 9, 13)], Cond.methodLink RL 19 yX5_pins, Cond.instanceMethod yX5_pins]
def wsL_law0_r13 : List Cond := [Cond.selects RX5 yX5_pins yX5_pins, Cond.code yX5_pins cX5_pins 4 none, Cond.methodLink RX5 146 yX4_countDown, Cond.instanceMethod yX4_countDown, Cond.selects RX4 yX4_countDown yX4_countDown, Cond.code yX4_countDown cX4_countDown 2 none, Cond.constant RX4 35 (65535), Cond.methodLink RX4 32 yX0_raise, Cond.instanceMethod yX0_raise, Cond.selects RX0 yX0_raise yX0_raise, Cond.code yX0_raise cX0_raise 2 none, Cond.methodLink RL 55 yX6_pins, Cond.instanceMethod yX6_pins, Cond.selects RX6 yX6_pins yX6_pins, Cond.code yX6_pins cX6_pins 4 none, Cond.methodLink RX6 150 yX6_lessTimer2, Cond.instanceMethod yX6_lessTimer2, Cond.selects RX6 yX6_lessTimer2 yX6_lessTimer2, Cond.code yX6_lessTimer2 cX6_lessTimer2 1 none, Cond.constant RX6 146 (65535), Cond.methodLink RX6 147 yX6_set, Cond.instanceMethod yX6_set, Cond.selects RX6 yX6_set yX6_set, Cond.code yX6_set cX6_set 2 none]
def wsL_law0_r14 : List Cond := [Cond.methodLink RL 56 yL_line, Cond.static yL_line, Cond.codeWith yL_line cL_line 5 (some .int) [(0, 17, 20, 13)], Cond.methodLink RL 22 yX5_line, Cond.instanceMethod yX5_line, Cond.selects RX5 yX5_line yX5_line, Cond.code yX5_line cX5_line 3 (some .boolean), Cond.methodLink RX5 149 yX2_moveLine1, Cond.instanceMethod yX2_moveLine1, Cond.selects RX2 yX2_moveLine1 yX2_moveLine1, Cond.code yX2_moveLine1 cX2_moveLine1 4 (some .boolean), Cond.fieldLink RX2 58 "PortTimers$Side" "line1" "Z", Cond.methodLink RX2 61 yX0_raise, Cond.methodLink RX5 153 yX2_moveLine2, Cond.instanceMethod yX2_moveLine2, Cond.selects RX2 yX2_moveLine2 yX2_moveLine2, Cond.code yX2_moveLine2 cX2_moveLine2 5 (some .boolean), Cond.fieldLink RX2 64 "PortTimers$Side" "line2" "Z", Cond.methodLink RL 59 yX6_line, Cond.instanceMethod yX6_line, Cond.selects RX6 yX6_line yX6_line, Cond.code yX6_line cX6_line 6 (some .boolean), Cond.methodLink RL 60 yL_step, Cond.static yL_step]
def wsL_law0_r15 : List Cond := [Cond.codeWith yL_step cL_step 4 (some .int) [(0, 9, 12, 13)], Cond.methodLink RL 26 yX5_step, Cond.instanceMethod yX5_step, Cond.selects RX5 yX5_step yX5_step, Cond.code yX5_step cX5_step 2 (some .int), Cond.constant RX5 158 (200000), Cond.methodLink RX5 161 yX5_goOn, Cond.instanceMethod yX5_goOn, Cond.selects RX5 yX5_goOn yX5_goOn, Cond.code yX5_goOn cX5_goOn 2 none, Cond.fieldLink RX5 190 "PortTimers" "cycles" "I", Cond.methodLink RX5 202 yX3_goOn, Cond.instanceMethod yX3_goOn, Cond.selects RX3 yX3_goOn yX3_goOn, Cond.code yX3_goOn cX3_goOn 3 none, Cond.methodLink RX3 38 yX3_runFreely, Cond.instanceMethod yX3_runFreely, Cond.selects RX3 yX3_runFreely yX3_runFreely, Cond.code yX3_runFreely cX3_runFreely 3 none, Cond.methodLink RX3 48 yX3_runOut, Cond.instanceMethod yX3_runOut, Cond.selects RX3 yX3_runOut yX3_runOut, Cond.code yX3_runOut cX3_runOut 5 none, Cond.constant RX3 47 (65535)]
def wsL_law0_r16 : List Cond := [Cond.methodLink RX3 44 yX0_raise, Cond.methodLink RX3 41 yX3_runOnce, Cond.instanceMethod yX3_runOnce, Cond.selects RX3 yX3_runOnce yX3_runOnce, Cond.code yX3_runOnce cX3_runOnce 2 none, Cond.methodLink RX5 205 yX5_mode, Cond.instanceMethod yX5_mode, Cond.selects RX5 yX5_mode yX5_mode, Cond.code yX5_mode cX5_mode 1 (some .int), Cond.methodLink RX5 211 yX1_goOn, Cond.instanceMethod yX1_goOn, Cond.selects RX1 yX1_goOn yX1_goOn, Cond.code yX1_goOn cX1_goOn 5 none, Cond.methodLink RX1 35 yX1_shift, Cond.instanceMethod yX1_shift, Cond.selects RX1 yX1_shift yX1_shift, Cond.code yX1_shift cX1_shift 5 none, Cond.fieldLink RX1 19 "PortTimers$Shifter" "bits" "I", Cond.methodLink RX1 39 yX0_raise, Cond.methodLink RX5 214 yX2_endCycle, Cond.instanceMethod yX2_endCycle, Cond.selects RX2 yX2_endCycle yX2_endCycle, Cond.code yX2_endCycle cX2_endCycle 1 none, Cond.methodLink RL 62 yX6_step]
def wsL_law0_r17 : List Cond := [Cond.instanceMethod yX6_step, Cond.selects RX6 yX6_step yX6_step, Cond.code yX6_step cX6_step 3 (some .int), Cond.constant RX6 156 (200000), Cond.methodLink RX6 157 yX6_cycleOfTimer1, Cond.instanceMethod yX6_cycleOfTimer1, Cond.selects RX6 yX6_cycleOfTimer1 yX6_cycleOfTimer1, Cond.code yX6_cycleOfTimer1 cX6_cycleOfTimer1 2 none, Cond.methodLink RX6 160 yX6_cycleOfShifter, Cond.instanceMethod yX6_cycleOfShifter, Cond.selects RX6 yX6_cycleOfShifter yX6_cycleOfShifter, Cond.code yX6_cycleOfShifter cX6_cycleOfShifter 3 none, Cond.methodLink RX6 153 yX6_mode, Cond.instanceMethod yX6_mode, Cond.selects RX6 yX6_mode yX6_mode, Cond.code yX6_mode cX6_mode 1 (some .int), Cond.methodLink RL 63 yL_out, Cond.static yL_out, Cond.codeWith yL_out cL_out 4 (some .int) [(0, 9, 12, 13)], Cond.methodLink RL 29 yX5_out, Cond.instanceMethod yX5_out, Cond.selects RX5 yX5_out yX5_out, Cond.code yX5_out cX5_out 2 (some .int), Cond.methodLink RX5 167 yX2_line2Gives]
def wsL_law0_r18 : List Cond := [Cond.instanceMethod yX2_line2Gives, Cond.selects RX2 yX2_line2Gives yX2_line2Gives, Cond.code yX2_line2Gives cX2_line2Gives 3 (some .int), Cond.methodLink RX5 170 yX5_lineCB2Gives, Cond.instanceMethod yX5_lineCB2Gives, Cond.selects RX5 yX5_lineCB2Gives yX5_lineCB2Gives, Cond.code yX5_lineCB2Gives cX5_lineCB2Gives 2 (some .int), Cond.methodLink RX5 221 yX2_wayOfLine2, Cond.methodLink RX5 173 yX0_call, Cond.methodLink RL 65 yX6_out, Cond.instanceMethod yX6_out, Cond.selects RX6 yX6_out yX6_out, Cond.code yX6_out cX6_out 3 (some .int), Cond.methodLink RX6 163 yX6_given, Cond.static yX6_given, Cond.code yX6_given cX6_given 4 (some .int), Cond.methodLink RL 66 yL_told, Cond.static yL_told, Cond.codeWith yL_told cL_told 4 (some .int) [(0, 9, 12, 13)], Cond.methodLink RL 32 yX5_told, Cond.instanceMethod yX5_told, Cond.selects RX5 yX5_told yX5_told, Cond.code yX5_told cX5_told 2 (some .int), Cond.methodLink RL 68 yX6_told]
def wsL_law0_r19 : List Cond := [Cond.instanceMethod yX6_told, Cond.selects RX6 yX6_told yX6_told, Cond.code yX6_told cX6_told 2 (some .int), Cond.methodLink RL 69 yX5_reset, Cond.instanceMethod yX5_reset, Cond.selects RX5 yX5_reset yX5_reset, Cond.code yX5_reset cX5_reset 1 none, Cond.methodLink RX5 195 yX0_clear, Cond.instanceMethod yX0_clear, Cond.selects RX0 yX0_clear yX0_clear, Cond.code yX0_clear cX0_clear 1 none, Cond.methodLink RX5 198 yX2_clear, Cond.instanceMethod yX2_clear, Cond.selects RX2 yX2_clear yX2_clear, Cond.code yX2_clear cX2_clear 1 none, Cond.methodLink RX5 199 yX3_clear, Cond.instanceMethod yX3_clear, Cond.selects RX3 yX3_clear yX3_clear, Cond.code yX3_clear cX3_clear 1 none, Cond.methodLink RX5 200 yX4_clear, Cond.instanceMethod yX4_clear, Cond.selects RX4 yX4_clear yX4_clear, Cond.code yX4_clear cX4_clear 1 none, Cond.methodLink RX5 201 yX1_clear]
def wsL_law0_r20 : List Cond := [Cond.instanceMethod yX1_clear, Cond.selects RX1 yX1_clear yX1_clear, Cond.code yX1_clear cX1_clear 1 none, Cond.methodLink RL 72 yX6_reset, Cond.instanceMethod yX6_reset, Cond.selects RX6 yX6_reset yX6_reset, Cond.code yX6_reset cX6_reset 1 none]
def wsL_law0 : List Cond := (wsL_law0_r1 ++ (wsL_law0_r2 ++ (wsL_law0_r3 ++ (wsL_law0_r4 ++ (wsL_law0_r5 ++ (wsL_law0_r6 ++ (wsL_law0_r7 ++ (wsL_law0_r8 ++ (wsL_law0_r9 ++ (wsL_law0_r10 ++ (wsL_law0_r11 ++ (wsL_law0_r12 ++ (wsL_law0_r13 ++ (wsL_law0_r14 ++ (wsL_law0_r15 ++ (wsL_law0_r16 ++ (wsL_law0_r17 ++ (wsL_law0_r18 ++ (wsL_law0_r19 ++ wsL_law0_r20))))))))))))))))))) ++ wsX50 ++ wsX60 ++ wsX00 ++ wsX20 ++ wsX30 ++ wsX40 ++ wsX10 ++ ([] : List Cond)
def wsL_law : List Cond := wsL_law0 ++ (vx_atS RX5 59 "java/lang/IllegalArgumentException" ["java/lang/RuntimeException", "java/lang/Exception"]).filter goodWord
end
section
theorem dX0_init_0 : decode cX0_init 0 = .ok (.aload_n 0, 1) := by decide +kernel
theorem dX0_init_1 : decode cX0_init 1 = .ok (.invokespecial 3, 3) := by decide +kernel
theorem dX0_init_4 : decode cX0_init 4 = .ok (.return_, 1) := by decide +kernel
theorem dX0_clear_0 : decode cX0_clear 0 = .ok (.aload_n 0, 1) := by decide +kernel
theorem dX0_clear_1 : decode cX0_clear 1 = .ok (.iconst 0, 1) := by decide +kernel
theorem dX0_clear_2 : decode cX0_clear 2 = .ok (.putfield 9, 3) := by decide +kernel
theorem dX0_clear_5 : decode cX0_clear 5 = .ok (.aload_n 0, 1) := by decide +kernel
theorem dX0_clear_6 : decode cX0_clear 6 = .ok (.iconst 0, 1) := by decide +kernel
theorem dX0_clear_7 : decode cX0_clear 7 = .ok (.putfield 15, 3) := by decide +kernel
theorem dX0_clear_10 : decode cX0_clear 10 = .ok (.return_, 1) := by decide +kernel
theorem dX0_raise_0 : decode cX0_raise 0 = .ok (.aload_n 0, 1) := by decide +kernel
theorem dX0_raise_1 : decode cX0_raise 1 = .ok (.dup, 1) := by decide +kernel
theorem dX0_raise_2 : decode cX0_raise 2 = .ok (.getfield 9, 3) := by decide +kernel
theorem dX0_raise_5 : decode cX0_raise 5 = .ok (.iload_n 1, 1) := by decide +kernel
theorem dX0_raise_6 : decode cX0_raise 6 = .ok (.ior, 1) := by decide +kernel
theorem dX0_raise_7 : decode cX0_raise 7 = .ok (.putfield 9, 3) := by decide +kernel
theorem dX0_raise_10 : decode cX0_raise 10 = .ok (.return_, 1) := by decide +kernel
theorem dX0_lower_0 : decode cX0_lower 0 = .ok (.aload_n 0, 1) := by decide +kernel
theorem dX0_lower_1 : decode cX0_lower 1 = .ok (.dup, 1) := by decide +kernel
theorem dX0_lower_2 : decode cX0_lower 2 = .ok (.getfield 9, 3) := by decide +kernel
theorem dX0_lower_5 : decode cX0_lower 5 = .ok (.iload_n 1, 1) := by decide +kernel
theorem dX0_lower_6 : decode cX0_lower 6 = .ok (.iconst (-1), 1) := by decide +kernel
theorem dX0_lower_7 : decode cX0_lower 7 = .ok (.ixor, 1) := by decide +kernel
theorem dX0_lower_8 : decode cX0_lower 8 = .ok (.iand, 1) := by decide +kernel
theorem dX0_lower_9 : decode cX0_lower 9 = .ok (.putfield 9, 3) := by decide +kernel
theorem dX0_lower_12 : decode cX0_lower 12 = .ok (.return_, 1) := by decide +kernel
theorem dX0_has_0 : decode cX0_has 0 = .ok (.aload_n 0, 1) := by decide +kernel
theorem dX0_has_1 : decode cX0_has 1 = .ok (.getfield 9, 3) := by decide +kernel
theorem dX0_has_4 : decode cX0_has 4 = .ok (.iload_n 1, 1) := by decide +kernel
theorem dX0_has_5 : decode cX0_has 5 = .ok (.iand, 1) := by decide +kernel
theorem dX0_has_6 : decode cX0_has 6 = .ok (.ifCond .eq 7, 3) := by decide +kernel
theorem dX0_has_9 : decode cX0_has 9 = .ok (.iconst 1, 1) := by decide +kernel
theorem dX0_has_10 : decode cX0_has 10 = .ok (.goto 4, 3) := by decide +kernel
theorem dX0_has_13 : decode cX0_has 13 = .ok (.iconst 0, 1) := by decide +kernel
theorem dX0_has_14 : decode cX0_has 14 = .ok (.ireturn, 1) := by decide +kernel
theorem dX0_enable_0 : decode cX0_enable 0 = .ok (.iload_n 1, 1) := by decide +kernel
theorem dX0_enable_1 : decode cX0_enable 1 = .ok (.sipush 128, 3) := by decide +kernel
theorem dX0_enable_4 : decode cX0_enable 4 = .ok (.iand, 1) := by decide +kernel
theorem dX0_enable_5 : decode cX0_enable 5 = .ok (.ifCond .eq 19, 3) := by decide +kernel
theorem dX0_enable_8 : decode cX0_enable 8 = .ok (.aload_n 0, 1) := by decide +kernel
theorem dX0_enable_9 : decode cX0_enable 9 = .ok (.dup, 1) := by decide +kernel
theorem dX0_enable_10 : decode cX0_enable 10 = .ok (.getfield 15, 3) := by decide +kernel
theorem dX0_enable_13 : decode cX0_enable 13 = .ok (.iload_n 1, 1) := by decide +kernel
theorem dX0_enable_14 : decode cX0_enable 14 = .ok (.bipush 127, 2) := by decide +kernel
theorem dX0_enable_16 : decode cX0_enable 16 = .ok (.iand, 1) := by decide +kernel
theorem dX0_enable_17 : decode cX0_enable 17 = .ok (.ior, 1) := by decide +kernel
theorem dX0_enable_18 : decode cX0_enable 18 = .ok (.putfield 15, 3) := by decide +kernel
theorem dX0_enable_21 : decode cX0_enable 21 = .ok (.goto 15, 3) := by decide +kernel
theorem dX0_enable_24 : decode cX0_enable 24 = .ok (.aload_n 0, 1) := by decide +kernel
theorem dX0_enable_25 : decode cX0_enable 25 = .ok (.dup, 1) := by decide +kernel
theorem dX0_enable_26 : decode cX0_enable 26 = .ok (.getfield 15, 3) := by decide +kernel
theorem dX0_enable_29 : decode cX0_enable 29 = .ok (.iload_n 1, 1) := by decide +kernel
theorem dX0_enable_30 : decode cX0_enable 30 = .ok (.iconst (-1), 1) := by decide +kernel
theorem dX0_enable_31 : decode cX0_enable 31 = .ok (.ixor, 1) := by decide +kernel
theorem dX0_enable_32 : decode cX0_enable 32 = .ok (.iand, 1) := by decide +kernel
theorem dX0_enable_33 : decode cX0_enable 33 = .ok (.putfield 15, 3) := by decide +kernel
theorem dX0_enable_36 : decode cX0_enable 36 = .ok (.return_, 1) := by decide +kernel
theorem dX0_call_0 : decode cX0_call 0 = .ok (.aload_n 0, 1) := by decide +kernel
theorem dX0_call_1 : decode cX0_call 1 = .ok (.getfield 9, 3) := by decide +kernel
theorem dX0_call_4 : decode cX0_call 4 = .ok (.aload_n 0, 1) := by decide +kernel
theorem dX0_call_5 : decode cX0_call 5 = .ok (.getfield 15, 3) := by decide +kernel
theorem dX0_call_8 : decode cX0_call 8 = .ok (.iand, 1) := by decide +kernel
theorem dX0_call_9 : decode cX0_call 9 = .ok (.ifCond .eq 7, 3) := by decide +kernel
theorem dX0_call_12 : decode cX0_call 12 = .ok (.iconst 1, 1) := by decide +kernel
theorem dX0_call_13 : decode cX0_call 13 = .ok (.goto 4, 3) := by decide +kernel
theorem dX0_call_16 : decode cX0_call 16 = .ok (.iconst 0, 1) := by decide +kernel
theorem dX0_call_17 : decode cX0_call 17 = .ok (.ireturn, 1) := by decide +kernel
set_option maxRecDepth 20000 in
theorem ggX0_withCall_X0_call : GoodIn wsX0_withCall wsX0_call := goodIn_r _ [6, 1, 7, 8, 9] (by decide +kernel) (by decide +kernel)
set_option maxRecDepth 20000 in
theorem gX0_withCall_X0_call : GoodIn wsX0_withCall (wsV RX0 18 RX0 yX0_call wsX0_call) := goodIn_app (goodIn_of _ (by decide +kernel)) ggX0_withCall_X0_call
theorem dX0_withCall_0 : decode cX0_withCall 0 = .ok (.aload_n 0, 1) := by decide +kernel
theorem dX0_withCall_1 : decode cX0_withCall 1 = .ok (.invokevirtual 18, 3) := by decide +kernel
theorem dX0_withCall_4 : decode cX0_withCall 4 = .ok (.ifCond .eq 14, 3) := by decide +kernel
theorem dX0_withCall_7 : decode cX0_withCall 7 = .ok (.aload_n 0, 1) := by decide +kernel
theorem dX0_withCall_8 : decode cX0_withCall 8 = .ok (.getfield 9, 3) := by decide +kernel
theorem dX0_withCall_11 : decode cX0_withCall 11 = .ok (.sipush 128, 3) := by decide +kernel
theorem dX0_withCall_14 : decode cX0_withCall 14 = .ok (.ior, 1) := by decide +kernel
theorem dX0_withCall_15 : decode cX0_withCall 15 = .ok (.goto 7, 3) := by decide +kernel
theorem dX0_withCall_18 : decode cX0_withCall 18 = .ok (.aload_n 0, 1) := by decide +kernel
theorem dX0_withCall_19 : decode cX0_withCall 19 = .ok (.getfield 9, 3) := by decide +kernel
theorem dX0_withCall_22 : decode cX0_withCall 22 = .ok (.ireturn, 1) := by decide +kernel
theorem dX1_init_0 : decode cX1_init 0 = .ok (.aload_n 0, 1) := by decide +kernel
theorem dX1_init_1 : decode cX1_init 1 = .ok (.invokespecial 3, 3) := by decide +kernel
theorem dX1_init_4 : decode cX1_init 4 = .ok (.aload_n 0, 1) := by decide +kernel
theorem dX1_init_5 : decode cX1_init 5 = .ok (.iconst 1, 1) := by decide +kernel
theorem dX1_init_6 : decode cX1_init 6 = .ok (.putfield 9, 3) := by decide +kernel
theorem dX1_init_9 : decode cX1_init 9 = .ok (.aload_n 0, 1) := by decide +kernel
theorem dX1_init_10 : decode cX1_init 10 = .ok (.aload_n 1, 1) := by decide +kernel
theorem dX1_init_11 : decode cX1_init 11 = .ok (.putfield 15, 3) := by decide +kernel
theorem dX1_init_14 : decode cX1_init 14 = .ok (.return_, 1) := by decide +kernel
theorem dX1_clear_0 : decode cX1_clear 0 = .ok (.aload_n 0, 1) := by decide +kernel
theorem dX1_clear_1 : decode cX1_clear 1 = .ok (.iconst 0, 1) := by decide +kernel
theorem dX1_clear_2 : decode cX1_clear 2 = .ok (.putfield 19, 3) := by decide +kernel
theorem dX1_clear_5 : decode cX1_clear 5 = .ok (.aload_n 0, 1) := by decide +kernel
theorem dX1_clear_6 : decode cX1_clear 6 = .ok (.iconst 0, 1) := by decide +kernel
theorem dX1_clear_7 : decode cX1_clear 7 = .ok (.putfield 22, 3) := by decide +kernel
theorem dX1_clear_10 : decode cX1_clear 10 = .ok (.aload_n 0, 1) := by decide +kernel
theorem dX1_clear_11 : decode cX1_clear 11 = .ok (.iconst 1, 1) := by decide +kernel
theorem dX1_clear_12 : decode cX1_clear 12 = .ok (.putfield 9, 3) := by decide +kernel
theorem dX1_clear_15 : decode cX1_clear 15 = .ok (.aload_n 0, 1) := by decide +kernel
theorem dX1_clear_16 : decode cX1_clear 16 = .ok (.iconst 0, 1) := by decide +kernel
theorem dX1_clear_17 : decode cX1_clear 17 = .ok (.putfield 25, 3) := by decide +kernel
theorem dX1_clear_20 : decode cX1_clear 20 = .ok (.return_, 1) := by decide +kernel
set_option maxRecDepth 20000 in
theorem ggX1_begin_X0_lower : GoodIn wsX1_begin wsX0_lower := goodIn_r _ [8, 9, 15, 16] (by decide +kernel) (by decide +kernel)
set_option maxRecDepth 20000 in
theorem gX1_begin_X0_lower : GoodIn wsX1_begin (wsV RX1 29 RX0 yX0_lower wsX0_lower) := goodIn_app (goodIn_of _ (by decide +kernel)) ggX1_begin_X0_lower
theorem dX1_begin_0 : decode cX1_begin 0 = .ok (.aload_n 0, 1) := by decide +kernel
theorem dX1_begin_1 : decode cX1_begin 1 = .ok (.getfield 15, 3) := by decide +kernel
theorem dX1_begin_4 : decode cX1_begin 4 = .ok (.iconst 4, 1) := by decide +kernel
theorem dX1_begin_5 : decode cX1_begin 5 = .ok (.invokevirtual 29, 3) := by decide +kernel
theorem dX1_begin_8 : decode cX1_begin 8 = .ok (.aload_n 0, 1) := by decide +kernel
theorem dX1_begin_9 : decode cX1_begin 9 = .ok (.bipush 8, 2) := by decide +kernel
theorem dX1_begin_11 : decode cX1_begin 11 = .ok (.putfield 22, 3) := by decide +kernel
theorem dX1_begin_14 : decode cX1_begin 14 = .ok (.aload_n 0, 1) := by decide +kernel
theorem dX1_begin_15 : decode cX1_begin 15 = .ok (.iconst 0, 1) := by decide +kernel
theorem dX1_begin_16 : decode cX1_begin 16 = .ok (.putfield 25, 3) := by decide +kernel
theorem dX1_begin_19 : decode cX1_begin 19 = .ok (.return_, 1) := by decide +kernel
set_option maxRecDepth 20000 in
theorem ggX1_goOn_X1_shift : GoodIn wsX1_goOn wsX1_shift := goodIn_r _ [7, 8, 9, 1, 10, 11, 12, 13, 14, 15, 16, 17, 18, 19, 20, 21, 22, 23] (by decide +kernel) (by decide +kernel)
set_option maxRecDepth 20000 in
theorem gX1_goOn_X1_shift : GoodIn wsX1_goOn (wsV RX1 35 RX1 yX1_shift wsX1_shift) := goodIn_app (goodIn_of _ (by decide +kernel)) ggX1_goOn_X1_shift
theorem dX1_goOn_0 : decode cX1_goOn 0 = .ok (.iload_n 2, 1) := by decide +kernel
theorem dX1_goOn_1 : decode cX1_goOn 1 = .ok (.iconst 2, 1) := by decide +kernel
theorem dX1_goOn_2 : decode cX1_goOn 2 = .ok (.if_icmp .eq 10, 3) := by decide +kernel
theorem dX1_goOn_5 : decode cX1_goOn 5 = .ok (.iload_n 2, 1) := by decide +kernel
theorem dX1_goOn_6 : decode cX1_goOn 6 = .ok (.bipush 6, 2) := by decide +kernel
theorem dX1_goOn_8 : decode cX1_goOn 8 = .ok (.if_icmp .eq 4, 3) := by decide +kernel
theorem dX1_goOn_11 : decode cX1_goOn 11 = .ok (.return_, 1) := by decide +kernel
theorem dX1_goOn_12 : decode cX1_goOn 12 = .ok (.iconst 0, 1) := by decide +kernel
theorem dX1_goOn_13 : decode cX1_goOn 13 = .ok (.istore 4, 2) := by decide +kernel
theorem dX1_goOn_15 : decode cX1_goOn 15 = .ok (.iload 4, 2) := by decide +kernel
theorem dX1_goOn_17 : decode cX1_goOn 17 = .ok (.iload_n 1, 1) := by decide +kernel
theorem dX1_goOn_18 : decode cX1_goOn 18 = .ok (.if_icmp .ge 45, 3) := by decide +kernel
theorem dX1_goOn_21 : decode cX1_goOn 21 = .ok (.aload_n 0, 1) := by decide +kernel
theorem dX1_goOn_22 : decode cX1_goOn 22 = .ok (.getfield 22, 3) := by decide +kernel
theorem dX1_goOn_25 : decode cX1_goOn 25 = .ok (.ifCond .le 38, 3) := by decide +kernel
theorem dX1_goOn_28 : decode cX1_goOn 28 = .ok (.aload_n 0, 1) := by decide +kernel
theorem dX1_goOn_29 : decode cX1_goOn 29 = .ok (.getfield 25, 3) := by decide +kernel
theorem dX1_goOn_32 : decode cX1_goOn 32 = .ok (.ifCond .eq 9, 3) := by decide +kernel
theorem dX1_goOn_35 : decode cX1_goOn 35 = .ok (.aload_n 0, 1) := by decide +kernel
theorem dX1_goOn_36 : decode cX1_goOn 36 = .ok (.iload_n 2, 1) := by decide +kernel
theorem dX1_goOn_37 : decode cX1_goOn 37 = .ok (.iload_n 3, 1) := by decide +kernel
theorem dX1_goOn_38 : decode cX1_goOn 38 = .ok (.invokevirtual 35, 3) := by decide +kernel
theorem dX1_goOn_41 : decode cX1_goOn 41 = .ok (.aload_n 0, 1) := by decide +kernel
theorem dX1_goOn_42 : decode cX1_goOn 42 = .ok (.aload_n 0, 1) := by decide +kernel
theorem dX1_goOn_43 : decode cX1_goOn 43 = .ok (.getfield 25, 3) := by decide +kernel
theorem dX1_goOn_46 : decode cX1_goOn 46 = .ok (.ifCond .ne 7, 3) := by decide +kernel
theorem dX1_goOn_49 : decode cX1_goOn 49 = .ok (.iconst 1, 1) := by decide +kernel
theorem dX1_goOn_50 : decode cX1_goOn 50 = .ok (.goto 4, 3) := by decide +kernel
theorem dX1_goOn_53 : decode cX1_goOn 53 = .ok (.iconst 0, 1) := by decide +kernel
theorem dX1_goOn_54 : decode cX1_goOn 54 = .ok (.putfield 25, 3) := by decide +kernel
theorem dX1_goOn_57 : decode cX1_goOn 57 = .ok (.iinc 4 1, 3) := by decide +kernel
theorem dX1_goOn_60 : decode cX1_goOn 60 = .ok (.goto (-45), 3) := by decide +kernel
theorem dX1_goOn_63 : decode cX1_goOn 63 = .ok (.return_, 1) := by decide +kernel
set_option maxRecDepth 20000 in
theorem ggX1_shift_X0_raise : GoodIn wsX1_shift wsX0_raise := goodIn_r _ [9, 10, 16, 17] (by decide +kernel) (by decide +kernel)
set_option maxRecDepth 20000 in
theorem gX1_shift_X0_raise : GoodIn wsX1_shift (wsV RX1 39 RX0 yX0_raise wsX0_raise) := goodIn_app (goodIn_of _ (by decide +kernel)) ggX1_shift_X0_raise
theorem dX1_shift_0 : decode cX1_shift 0 = .ok (.aload_n 0, 1) := by decide +kernel
theorem dX1_shift_1 : decode cX1_shift 1 = .ok (.getfield 19, 3) := by decide +kernel
theorem dX1_shift_4 : decode cX1_shift 4 = .ok (.bipush 7, 2) := by decide +kernel
theorem dX1_shift_6 : decode cX1_shift 6 = .ok (.ishr, 1) := by decide +kernel
theorem dX1_shift_7 : decode cX1_shift 7 = .ok (.istore_n 3, 1) := by decide +kernel
theorem dX1_shift_8 : decode cX1_shift 8 = .ok (.iload_n 2, 1) := by decide +kernel
theorem dX1_shift_9 : decode cX1_shift 9 = .ok (.ifCond .eq 7, 3) := by decide +kernel
theorem dX1_shift_12 : decode cX1_shift 12 = .ok (.iconst 1, 1) := by decide +kernel
theorem dX1_shift_13 : decode cX1_shift 13 = .ok (.goto 4, 3) := by decide +kernel
theorem dX1_shift_16 : decode cX1_shift 16 = .ok (.iconst 0, 1) := by decide +kernel
theorem dX1_shift_17 : decode cX1_shift 17 = .ok (.istore 4, 2) := by decide +kernel
theorem dX1_shift_19 : decode cX1_shift 19 = .ok (.iload_n 1, 1) := by decide +kernel
theorem dX1_shift_20 : decode cX1_shift 20 = .ok (.bipush 6, 2) := by decide +kernel
theorem dX1_shift_22 : decode cX1_shift 22 = .ok (.if_icmp .ne 11, 3) := by decide +kernel
theorem dX1_shift_25 : decode cX1_shift 25 = .ok (.aload_n 0, 1) := by decide +kernel
theorem dX1_shift_26 : decode cX1_shift 26 = .ok (.iload_n 3, 1) := by decide +kernel
theorem dX1_shift_27 : decode cX1_shift 27 = .ok (.putfield 9, 3) := by decide +kernel
theorem dX1_shift_30 : decode cX1_shift 30 = .ok (.iload_n 3, 1) := by decide +kernel
theorem dX1_shift_31 : decode cX1_shift 31 = .ok (.istore 4, 2) := by decide +kernel
theorem dX1_shift_33 : decode cX1_shift 33 = .ok (.aload_n 0, 1) := by decide +kernel
theorem dX1_shift_34 : decode cX1_shift 34 = .ok (.aload_n 0, 1) := by decide +kernel
theorem dX1_shift_35 : decode cX1_shift 35 = .ok (.getfield 19, 3) := by decide +kernel
theorem dX1_shift_38 : decode cX1_shift 38 = .ok (.iconst 1, 1) := by decide +kernel
theorem dX1_shift_39 : decode cX1_shift 39 = .ok (.ishl, 1) := by decide +kernel
theorem dX1_shift_40 : decode cX1_shift 40 = .ok (.sipush 255, 3) := by decide +kernel
theorem dX1_shift_43 : decode cX1_shift 43 = .ok (.iand, 1) := by decide +kernel
theorem dX1_shift_44 : decode cX1_shift 44 = .ok (.iload 4, 2) := by decide +kernel
theorem dX1_shift_46 : decode cX1_shift 46 = .ok (.ior, 1) := by decide +kernel
theorem dX1_shift_47 : decode cX1_shift 47 = .ok (.putfield 19, 3) := by decide +kernel
theorem dX1_shift_50 : decode cX1_shift 50 = .ok (.aload_n 0, 1) := by decide +kernel
theorem dX1_shift_51 : decode cX1_shift 51 = .ok (.dup, 1) := by decide +kernel
theorem dX1_shift_52 : decode cX1_shift 52 = .ok (.getfield 22, 3) := by decide +kernel
theorem dX1_shift_55 : decode cX1_shift 55 = .ok (.iconst 1, 1) := by decide +kernel
theorem dX1_shift_56 : decode cX1_shift 56 = .ok (.isub, 1) := by decide +kernel
theorem dX1_shift_57 : decode cX1_shift 57 = .ok (.putfield 22, 3) := by decide +kernel
theorem dX1_shift_60 : decode cX1_shift 60 = .ok (.aload_n 0, 1) := by decide +kernel
theorem dX1_shift_61 : decode cX1_shift 61 = .ok (.getfield 22, 3) := by decide +kernel
theorem dX1_shift_64 : decode cX1_shift 64 = .ok (.ifCond .ne 11, 3) := by decide +kernel
theorem dX1_shift_67 : decode cX1_shift 67 = .ok (.aload_n 0, 1) := by decide +kernel
theorem dX1_shift_68 : decode cX1_shift 68 = .ok (.getfield 15, 3) := by decide +kernel
theorem dX1_shift_71 : decode cX1_shift 71 = .ok (.iconst 4, 1) := by decide +kernel
theorem dX1_shift_72 : decode cX1_shift 72 = .ok (.invokevirtual 39, 3) := by decide +kernel
theorem dX1_shift_75 : decode cX1_shift 75 = .ok (.return_, 1) := by decide +kernel
theorem dX2_init_0 : decode cX2_init 0 = .ok (.aload_n 0, 1) := by decide +kernel
theorem dX2_init_1 : decode cX2_init 1 = .ok (.invokespecial 3, 3) := by decide +kernel
theorem dX2_init_4 : decode cX2_init 4 = .ok (.aload_n 0, 1) := by decide +kernel
theorem dX2_init_5 : decode cX2_init 5 = .ok (.aload_n 1, 1) := by decide +kernel
theorem dX2_init_6 : decode cX2_init 6 = .ok (.putfield 9, 3) := by decide +kernel
theorem dX2_init_9 : decode cX2_init 9 = .ok (.aload_n 0, 1) := by decide +kernel
theorem dX2_init_10 : decode cX2_init 10 = .ok (.iload_n 2, 1) := by decide +kernel
theorem dX2_init_11 : decode cX2_init 11 = .ok (.putfield 15, 3) := by decide +kernel
theorem dX2_init_14 : decode cX2_init 14 = .ok (.aload_n 0, 1) := by decide +kernel
theorem dX2_init_15 : decode cX2_init 15 = .ok (.iload_n 3, 1) := by decide +kernel
theorem dX2_init_16 : decode cX2_init 16 = .ok (.putfield 19, 3) := by decide +kernel
theorem dX2_init_19 : decode cX2_init 19 = .ok (.return_, 1) := by decide +kernel
theorem dX2_clear_0 : decode cX2_clear 0 = .ok (.aload_n 0, 1) := by decide +kernel
theorem dX2_clear_1 : decode cX2_clear 1 = .ok (.iconst 0, 1) := by decide +kernel
theorem dX2_clear_2 : decode cX2_clear 2 = .ok (.putfield 22, 3) := by decide +kernel
theorem dX2_clear_5 : decode cX2_clear 5 = .ok (.aload_n 0, 1) := by decide +kernel
theorem dX2_clear_6 : decode cX2_clear 6 = .ok (.iconst 0, 1) := by decide +kernel
theorem dX2_clear_7 : decode cX2_clear 7 = .ok (.putfield 25, 3) := by decide +kernel
theorem dX2_clear_10 : decode cX2_clear 10 = .ok (.aload_n 0, 1) := by decide +kernel
theorem dX2_clear_11 : decode cX2_clear 11 = .ok (.iconst 0, 1) := by decide +kernel
theorem dX2_clear_12 : decode cX2_clear 12 = .ok (.putfield 28, 3) := by decide +kernel
theorem dX2_clear_15 : decode cX2_clear 15 = .ok (.aload_n 0, 1) := by decide +kernel
theorem dX2_clear_16 : decode cX2_clear 16 = .ok (.iconst 0, 1) := by decide +kernel
theorem dX2_clear_17 : decode cX2_clear 17 = .ok (.putfield 31, 3) := by decide +kernel
theorem dX2_clear_20 : decode cX2_clear 20 = .ok (.aload_n 0, 1) := by decide +kernel
theorem dX2_clear_21 : decode cX2_clear 21 = .ok (.iconst 0, 1) := by decide +kernel
theorem dX2_clear_22 : decode cX2_clear 22 = .ok (.putfield 34, 3) := by decide +kernel
theorem dX2_clear_25 : decode cX2_clear 25 = .ok (.aload_n 0, 1) := by decide +kernel
theorem dX2_clear_26 : decode cX2_clear 26 = .ok (.iconst 0, 1) := by decide +kernel
theorem dX2_clear_27 : decode cX2_clear 27 = .ok (.putfield 38, 3) := by decide +kernel
theorem dX2_clear_30 : decode cX2_clear 30 = .ok (.return_, 1) := by decide +kernel
theorem dX2_wayOfLine2_0 : decode cX2_wayOfLine2 0 = .ok (.aload_n 0, 1) := by decide +kernel
theorem dX2_wayOfLine2_1 : decode cX2_wayOfLine2 1 = .ok (.getfield 28, 3) := by decide +kernel
theorem dX2_wayOfLine2_4 : decode cX2_wayOfLine2 4 = .ok (.iconst 1, 1) := by decide +kernel
theorem dX2_wayOfLine2_5 : decode cX2_wayOfLine2 5 = .ok (.ishr, 1) := by decide +kernel
theorem dX2_wayOfLine2_6 : decode cX2_wayOfLine2 6 = .ok (.ireturn, 1) := by decide +kernel
set_option maxRecDepth 20000 in
theorem ggX2_port_X0_has : GoodIn wsX2_port wsX0_has := goodIn_r _ [11, 12, 25, 26] (by decide +kernel) (by decide +kernel)
set_option maxRecDepth 20000 in
theorem gX2_port_X0_has : GoodIn wsX2_port (wsV RX2 41 RX0 yX0_has wsX0_has) := goodIn_app (goodIn_of _ (by decide +kernel)) ggX2_port_X0_has
theorem dX2_port_0 : decode cX2_port 0 = .ok (.iload_n 1, 1) := by decide +kernel
theorem dX2_port_1 : decode cX2_port 1 = .ok (.ifCond .eq 24, 3) := by decide +kernel
theorem dX2_port_4 : decode cX2_port 4 = .ok (.aload_n 0, 1) := by decide +kernel
theorem dX2_port_5 : decode cX2_port 5 = .ok (.getfield 9, 3) := by decide +kernel
theorem dX2_port_8 : decode cX2_port 8 = .ok (.aload_n 0, 1) := by decide +kernel
theorem dX2_port_9 : decode cX2_port 9 = .ok (.getfield 15, 3) := by decide +kernel
theorem dX2_port_12 : decode cX2_port 12 = .ok (.invokevirtual 41, 3) := by decide +kernel
theorem dX2_port_15 : decode cX2_port 15 = .ok (.ifCond .eq 10, 3) := by decide +kernel
theorem dX2_port_18 : decode cX2_port 18 = .ok (.aload_n 0, 1) := by decide +kernel
theorem dX2_port_19 : decode cX2_port 19 = .ok (.getfield 31, 3) := by decide +kernel
theorem dX2_port_22 : decode cX2_port 22 = .ok (.goto 7, 3) := by decide +kernel
theorem dX2_port_25 : decode cX2_port 25 = .ok (.aload_n 0, 1) := by decide +kernel
theorem dX2_port_26 : decode cX2_port 26 = .ok (.getfield 47, 3) := by decide +kernel
theorem dX2_port_29 : decode cX2_port 29 = .ok (.istore_n 2, 1) := by decide +kernel
theorem dX2_port_30 : decode cX2_port 30 = .ok (.aload_n 0, 1) := by decide +kernel
theorem dX2_port_31 : decode cX2_port 31 = .ok (.getfield 22, 3) := by decide +kernel
theorem dX2_port_34 : decode cX2_port 34 = .ok (.aload_n 0, 1) := by decide +kernel
theorem dX2_port_35 : decode cX2_port 35 = .ok (.getfield 25, 3) := by decide +kernel
theorem dX2_port_38 : decode cX2_port 38 = .ok (.iand, 1) := by decide +kernel
theorem dX2_port_39 : decode cX2_port 39 = .ok (.iload_n 2, 1) := by decide +kernel
theorem dX2_port_40 : decode cX2_port 40 = .ok (.aload_n 0, 1) := by decide +kernel
theorem dX2_port_41 : decode cX2_port 41 = .ok (.getfield 25, 3) := by decide +kernel
theorem dX2_port_44 : decode cX2_port 44 = .ok (.iconst (-1), 1) := by decide +kernel
theorem dX2_port_45 : decode cX2_port 45 = .ok (.ixor, 1) := by decide +kernel
theorem dX2_port_46 : decode cX2_port 46 = .ok (.iand, 1) := by decide +kernel
theorem dX2_port_47 : decode cX2_port 47 = .ok (.ior, 1) := by decide +kernel
theorem dX2_port_48 : decode cX2_port 48 = .ok (.ireturn, 1) := by decide +kernel
set_option maxRecDepth 20000 in
theorem ggX2_touch_X0_lower : GoodIn wsX2_touch wsX0_lower := goodIn_r _ [8, 9, 28, 29] (by decide +kernel) (by decide +kernel)
set_option maxRecDepth 20000 in
theorem gX2_touch_X0_lower : GoodIn wsX2_touch (wsV RX2 50 RX0 yX0_lower wsX0_lower) := goodIn_app (goodIn_of _ (by decide +kernel)) ggX2_touch_X0_lower
set_option maxRecDepth 20000 in
theorem ggX2_touch_X2_wayOfLine2 : GoodIn wsX2_touch wsX2_wayOfLine2 := goodIn_r _ [14, 15, 16, 17, 18, 19, 20, 21, 22, 23, 24, 25, 26, 27] (by decide +kernel) (by decide +kernel)
set_option maxRecDepth 20000 in
theorem gX2_touch_X2_wayOfLine2 : GoodIn wsX2_touch (wsV RX2 54 RX2 yX2_wayOfLine2 wsX2_wayOfLine2) := goodIn_app (goodIn_of _ (by decide +kernel)) ggX2_touch_X2_wayOfLine2
theorem dX2_touch_0 : decode cX2_touch 0 = .ok (.aload_n 0, 1) := by decide +kernel
theorem dX2_touch_1 : decode cX2_touch 1 = .ok (.getfield 9, 3) := by decide +kernel
theorem dX2_touch_4 : decode cX2_touch 4 = .ok (.aload_n 0, 1) := by decide +kernel
theorem dX2_touch_5 : decode cX2_touch 5 = .ok (.getfield 15, 3) := by decide +kernel
theorem dX2_touch_8 : decode cX2_touch 8 = .ok (.invokevirtual 50, 3) := by decide +kernel
theorem dX2_touch_11 : decode cX2_touch 11 = .ok (.aload_n 0, 1) := by decide +kernel
theorem dX2_touch_12 : decode cX2_touch 12 = .ok (.invokevirtual 54, 3) := by decide +kernel
theorem dX2_touch_15 : decode cX2_touch 15 = .ok (.istore_n 1, 1) := by decide +kernel
theorem dX2_touch_16 : decode cX2_touch 16 = .ok (.iload_n 1, 1) := by decide +kernel
theorem dX2_touch_17 : decode cX2_touch 17 = .ok (.iconst 1, 1) := by decide +kernel
theorem dX2_touch_18 : decode cX2_touch 18 = .ok (.if_icmp .eq 19, 3) := by decide +kernel
theorem dX2_touch_21 : decode cX2_touch 21 = .ok (.iload_n 1, 1) := by decide +kernel
theorem dX2_touch_22 : decode cX2_touch 22 = .ok (.iconst 3, 1) := by decide +kernel
theorem dX2_touch_23 : decode cX2_touch 23 = .ok (.if_icmp .eq 14, 3) := by decide +kernel
theorem dX2_touch_26 : decode cX2_touch 26 = .ok (.aload_n 0, 1) := by decide +kernel
theorem dX2_touch_27 : decode cX2_touch 27 = .ok (.getfield 9, 3) := by decide +kernel
theorem dX2_touch_30 : decode cX2_touch 30 = .ok (.aload_n 0, 1) := by decide +kernel
theorem dX2_touch_31 : decode cX2_touch 31 = .ok (.getfield 19, 3) := by decide +kernel
theorem dX2_touch_34 : decode cX2_touch 34 = .ok (.invokevirtual 50, 3) := by decide +kernel
theorem dX2_touch_37 : decode cX2_touch 37 = .ok (.return_, 1) := by decide +kernel
set_option maxRecDepth 20000 in
theorem ggX2_giveTouch_X2_wayOfLine2 : GoodIn wsX2_giveTouch wsX2_wayOfLine2 := goodIn_r _ [7, 8, 9, 10, 11, 12, 13, 14, 15, 16, 17, 18, 19, 20] (by decide +kernel) (by decide +kernel)
set_option maxRecDepth 20000 in
theorem gX2_giveTouch_X2_wayOfLine2 : GoodIn wsX2_giveTouch (wsV RX2 54 RX2 yX2_wayOfLine2 wsX2_wayOfLine2) := goodIn_app (goodIn_of _ (by decide +kernel)) ggX2_giveTouch_X2_wayOfLine2
theorem dX2_giveTouch_0 : decode cX2_giveTouch 0 = .ok (.aload_n 0, 1) := by decide +kernel
theorem dX2_giveTouch_1 : decode cX2_giveTouch 1 = .ok (.invokevirtual 54, 3) := by decide +kernel
theorem dX2_giveTouch_4 : decode cX2_giveTouch 4 = .ok (.istore_n 1, 1) := by decide +kernel
theorem dX2_giveTouch_5 : decode cX2_giveTouch 5 = .ok (.iload_n 1, 1) := by decide +kernel
theorem dX2_giveTouch_6 : decode cX2_giveTouch 6 = .ok (.iconst 4, 1) := by decide +kernel
theorem dX2_giveTouch_7 : decode cX2_giveTouch 7 = .ok (.if_icmp .ne 11, 3) := by decide +kernel
theorem dX2_giveTouch_10 : decode cX2_giveTouch 10 = .ok (.aload_n 0, 1) := by decide +kernel
theorem dX2_giveTouch_11 : decode cX2_giveTouch 11 = .ok (.iconst 1, 1) := by decide +kernel
theorem dX2_giveTouch_12 : decode cX2_giveTouch 12 = .ok (.putfield 34, 3) := by decide +kernel
theorem dX2_giveTouch_15 : decode cX2_giveTouch 15 = .ok (.goto 13, 3) := by decide +kernel
theorem dX2_giveTouch_18 : decode cX2_giveTouch 18 = .ok (.iload_n 1, 1) := by decide +kernel
theorem dX2_giveTouch_19 : decode cX2_giveTouch 19 = .ok (.iconst 5, 1) := by decide +kernel
theorem dX2_giveTouch_20 : decode cX2_giveTouch 20 = .ok (.if_icmp .ne 8, 3) := by decide +kernel
theorem dX2_giveTouch_23 : decode cX2_giveTouch 23 = .ok (.aload_n 0, 1) := by decide +kernel
theorem dX2_giveTouch_24 : decode cX2_giveTouch 24 = .ok (.iconst 1, 1) := by decide +kernel
theorem dX2_giveTouch_25 : decode cX2_giveTouch 25 = .ok (.putfield 38, 3) := by decide +kernel
theorem dX2_giveTouch_28 : decode cX2_giveTouch 28 = .ok (.return_, 1) := by decide +kernel
theorem dX2_endCycle_0 : decode cX2_endCycle 0 = .ok (.aload_n 0, 1) := by decide +kernel
theorem dX2_endCycle_1 : decode cX2_endCycle 1 = .ok (.iconst 0, 1) := by decide +kernel
theorem dX2_endCycle_2 : decode cX2_endCycle 2 = .ok (.putfield 38, 3) := by decide +kernel
theorem dX2_endCycle_5 : decode cX2_endCycle 5 = .ok (.return_, 1) := by decide +kernel
set_option maxRecDepth 20000 in
theorem ggX2_moveLine1_X0_raise : GoodIn wsX2_moveLine1 wsX0_raise := goodIn_r _ [12, 13, 26, 27] (by decide +kernel) (by decide +kernel)
set_option maxRecDepth 20000 in
theorem gX2_moveLine1_X0_raise : GoodIn wsX2_moveLine1 (wsV RX2 61 RX0 yX0_raise wsX0_raise) := goodIn_app (goodIn_of _ (by decide +kernel)) ggX2_moveLine1_X0_raise
theorem dX2_moveLine1_0 : decode cX2_moveLine1 0 = .ok (.aload_n 0, 1) := by decide +kernel
theorem dX2_moveLine1_1 : decode cX2_moveLine1 1 = .ok (.getfield 28, 3) := by decide +kernel
theorem dX2_moveLine1_4 : decode cX2_moveLine1 4 = .ok (.iconst 1, 1) := by decide +kernel
theorem dX2_moveLine1_5 : decode cX2_moveLine1 5 = .ok (.iand, 1) := by decide +kernel
theorem dX2_moveLine1_6 : decode cX2_moveLine1 6 = .ok (.ifCond .eq 7, 3) := by decide +kernel
theorem dX2_moveLine1_9 : decode cX2_moveLine1 9 = .ok (.iconst 1, 1) := by decide +kernel
theorem dX2_moveLine1_10 : decode cX2_moveLine1 10 = .ok (.goto 4, 3) := by decide +kernel
theorem dX2_moveLine1_13 : decode cX2_moveLine1 13 = .ok (.iconst 0, 1) := by decide +kernel
theorem dX2_moveLine1_14 : decode cX2_moveLine1 14 = .ok (.istore_n 2, 1) := by decide +kernel
theorem dX2_moveLine1_15 : decode cX2_moveLine1 15 = .ok (.iload_n 1, 1) := by decide +kernel
theorem dX2_moveLine1_16 : decode cX2_moveLine1 16 = .ok (.aload_n 0, 1) := by decide +kernel
theorem dX2_moveLine1_17 : decode cX2_moveLine1 17 = .ok (.getfield 58, 3) := by decide +kernel
theorem dX2_moveLine1_20 : decode cX2_moveLine1 20 = .ok (.if_icmp .eq 12, 3) := by decide +kernel
theorem dX2_moveLine1_23 : decode cX2_moveLine1 23 = .ok (.iload_n 1, 1) := by decide +kernel
theorem dX2_moveLine1_24 : decode cX2_moveLine1 24 = .ok (.iload_n 2, 1) := by decide +kernel
theorem dX2_moveLine1_25 : decode cX2_moveLine1 25 = .ok (.if_icmp .ne 7, 3) := by decide +kernel
theorem dX2_moveLine1_28 : decode cX2_moveLine1 28 = .ok (.iconst 1, 1) := by decide +kernel
theorem dX2_moveLine1_29 : decode cX2_moveLine1 29 = .ok (.goto 4, 3) := by decide +kernel
theorem dX2_moveLine1_32 : decode cX2_moveLine1 32 = .ok (.iconst 0, 1) := by decide +kernel
theorem dX2_moveLine1_33 : decode cX2_moveLine1 33 = .ok (.istore_n 3, 1) := by decide +kernel
theorem dX2_moveLine1_34 : decode cX2_moveLine1 34 = .ok (.aload_n 0, 1) := by decide +kernel
theorem dX2_moveLine1_35 : decode cX2_moveLine1 35 = .ok (.iload_n 1, 1) := by decide +kernel
theorem dX2_moveLine1_36 : decode cX2_moveLine1 36 = .ok (.putfield 58, 3) := by decide +kernel
theorem dX2_moveLine1_39 : decode cX2_moveLine1 39 = .ok (.iload_n 3, 1) := by decide +kernel
theorem dX2_moveLine1_40 : decode cX2_moveLine1 40 = .ok (.ifCond .eq 27, 3) := by decide +kernel
theorem dX2_moveLine1_43 : decode cX2_moveLine1 43 = .ok (.aload_n 0, 1) := by decide +kernel
theorem dX2_moveLine1_44 : decode cX2_moveLine1 44 = .ok (.getfield 9, 3) := by decide +kernel
theorem dX2_moveLine1_47 : decode cX2_moveLine1 47 = .ok (.aload_n 0, 1) := by decide +kernel
theorem dX2_moveLine1_48 : decode cX2_moveLine1 48 = .ok (.getfield 15, 3) := by decide +kernel
theorem dX2_moveLine1_51 : decode cX2_moveLine1 51 = .ok (.invokevirtual 61, 3) := by decide +kernel
theorem dX2_moveLine1_54 : decode cX2_moveLine1 54 = .ok (.aload_n 0, 1) := by decide +kernel
theorem dX2_moveLine1_55 : decode cX2_moveLine1 55 = .ok (.aload_n 0, 1) := by decide +kernel
theorem dX2_moveLine1_56 : decode cX2_moveLine1 56 = .ok (.getfield 47, 3) := by decide +kernel
theorem dX2_moveLine1_59 : decode cX2_moveLine1 59 = .ok (.putfield 31, 3) := by decide +kernel
theorem dX2_moveLine1_62 : decode cX2_moveLine1 62 = .ok (.aload_n 0, 1) := by decide +kernel
theorem dX2_moveLine1_63 : decode cX2_moveLine1 63 = .ok (.iconst 0, 1) := by decide +kernel
theorem dX2_moveLine1_64 : decode cX2_moveLine1 64 = .ok (.putfield 34, 3) := by decide +kernel
theorem dX2_moveLine1_67 : decode cX2_moveLine1 67 = .ok (.iload_n 3, 1) := by decide +kernel
theorem dX2_moveLine1_68 : decode cX2_moveLine1 68 = .ok (.ireturn, 1) := by decide +kernel
set_option maxRecDepth 20000 in
theorem ggX2_moveLine2_X2_wayOfLine2 : GoodIn wsX2_moveLine2 wsX2_wayOfLine2 := goodIn_r _ [8, 9, 16, 17, 18, 19, 20, 21, 22, 23, 24, 25, 26, 27] (by decide +kernel) (by decide +kernel)
set_option maxRecDepth 20000 in
theorem gX2_moveLine2_X2_wayOfLine2 : GoodIn wsX2_moveLine2 (wsV RX2 54 RX2 yX2_wayOfLine2 wsX2_wayOfLine2) := goodIn_app (goodIn_of _ (by decide +kernel)) ggX2_moveLine2_X2_wayOfLine2
set_option maxRecDepth 20000 in
theorem ggX2_moveLine2_X0_raise : GoodIn wsX2_moveLine2 wsX0_raise := goodIn_r _ [14, 15, 28, 29] (by decide +kernel) (by decide +kernel)
set_option maxRecDepth 20000 in
theorem gX2_moveLine2_X0_raise : GoodIn wsX2_moveLine2 (wsV RX2 61 RX0 yX0_raise wsX0_raise) := goodIn_app (goodIn_of _ (by decide +kernel)) ggX2_moveLine2_X0_raise
theorem dX2_moveLine2_0 : decode cX2_moveLine2 0 = .ok (.aload_n 0, 1) := by decide +kernel
theorem dX2_moveLine2_1 : decode cX2_moveLine2 1 = .ok (.invokevirtual 54, 3) := by decide +kernel
theorem dX2_moveLine2_4 : decode cX2_moveLine2 4 = .ok (.istore_n 2, 1) := by decide +kernel
theorem dX2_moveLine2_5 : decode cX2_moveLine2 5 = .ok (.iload_n 2, 1) := by decide +kernel
theorem dX2_moveLine2_6 : decode cX2_moveLine2 6 = .ok (.iconst 2, 1) := by decide +kernel
theorem dX2_moveLine2_7 : decode cX2_moveLine2 7 = .ok (.if_icmp .lt 7, 3) := by decide +kernel
theorem dX2_moveLine2_10 : decode cX2_moveLine2 10 = .ok (.iconst 1, 1) := by decide +kernel
theorem dX2_moveLine2_11 : decode cX2_moveLine2 11 = .ok (.goto 4, 3) := by decide +kernel
theorem dX2_moveLine2_14 : decode cX2_moveLine2 14 = .ok (.iconst 0, 1) := by decide +kernel
theorem dX2_moveLine2_15 : decode cX2_moveLine2 15 = .ok (.istore_n 3, 1) := by decide +kernel
theorem dX2_moveLine2_16 : decode cX2_moveLine2 16 = .ok (.iload_n 2, 1) := by decide +kernel
theorem dX2_moveLine2_17 : decode cX2_moveLine2 17 = .ok (.iconst 4, 1) := by decide +kernel
theorem dX2_moveLine2_18 : decode cX2_moveLine2 18 = .ok (.if_icmp .ge 20, 3) := by decide +kernel
theorem dX2_moveLine2_21 : decode cX2_moveLine2 21 = .ok (.iload_n 1, 1) := by decide +kernel
theorem dX2_moveLine2_22 : decode cX2_moveLine2 22 = .ok (.aload_n 0, 1) := by decide +kernel
theorem dX2_moveLine2_23 : decode cX2_moveLine2 23 = .ok (.getfield 64, 3) := by decide +kernel
theorem dX2_moveLine2_26 : decode cX2_moveLine2 26 = .ok (.if_icmp .eq 12, 3) := by decide +kernel
theorem dX2_moveLine2_29 : decode cX2_moveLine2 29 = .ok (.iload_n 1, 1) := by decide +kernel
theorem dX2_moveLine2_30 : decode cX2_moveLine2 30 = .ok (.iload_n 3, 1) := by decide +kernel
theorem dX2_moveLine2_31 : decode cX2_moveLine2 31 = .ok (.if_icmp .ne 7, 3) := by decide +kernel
theorem dX2_moveLine2_34 : decode cX2_moveLine2 34 = .ok (.iconst 1, 1) := by decide +kernel
theorem dX2_moveLine2_35 : decode cX2_moveLine2 35 = .ok (.goto 4, 3) := by decide +kernel
theorem dX2_moveLine2_38 : decode cX2_moveLine2 38 = .ok (.iconst 0, 1) := by decide +kernel
theorem dX2_moveLine2_39 : decode cX2_moveLine2 39 = .ok (.istore 4, 2) := by decide +kernel
theorem dX2_moveLine2_41 : decode cX2_moveLine2 41 = .ok (.aload_n 0, 1) := by decide +kernel
theorem dX2_moveLine2_42 : decode cX2_moveLine2 42 = .ok (.iload_n 1, 1) := by decide +kernel
theorem dX2_moveLine2_43 : decode cX2_moveLine2 43 = .ok (.putfield 64, 3) := by decide +kernel
theorem dX2_moveLine2_46 : decode cX2_moveLine2 46 = .ok (.iload 4, 2) := by decide +kernel
theorem dX2_moveLine2_48 : decode cX2_moveLine2 48 = .ok (.ifCond .eq 14, 3) := by decide +kernel
theorem dX2_moveLine2_51 : decode cX2_moveLine2 51 = .ok (.aload_n 0, 1) := by decide +kernel
theorem dX2_moveLine2_52 : decode cX2_moveLine2 52 = .ok (.getfield 9, 3) := by decide +kernel
theorem dX2_moveLine2_55 : decode cX2_moveLine2 55 = .ok (.aload_n 0, 1) := by decide +kernel
theorem dX2_moveLine2_56 : decode cX2_moveLine2 56 = .ok (.getfield 19, 3) := by decide +kernel
theorem dX2_moveLine2_59 : decode cX2_moveLine2 59 = .ok (.invokevirtual 61, 3) := by decide +kernel
theorem dX2_moveLine2_62 : decode cX2_moveLine2 62 = .ok (.iload 4, 2) := by decide +kernel
theorem dX2_moveLine2_64 : decode cX2_moveLine2 64 = .ok (.ireturn, 1) := by decide +kernel
set_option maxRecDepth 20000 in
theorem ggX2_line2Gives_X2_wayOfLine2 : GoodIn wsX2_line2Gives wsX2_wayOfLine2 := goodIn_r _ [7, 8, 9, 10, 11, 12, 13, 14, 15, 16, 17, 18, 19, 20] (by decide +kernel) (by decide +kernel)
set_option maxRecDepth 20000 in
theorem gX2_line2Gives_X2_wayOfLine2 : GoodIn wsX2_line2Gives (wsV RX2 54 RX2 yX2_wayOfLine2 wsX2_wayOfLine2) := goodIn_app (goodIn_of _ (by decide +kernel)) ggX2_line2Gives_X2_wayOfLine2
theorem dX2_line2Gives_0 : decode cX2_line2Gives 0 = .ok (.aload_n 0, 1) := by decide +kernel
theorem dX2_line2Gives_1 : decode cX2_line2Gives 1 = .ok (.invokevirtual 54, 3) := by decide +kernel
theorem dX2_line2Gives_4 : decode cX2_line2Gives 4 = .ok (.istore_n 1, 1) := by decide +kernel
theorem dX2_line2Gives_5 : decode cX2_line2Gives 5 = .ok (.iload_n 1, 1) := by decide +kernel
theorem dX2_line2Gives_6 : decode cX2_line2Gives 6 = .ok (.iconst 4, 1) := by decide +kernel
theorem dX2_line2Gives_7 : decode cX2_line2Gives 7 = .ok (.if_icmp .ge 5, 3) := by decide +kernel
theorem dX2_line2Gives_10 : decode cX2_line2Gives 10 = .ok (.iconst 2, 1) := by decide +kernel
theorem dX2_line2Gives_11 : decode cX2_line2Gives 11 = .ok (.ireturn, 1) := by decide +kernel
theorem dX2_line2Gives_12 : decode cX2_line2Gives 12 = .ok (.iload_n 1, 1) := by decide +kernel
theorem dX2_line2Gives_13 : decode cX2_line2Gives 13 = .ok (.iconst 4, 1) := by decide +kernel
theorem dX2_line2Gives_14 : decode cX2_line2Gives 14 = .ok (.if_icmp .ne 10, 3) := by decide +kernel
theorem dX2_line2Gives_17 : decode cX2_line2Gives 17 = .ok (.aload_n 0, 1) := by decide +kernel
theorem dX2_line2Gives_18 : decode cX2_line2Gives 18 = .ok (.getfield 34, 3) := by decide +kernel
theorem dX2_line2Gives_21 : decode cX2_line2Gives 21 = .ok (.ifCond .ne 21, 3) := by decide +kernel
theorem dX2_line2Gives_24 : decode cX2_line2Gives 24 = .ok (.iload_n 1, 1) := by decide +kernel
theorem dX2_line2Gives_25 : decode cX2_line2Gives 25 = .ok (.iconst 5, 1) := by decide +kernel
theorem dX2_line2Gives_26 : decode cX2_line2Gives 26 = .ok (.if_icmp .ne 10, 3) := by decide +kernel
theorem dX2_line2Gives_29 : decode cX2_line2Gives 29 = .ok (.aload_n 0, 1) := by decide +kernel
theorem dX2_line2Gives_30 : decode cX2_line2Gives 30 = .ok (.getfield 38, 3) := by decide +kernel
theorem dX2_line2Gives_33 : decode cX2_line2Gives 33 = .ok (.ifCond .ne 9, 3) := by decide +kernel
theorem dX2_line2Gives_36 : decode cX2_line2Gives 36 = .ok (.iload_n 1, 1) := by decide +kernel
theorem dX2_line2Gives_37 : decode cX2_line2Gives 37 = .ok (.bipush 6, 2) := by decide +kernel
theorem dX2_line2Gives_39 : decode cX2_line2Gives 39 = .ok (.if_icmp .ne 7, 3) := by decide +kernel
theorem dX2_line2Gives_42 : decode cX2_line2Gives 42 = .ok (.iconst 1, 1) := by decide +kernel
theorem dX2_line2Gives_43 : decode cX2_line2Gives 43 = .ok (.goto 4, 3) := by decide +kernel
theorem dX2_line2Gives_46 : decode cX2_line2Gives 46 = .ok (.iconst 0, 1) := by decide +kernel
theorem dX2_line2Gives_47 : decode cX2_line2Gives 47 = .ok (.istore_n 2, 1) := by decide +kernel
theorem dX2_line2Gives_48 : decode cX2_line2Gives 48 = .ok (.iload_n 2, 1) := by decide +kernel
theorem dX2_line2Gives_49 : decode cX2_line2Gives 49 = .ok (.ifCond .eq 7, 3) := by decide +kernel
theorem dX2_line2Gives_52 : decode cX2_line2Gives 52 = .ok (.iconst 0, 1) := by decide +kernel
theorem dX2_line2Gives_53 : decode cX2_line2Gives 53 = .ok (.goto 4, 3) := by decide +kernel
theorem dX2_line2Gives_56 : decode cX2_line2Gives 56 = .ok (.iconst 1, 1) := by decide +kernel
theorem dX2_line2Gives_57 : decode cX2_line2Gives 57 = .ok (.ireturn, 1) := by decide +kernel
theorem dX3_init_0 : decode cX3_init 0 = .ok (.aload_n 0, 1) := by decide +kernel
theorem dX3_init_1 : decode cX3_init 1 = .ok (.invokespecial 3, 3) := by decide +kernel
theorem dX3_init_4 : decode cX3_init 4 = .ok (.aload_n 0, 1) := by decide +kernel
theorem dX3_init_5 : decode cX3_init 5 = .ok (.iconst 1, 1) := by decide +kernel
theorem dX3_init_6 : decode cX3_init 6 = .ok (.putfield 9, 3) := by decide +kernel
theorem dX3_init_9 : decode cX3_init 9 = .ok (.aload_n 0, 1) := by decide +kernel
theorem dX3_init_10 : decode cX3_init 10 = .ok (.aload_n 1, 1) := by decide +kernel
theorem dX3_init_11 : decode cX3_init 11 = .ok (.putfield 15, 3) := by decide +kernel
theorem dX3_init_14 : decode cX3_init 14 = .ok (.return_, 1) := by decide +kernel
theorem dX3_clear_0 : decode cX3_clear 0 = .ok (.aload_n 0, 1) := by decide +kernel
theorem dX3_clear_1 : decode cX3_clear 1 = .ok (.iconst 0, 1) := by decide +kernel
theorem dX3_clear_2 : decode cX3_clear 2 = .ok (.putfield 19, 3) := by decide +kernel
theorem dX3_clear_5 : decode cX3_clear 5 = .ok (.aload_n 0, 1) := by decide +kernel
theorem dX3_clear_6 : decode cX3_clear 6 = .ok (.iconst 0, 1) := by decide +kernel
theorem dX3_clear_7 : decode cX3_clear 7 = .ok (.putfield 22, 3) := by decide +kernel
theorem dX3_clear_10 : decode cX3_clear 10 = .ok (.aload_n 0, 1) := by decide +kernel
theorem dX3_clear_11 : decode cX3_clear 11 = .ok (.iconst 1, 1) := by decide +kernel
theorem dX3_clear_12 : decode cX3_clear 12 = .ok (.putfield 9, 3) := by decide +kernel
theorem dX3_clear_15 : decode cX3_clear 15 = .ok (.aload_n 0, 1) := by decide +kernel
theorem dX3_clear_16 : decode cX3_clear 16 = .ok (.iconst 0, 1) := by decide +kernel
theorem dX3_clear_17 : decode cX3_clear 17 = .ok (.putfield 25, 3) := by decide +kernel
theorem dX3_clear_20 : decode cX3_clear 20 = .ok (.aload_n 0, 1) := by decide +kernel
theorem dX3_clear_21 : decode cX3_clear 21 = .ok (.iconst 0, 1) := by decide +kernel
theorem dX3_clear_22 : decode cX3_clear 22 = .ok (.putfield 29, 3) := by decide +kernel
theorem dX3_clear_25 : decode cX3_clear 25 = .ok (.return_, 1) := by decide +kernel
theorem dX3_latchLow_0 : decode cX3_latchLow 0 = .ok (.aload_n 0, 1) := by decide +kernel
theorem dX3_latchLow_1 : decode cX3_latchLow 1 = .ok (.aload_n 0, 1) := by decide +kernel
theorem dX3_latchLow_2 : decode cX3_latchLow 2 = .ok (.getfield 22, 3) := by decide +kernel
theorem dX3_latchLow_5 : decode cX3_latchLow 5 = .ok (.sipush (-256), 3) := by decide +kernel
theorem dX3_latchLow_8 : decode cX3_latchLow 8 = .ok (.iand, 1) := by decide +kernel
theorem dX3_latchLow_9 : decode cX3_latchLow 9 = .ok (.iload_n 1, 1) := by decide +kernel
theorem dX3_latchLow_10 : decode cX3_latchLow 10 = .ok (.ior, 1) := by decide +kernel
theorem dX3_latchLow_11 : decode cX3_latchLow 11 = .ok (.putfield 22, 3) := by decide +kernel
theorem dX3_latchLow_14 : decode cX3_latchLow 14 = .ok (.return_, 1) := by decide +kernel
set_option maxRecDepth 20000 in
theorem ggX3_latchHigh_X0_lower : GoodIn wsX3_latchHigh wsX0_lower := goodIn_r _ [7, 8, 15, 16] (by decide +kernel) (by decide +kernel)
set_option maxRecDepth 20000 in
theorem gX3_latchHigh_X0_lower : GoodIn wsX3_latchHigh (wsV RX3 32 RX0 yX0_lower wsX0_lower) := goodIn_app (goodIn_of _ (by decide +kernel)) ggX3_latchHigh_X0_lower
theorem dX3_latchHigh_0 : decode cX3_latchHigh 0 = .ok (.aload_n 0, 1) := by decide +kernel
theorem dX3_latchHigh_1 : decode cX3_latchHigh 1 = .ok (.iload_n 1, 1) := by decide +kernel
theorem dX3_latchHigh_2 : decode cX3_latchHigh 2 = .ok (.bipush 8, 2) := by decide +kernel
theorem dX3_latchHigh_4 : decode cX3_latchHigh 4 = .ok (.ishl, 1) := by decide +kernel
theorem dX3_latchHigh_5 : decode cX3_latchHigh 5 = .ok (.aload_n 0, 1) := by decide +kernel
theorem dX3_latchHigh_6 : decode cX3_latchHigh 6 = .ok (.getfield 22, 3) := by decide +kernel
theorem dX3_latchHigh_9 : decode cX3_latchHigh 9 = .ok (.sipush 255, 3) := by decide +kernel
theorem dX3_latchHigh_12 : decode cX3_latchHigh 12 = .ok (.iand, 1) := by decide +kernel
theorem dX3_latchHigh_13 : decode cX3_latchHigh 13 = .ok (.ior, 1) := by decide +kernel
theorem dX3_latchHigh_14 : decode cX3_latchHigh 14 = .ok (.putfield 22, 3) := by decide +kernel
theorem dX3_latchHigh_17 : decode cX3_latchHigh 17 = .ok (.aload_n 0, 1) := by decide +kernel
theorem dX3_latchHigh_18 : decode cX3_latchHigh 18 = .ok (.getfield 15, 3) := by decide +kernel
theorem dX3_latchHigh_21 : decode cX3_latchHigh 21 = .ok (.bipush 64, 2) := by decide +kernel
theorem dX3_latchHigh_23 : decode cX3_latchHigh 23 = .ok (.invokevirtual 32, 3) := by decide +kernel
theorem dX3_latchHigh_26 : decode cX3_latchHigh 26 = .ok (.return_, 1) := by decide +kernel
theorem dX3_start_0 : decode cX3_start 0 = .ok (.aload_n 0, 1) := by decide +kernel
theorem dX3_start_1 : decode cX3_start 1 = .ok (.aload_n 0, 1) := by decide +kernel
theorem dX3_start_2 : decode cX3_start 2 = .ok (.getfield 22, 3) := by decide +kernel
theorem dX3_start_5 : decode cX3_start 5 = .ok (.putfield 19, 3) := by decide +kernel
theorem dX3_start_8 : decode cX3_start 8 = .ok (.aload_n 0, 1) := by decide +kernel
theorem dX3_start_9 : decode cX3_start 9 = .ok (.iconst 1, 1) := by decide +kernel
theorem dX3_start_10 : decode cX3_start 10 = .ok (.putfield 25, 3) := by decide +kernel
theorem dX3_start_13 : decode cX3_start 13 = .ok (.aload_n 0, 1) := by decide +kernel
theorem dX3_start_14 : decode cX3_start 14 = .ok (.iconst 0, 1) := by decide +kernel
theorem dX3_start_15 : decode cX3_start 15 = .ok (.putfield 9, 3) := by decide +kernel
theorem dX3_start_18 : decode cX3_start 18 = .ok (.aload_n 0, 1) := by decide +kernel
theorem dX3_start_19 : decode cX3_start 19 = .ok (.iconst 0, 1) := by decide +kernel
theorem dX3_start_20 : decode cX3_start 20 = .ok (.putfield 29, 3) := by decide +kernel
theorem dX3_start_23 : decode cX3_start 23 = .ok (.return_, 1) := by decide +kernel
set_option maxRecDepth 20000 in
theorem ggX3_goOn_X3_runFreely : GoodIn wsX3_goOn wsX3_runFreely := goodIn_r _ [5, 6, 7, 8, 9, 10, 11, 4, 12, 13, 14, 15, 16, 17, 18, 19, 20, 21, 27, 28, 29, 30, 31, 32, 33, 34] (by decide +kernel) (by decide +kernel)
set_option maxRecDepth 20000 in
theorem gX3_goOn_X3_runFreely : GoodIn wsX3_goOn (wsV RX3 38 RX3 yX3_runFreely wsX3_runFreely) := goodIn_app (goodIn_of _ (by decide +kernel)) ggX3_goOn_X3_runFreely
set_option maxRecDepth 20000 in
theorem ggX3_goOn_X3_runOnce : GoodIn wsX3_goOn wsX3_runOnce := goodIn_r _ [25, 6, 8, 26, 13, 14, 15, 16, 17, 18, 19, 20, 21, 27, 28, 29, 30, 31, 32, 33, 34] (by decide +kernel) (by decide +kernel)
set_option maxRecDepth 20000 in
theorem gX3_goOn_X3_runOnce : GoodIn wsX3_goOn (wsV RX3 41 RX3 yX3_runOnce wsX3_runOnce) := goodIn_app (goodIn_of _ (by decide +kernel)) ggX3_goOn_X3_runOnce
theorem dX3_goOn_0 : decode cX3_goOn 0 = .ok (.iload_n 2, 1) := by decide +kernel
theorem dX3_goOn_1 : decode cX3_goOn 1 = .ok (.ifCond .eq 11, 3) := by decide +kernel
theorem dX3_goOn_4 : decode cX3_goOn 4 = .ok (.aload_n 0, 1) := by decide +kernel
theorem dX3_goOn_5 : decode cX3_goOn 5 = .ok (.iload_n 1, 1) := by decide +kernel
theorem dX3_goOn_6 : decode cX3_goOn 6 = .ok (.invokevirtual 38, 3) := by decide +kernel
theorem dX3_goOn_9 : decode cX3_goOn 9 = .ok (.goto 8, 3) := by decide +kernel
theorem dX3_goOn_12 : decode cX3_goOn 12 = .ok (.aload_n 0, 1) := by decide +kernel
theorem dX3_goOn_13 : decode cX3_goOn 13 = .ok (.iload_n 1, 1) := by decide +kernel
theorem dX3_goOn_14 : decode cX3_goOn 14 = .ok (.invokevirtual 41, 3) := by decide +kernel
theorem dX3_goOn_17 : decode cX3_goOn 17 = .ok (.return_, 1) := by decide +kernel
set_option maxRecDepth 20000 in
theorem ggX3_runOnce_X0_raise : GoodIn wsX3_runOnce wsX0_raise := goodIn_r _ [11, 12, 19, 20] (by decide +kernel) (by decide +kernel)
set_option maxRecDepth 20000 in
theorem gX3_runOnce_X0_raise : GoodIn wsX3_runOnce (wsV RX3 44 RX0 yX0_raise wsX0_raise) := goodIn_app (goodIn_of _ (by decide +kernel)) ggX3_runOnce_X0_raise
theorem dX3_runOnce_0 : decode cX3_runOnce 0 = .ok (.aload_n 0, 1) := by decide +kernel
theorem dX3_runOnce_1 : decode cX3_runOnce 1 = .ok (.iconst 0, 1) := by decide +kernel
theorem dX3_runOnce_2 : decode cX3_runOnce 2 = .ok (.putfield 29, 3) := by decide +kernel
theorem dX3_runOnce_5 : decode cX3_runOnce 5 = .ok (.iload_n 1, 1) := by decide +kernel
theorem dX3_runOnce_6 : decode cX3_runOnce 6 = .ok (.aload_n 0, 1) := by decide +kernel
theorem dX3_runOnce_7 : decode cX3_runOnce 7 = .ok (.getfield 19, 3) := by decide +kernel
theorem dX3_runOnce_10 : decode cX3_runOnce 10 = .ok (.if_icmp .le 29, 3) := by decide +kernel
theorem dX3_runOnce_13 : decode cX3_runOnce 13 = .ok (.aload_n 0, 1) := by decide +kernel
theorem dX3_runOnce_14 : decode cX3_runOnce 14 = .ok (.getfield 25, 3) := by decide +kernel
theorem dX3_runOnce_17 : decode cX3_runOnce 17 = .ok (.ifCond .eq 22, 3) := by decide +kernel
theorem dX3_runOnce_20 : decode cX3_runOnce 20 = .ok (.aload_n 0, 1) := by decide +kernel
theorem dX3_runOnce_21 : decode cX3_runOnce 21 = .ok (.getfield 15, 3) := by decide +kernel
theorem dX3_runOnce_24 : decode cX3_runOnce 24 = .ok (.bipush 64, 2) := by decide +kernel
theorem dX3_runOnce_26 : decode cX3_runOnce 26 = .ok (.invokevirtual 44, 3) := by decide +kernel
theorem dX3_runOnce_29 : decode cX3_runOnce 29 = .ok (.aload_n 0, 1) := by decide +kernel
theorem dX3_runOnce_30 : decode cX3_runOnce 30 = .ok (.iconst 1, 1) := by decide +kernel
theorem dX3_runOnce_31 : decode cX3_runOnce 31 = .ok (.putfield 9, 3) := by decide +kernel
theorem dX3_runOnce_34 : decode cX3_runOnce 34 = .ok (.aload_n 0, 1) := by decide +kernel
theorem dX3_runOnce_35 : decode cX3_runOnce 35 = .ok (.iconst 0, 1) := by decide +kernel
theorem dX3_runOnce_36 : decode cX3_runOnce 36 = .ok (.putfield 25, 3) := by decide +kernel
theorem dX3_runOnce_39 : decode cX3_runOnce 39 = .ok (.aload_n 0, 1) := by decide +kernel
theorem dX3_runOnce_40 : decode cX3_runOnce 40 = .ok (.aload_n 0, 1) := by decide +kernel
theorem dX3_runOnce_41 : decode cX3_runOnce 41 = .ok (.getfield 19, 3) := by decide +kernel
theorem dX3_runOnce_44 : decode cX3_runOnce 44 = .ok (.iload_n 1, 1) := by decide +kernel
theorem dX3_runOnce_45 : decode cX3_runOnce 45 = .ok (.isub, 1) := by decide +kernel
theorem dX3_runOnce_46 : decode cX3_runOnce 46 = .ok (.ldc 47, 2) := by decide +kernel
theorem dX3_runOnce_48 : decode cX3_runOnce 48 = .ok (.iand, 1) := by decide +kernel
theorem dX3_runOnce_49 : decode cX3_runOnce 49 = .ok (.putfield 19, 3) := by decide +kernel
theorem dX3_runOnce_52 : decode cX3_runOnce 52 = .ok (.return_, 1) := by decide +kernel
set_option maxRecDepth 20000 in
theorem ggX3_runFreely_X3_runOut : GoodIn wsX3_runFreely wsX3_runOut := goodIn_r _ [8, 2, 9, 10, 1, 11, 3, 12, 13, 14, 15, 16, 17, 18, 19, 20, 21, 22, 23, 24, 25] (by decide +kernel) (by decide +kernel)
set_option maxRecDepth 20000 in
theorem gX3_runFreely_X3_runOut : GoodIn wsX3_runFreely (wsV RX3 48 RX3 yX3_runOut wsX3_runOut) := goodIn_app (goodIn_of _ (by decide +kernel)) ggX3_runFreely_X3_runOut
theorem dX3_runFreely_0 : decode cX3_runFreely 0 = .ok (.iload_n 1, 1) := by decide +kernel
theorem dX3_runFreely_1 : decode cX3_runFreely 1 = .ok (.istore_n 2, 1) := by decide +kernel
theorem dX3_runFreely_2 : decode cX3_runFreely 2 = .ok (.aload_n 0, 1) := by decide +kernel
theorem dX3_runFreely_3 : decode cX3_runFreely 3 = .ok (.getfield 29, 3) := by decide +kernel
theorem dX3_runFreely_6 : decode cX3_runFreely 6 = .ok (.ifCond .eq 19, 3) := by decide +kernel
theorem dX3_runFreely_9 : decode cX3_runFreely 9 = .ok (.aload_n 0, 1) := by decide +kernel
theorem dX3_runFreely_10 : decode cX3_runFreely 10 = .ok (.aload_n 0, 1) := by decide +kernel
theorem dX3_runFreely_11 : decode cX3_runFreely 11 = .ok (.getfield 22, 3) := by decide +kernel
theorem dX3_runFreely_14 : decode cX3_runFreely 14 = .ok (.putfield 19, 3) := by decide +kernel
theorem dX3_runFreely_17 : decode cX3_runFreely 17 = .ok (.aload_n 0, 1) := by decide +kernel
theorem dX3_runFreely_18 : decode cX3_runFreely 18 = .ok (.iconst 0, 1) := by decide +kernel
theorem dX3_runFreely_19 : decode cX3_runFreely 19 = .ok (.putfield 29, 3) := by decide +kernel
theorem dX3_runFreely_22 : decode cX3_runFreely 22 = .ok (.iinc 2 (-1), 3) := by decide +kernel
theorem dX3_runFreely_25 : decode cX3_runFreely 25 = .ok (.iload_n 2, 1) := by decide +kernel
theorem dX3_runFreely_26 : decode cX3_runFreely 26 = .ok (.aload_n 0, 1) := by decide +kernel
theorem dX3_runFreely_27 : decode cX3_runFreely 27 = .ok (.getfield 19, 3) := by decide +kernel
theorem dX3_runFreely_30 : decode cX3_runFreely 30 = .ok (.if_icmp .le 18, 3) := by decide +kernel
theorem dX3_runFreely_33 : decode cX3_runFreely 33 = .ok (.aload_n 0, 1) := by decide +kernel
theorem dX3_runFreely_34 : decode cX3_runFreely 34 = .ok (.iload_n 2, 1) := by decide +kernel
theorem dX3_runFreely_35 : decode cX3_runFreely 35 = .ok (.aload_n 0, 1) := by decide +kernel
theorem dX3_runFreely_36 : decode cX3_runFreely 36 = .ok (.getfield 19, 3) := by decide +kernel
theorem dX3_runFreely_39 : decode cX3_runFreely 39 = .ok (.isub, 1) := by decide +kernel
theorem dX3_runFreely_40 : decode cX3_runFreely 40 = .ok (.iconst 1, 1) := by decide +kernel
theorem dX3_runFreely_41 : decode cX3_runFreely 41 = .ok (.isub, 1) := by decide +kernel
theorem dX3_runFreely_42 : decode cX3_runFreely 42 = .ok (.invokevirtual 48, 3) := by decide +kernel
theorem dX3_runFreely_45 : decode cX3_runFreely 45 = .ok (.goto 13, 3) := by decide +kernel
theorem dX3_runFreely_48 : decode cX3_runFreely 48 = .ok (.aload_n 0, 1) := by decide +kernel
theorem dX3_runFreely_49 : decode cX3_runFreely 49 = .ok (.dup, 1) := by decide +kernel
theorem dX3_runFreely_50 : decode cX3_runFreely 50 = .ok (.getfield 19, 3) := by decide +kernel
theorem dX3_runFreely_53 : decode cX3_runFreely 53 = .ok (.iload_n 2, 1) := by decide +kernel
theorem dX3_runFreely_54 : decode cX3_runFreely 54 = .ok (.isub, 1) := by decide +kernel
theorem dX3_runFreely_55 : decode cX3_runFreely 55 = .ok (.putfield 19, 3) := by decide +kernel
theorem dX3_runFreely_58 : decode cX3_runFreely 58 = .ok (.return_, 1) := by decide +kernel
set_option maxRecDepth 20000 in
theorem ggX3_runOut_X0_raise : GoodIn wsX3_runOut wsX0_raise := goodIn_r _ [11, 12, 19, 20] (by decide +kernel) (by decide +kernel)
set_option maxRecDepth 20000 in
theorem gX3_runOut_X0_raise : GoodIn wsX3_runOut (wsV RX3 44 RX0 yX0_raise wsX0_raise) := goodIn_app (goodIn_of _ (by decide +kernel)) ggX3_runOut_X0_raise
theorem dX3_runOut_0 : decode cX3_runOut 0 = .ok (.aload_n 0, 1) := by decide +kernel
theorem dX3_runOut_1 : decode cX3_runOut 1 = .ok (.getfield 22, 3) := by decide +kernel
theorem dX3_runOut_4 : decode cX3_runOut 4 = .ok (.iconst 2, 1) := by decide +kernel
theorem dX3_runOut_5 : decode cX3_runOut 5 = .ok (.iadd, 1) := by decide +kernel
theorem dX3_runOut_6 : decode cX3_runOut 6 = .ok (.istore_n 2, 1) := by decide +kernel
theorem dX3_runOut_7 : decode cX3_runOut 7 = .ok (.iconst 1, 1) := by decide +kernel
theorem dX3_runOut_8 : decode cX3_runOut 8 = .ok (.iload_n 1, 1) := by decide +kernel
theorem dX3_runOut_9 : decode cX3_runOut 9 = .ok (.iload_n 2, 1) := by decide +kernel
theorem dX3_runOut_10 : decode cX3_runOut 10 = .ok (.idiv, 1) := by decide +kernel
theorem dX3_runOut_11 : decode cX3_runOut 11 = .ok (.iadd, 1) := by decide +kernel
theorem dX3_runOut_12 : decode cX3_runOut 12 = .ok (.istore_n 3, 1) := by decide +kernel
theorem dX3_runOut_13 : decode cX3_runOut 13 = .ok (.iload_n 1, 1) := by decide +kernel
theorem dX3_runOut_14 : decode cX3_runOut 14 = .ok (.iload_n 2, 1) := by decide +kernel
theorem dX3_runOut_15 : decode cX3_runOut 15 = .ok (.irem, 1) := by decide +kernel
theorem dX3_runOut_16 : decode cX3_runOut 16 = .ok (.istore 4, 2) := by decide +kernel
theorem dX3_runOut_18 : decode cX3_runOut 18 = .ok (.aload_n 0, 1) := by decide +kernel
theorem dX3_runOut_19 : decode cX3_runOut 19 = .ok (.getfield 15, 3) := by decide +kernel
theorem dX3_runOut_22 : decode cX3_runOut 22 = .ok (.bipush 64, 2) := by decide +kernel
theorem dX3_runOut_24 : decode cX3_runOut 24 = .ok (.invokevirtual 44, 3) := by decide +kernel
theorem dX3_runOut_27 : decode cX3_runOut 27 = .ok (.aload_n 0, 1) := by decide +kernel
theorem dX3_runOut_28 : decode cX3_runOut 28 = .ok (.dup, 1) := by decide +kernel
theorem dX3_runOut_29 : decode cX3_runOut 29 = .ok (.getfield 9, 3) := by decide +kernel
theorem dX3_runOut_32 : decode cX3_runOut 32 = .ok (.iload_n 3, 1) := by decide +kernel
theorem dX3_runOut_33 : decode cX3_runOut 33 = .ok (.iconst 1, 1) := by decide +kernel
theorem dX3_runOut_34 : decode cX3_runOut 34 = .ok (.iand, 1) := by decide +kernel
theorem dX3_runOut_35 : decode cX3_runOut 35 = .ok (.ixor, 1) := by decide +kernel
theorem dX3_runOut_36 : decode cX3_runOut 36 = .ok (.putfield 9, 3) := by decide +kernel
theorem dX3_runOut_39 : decode cX3_runOut 39 = .ok (.aload_n 0, 1) := by decide +kernel
theorem dX3_runOut_40 : decode cX3_runOut 40 = .ok (.iload 4, 2) := by decide +kernel
theorem dX3_runOut_42 : decode cX3_runOut 42 = .ok (.ifCond .ne 7, 3) := by decide +kernel
theorem dX3_runOut_45 : decode cX3_runOut 45 = .ok (.iconst 1, 1) := by decide +kernel
theorem dX3_runOut_46 : decode cX3_runOut 46 = .ok (.goto 4, 3) := by decide +kernel
theorem dX3_runOut_49 : decode cX3_runOut 49 = .ok (.iconst 0, 1) := by decide +kernel
theorem dX3_runOut_50 : decode cX3_runOut 50 = .ok (.putfield 29, 3) := by decide +kernel
theorem dX3_runOut_53 : decode cX3_runOut 53 = .ok (.aload_n 0, 1) := by decide +kernel
theorem dX3_runOut_54 : decode cX3_runOut 54 = .ok (.aload_n 0, 1) := by decide +kernel
theorem dX3_runOut_55 : decode cX3_runOut 55 = .ok (.getfield 29, 3) := by decide +kernel
theorem dX3_runOut_58 : decode cX3_runOut 58 = .ok (.ifCond .eq 8, 3) := by decide +kernel
theorem dX3_runOut_61 : decode cX3_runOut 61 = .ok (.ldc 47, 2) := by decide +kernel
theorem dX3_runOut_63 : decode cX3_runOut 63 = .ok (.goto 12, 3) := by decide +kernel
theorem dX3_runOut_66 : decode cX3_runOut 66 = .ok (.aload_n 0, 1) := by decide +kernel
theorem dX3_runOut_67 : decode cX3_runOut 67 = .ok (.getfield 22, 3) := by decide +kernel
theorem dX3_runOut_70 : decode cX3_runOut 70 = .ok (.iconst 1, 1) := by decide +kernel
theorem dX3_runOut_71 : decode cX3_runOut 71 = .ok (.iadd, 1) := by decide +kernel
theorem dX3_runOut_72 : decode cX3_runOut 72 = .ok (.iload 4, 2) := by decide +kernel
theorem dX3_runOut_74 : decode cX3_runOut 74 = .ok (.isub, 1) := by decide +kernel
theorem dX3_runOut_75 : decode cX3_runOut 75 = .ok (.putfield 19, 3) := by decide +kernel
theorem dX3_runOut_78 : decode cX3_runOut 78 = .ok (.return_, 1) := by decide +kernel
theorem dX4_init_0 : decode cX4_init 0 = .ok (.aload_n 0, 1) := by decide +kernel
theorem dX4_init_1 : decode cX4_init 1 = .ok (.invokespecial 3, 3) := by decide +kernel
theorem dX4_init_4 : decode cX4_init 4 = .ok (.aload_n 0, 1) := by decide +kernel
theorem dX4_init_5 : decode cX4_init 5 = .ok (.aload_n 1, 1) := by decide +kernel
theorem dX4_init_6 : decode cX4_init 6 = .ok (.putfield 9, 3) := by decide +kernel
theorem dX4_init_9 : decode cX4_init 9 = .ok (.return_, 1) := by decide +kernel
theorem dX4_clear_0 : decode cX4_clear 0 = .ok (.aload_n 0, 1) := by decide +kernel
theorem dX4_clear_1 : decode cX4_clear 1 = .ok (.iconst 0, 1) := by decide +kernel
theorem dX4_clear_2 : decode cX4_clear 2 = .ok (.putfield 15, 3) := by decide +kernel
theorem dX4_clear_5 : decode cX4_clear 5 = .ok (.aload_n 0, 1) := by decide +kernel
theorem dX4_clear_6 : decode cX4_clear 6 = .ok (.iconst 0, 1) := by decide +kernel
theorem dX4_clear_7 : decode cX4_clear 7 = .ok (.putfield 19, 3) := by decide +kernel
theorem dX4_clear_10 : decode cX4_clear 10 = .ok (.aload_n 0, 1) := by decide +kernel
theorem dX4_clear_11 : decode cX4_clear 11 = .ok (.iconst 0, 1) := by decide +kernel
theorem dX4_clear_12 : decode cX4_clear 12 = .ok (.putfield 22, 3) := by decide +kernel
theorem dX4_clear_15 : decode cX4_clear 15 = .ok (.return_, 1) := by decide +kernel
set_option maxRecDepth 20000 in
theorem ggX4_start_X0_lower : GoodIn wsX4_start wsX0_lower := goodIn_r _ [9, 10, 15, 16] (by decide +kernel) (by decide +kernel)
set_option maxRecDepth 20000 in
theorem gX4_start_X0_lower : GoodIn wsX4_start (wsV RX4 26 RX0 yX0_lower wsX0_lower) := goodIn_app (goodIn_of _ (by decide +kernel)) ggX4_start_X0_lower
theorem dX4_start_0 : decode cX4_start 0 = .ok (.aload_n 0, 1) := by decide +kernel
theorem dX4_start_1 : decode cX4_start 1 = .ok (.iload_n 1, 1) := by decide +kernel
theorem dX4_start_2 : decode cX4_start 2 = .ok (.bipush 8, 2) := by decide +kernel
theorem dX4_start_4 : decode cX4_start 4 = .ok (.ishl, 1) := by decide +kernel
theorem dX4_start_5 : decode cX4_start 5 = .ok (.aload_n 0, 1) := by decide +kernel
theorem dX4_start_6 : decode cX4_start 6 = .ok (.getfield 19, 3) := by decide +kernel
theorem dX4_start_9 : decode cX4_start 9 = .ok (.ior, 1) := by decide +kernel
theorem dX4_start_10 : decode cX4_start 10 = .ok (.putfield 15, 3) := by decide +kernel
theorem dX4_start_13 : decode cX4_start 13 = .ok (.aload_n 0, 1) := by decide +kernel
theorem dX4_start_14 : decode cX4_start 14 = .ok (.iconst 1, 1) := by decide +kernel
theorem dX4_start_15 : decode cX4_start 15 = .ok (.putfield 22, 3) := by decide +kernel
theorem dX4_start_18 : decode cX4_start 18 = .ok (.aload_n 0, 1) := by decide +kernel
theorem dX4_start_19 : decode cX4_start 19 = .ok (.getfield 9, 3) := by decide +kernel
theorem dX4_start_22 : decode cX4_start 22 = .ok (.bipush 32, 2) := by decide +kernel
theorem dX4_start_24 : decode cX4_start 24 = .ok (.invokevirtual 26, 3) := by decide +kernel
theorem dX4_start_27 : decode cX4_start 27 = .ok (.return_, 1) := by decide +kernel
set_option maxRecDepth 20000 in
theorem ggX4_countDown_X0_raise : GoodIn wsX4_countDown wsX0_raise := goodIn_r _ [9, 10, 15, 16] (by decide +kernel) (by decide +kernel)
set_option maxRecDepth 20000 in
theorem gX4_countDown_X0_raise : GoodIn wsX4_countDown (wsV RX4 32 RX0 yX0_raise wsX0_raise) := goodIn_app (goodIn_of _ (by decide +kernel)) ggX4_countDown_X0_raise
theorem dX4_countDown_0 : decode cX4_countDown 0 = .ok (.iload_n 1, 1) := by decide +kernel
theorem dX4_countDown_1 : decode cX4_countDown 1 = .ok (.aload_n 0, 1) := by decide +kernel
theorem dX4_countDown_2 : decode cX4_countDown 2 = .ok (.getfield 15, 3) := by decide +kernel
theorem dX4_countDown_5 : decode cX4_countDown 5 = .ok (.if_icmp .le 24, 3) := by decide +kernel
theorem dX4_countDown_8 : decode cX4_countDown 8 = .ok (.aload_n 0, 1) := by decide +kernel
theorem dX4_countDown_9 : decode cX4_countDown 9 = .ok (.getfield 22, 3) := by decide +kernel
theorem dX4_countDown_12 : decode cX4_countDown 12 = .ok (.ifCond .eq 17, 3) := by decide +kernel
theorem dX4_countDown_15 : decode cX4_countDown 15 = .ok (.aload_n 0, 1) := by decide +kernel
theorem dX4_countDown_16 : decode cX4_countDown 16 = .ok (.getfield 9, 3) := by decide +kernel
theorem dX4_countDown_19 : decode cX4_countDown 19 = .ok (.bipush 32, 2) := by decide +kernel
theorem dX4_countDown_21 : decode cX4_countDown 21 = .ok (.invokevirtual 32, 3) := by decide +kernel
theorem dX4_countDown_24 : decode cX4_countDown 24 = .ok (.aload_n 0, 1) := by decide +kernel
theorem dX4_countDown_25 : decode cX4_countDown 25 = .ok (.iconst 0, 1) := by decide +kernel
theorem dX4_countDown_26 : decode cX4_countDown 26 = .ok (.putfield 22, 3) := by decide +kernel
theorem dX4_countDown_29 : decode cX4_countDown 29 = .ok (.aload_n 0, 1) := by decide +kernel
theorem dX4_countDown_30 : decode cX4_countDown 30 = .ok (.aload_n 0, 1) := by decide +kernel
theorem dX4_countDown_31 : decode cX4_countDown 31 = .ok (.getfield 15, 3) := by decide +kernel
theorem dX4_countDown_34 : decode cX4_countDown 34 = .ok (.iload_n 1, 1) := by decide +kernel
theorem dX4_countDown_35 : decode cX4_countDown 35 = .ok (.isub, 1) := by decide +kernel
theorem dX4_countDown_36 : decode cX4_countDown 36 = .ok (.ldc 35, 2) := by decide +kernel
theorem dX4_countDown_38 : decode cX4_countDown 38 = .ok (.iand, 1) := by decide +kernel
theorem dX4_countDown_39 : decode cX4_countDown 39 = .ok (.putfield 15, 3) := by decide +kernel
theorem dX4_countDown_42 : decode cX4_countDown 42 = .ok (.return_, 1) := by decide +kernel
end
section
set_option maxRecDepth 20000 in
theorem ggX5_init_X0_init : GoodIn wsX5_init wsX0_init := goodIn_r _ [26, 27, 2, 3] (by decide +kernel) (by decide +kernel)
set_option maxRecDepth 20000 in
theorem gX5_init_X0_init_n9 : GoodIn wsX5_init (wsX0_init) := ggX5_init_X0_init
set_option maxRecDepth 20000 in
theorem ggX5_init_X2_init : GoodIn wsX5_init wsX2_init := goodIn_r _ [30, 31, 2, 3, 32, 33, 34, 62, 63, 64, 65, 66, 67, 68, 69, 70, 71, 72, 73] (by decide +kernel) (by decide +kernel)
set_option maxRecDepth 20000 in
theorem gX5_init_X2_init : GoodIn wsX5_init (wsX2_init) := ggX5_init_X2_init
set_option maxRecDepth 20000 in
theorem ggX5_init_X3_init : GoodIn wsX5_init wsX3_init := goodIn_r _ [37, 38, 2, 3, 39, 40, 74, 75, 76, 77, 78, 79] (by decide +kernel) (by decide +kernel)
set_option maxRecDepth 20000 in
theorem gX5_init_X3_init : GoodIn wsX5_init (wsX3_init) := ggX5_init_X3_init
set_option maxRecDepth 20000 in
theorem ggX5_init_X4_init : GoodIn wsX5_init wsX4_init := goodIn_r _ [43, 44, 2, 3, 45, 80, 81, 82, 83] (by decide +kernel) (by decide +kernel)
set_option maxRecDepth 20000 in
theorem gX5_init_X4_init : GoodIn wsX5_init (wsX4_init) := ggX5_init_X4_init
set_option maxRecDepth 20000 in
theorem ggX5_init_X1_init : GoodIn wsX5_init wsX1_init := goodIn_r _ [48, 49, 2, 3, 50, 51, 84, 85, 86, 87, 88] (by decide +kernel) (by decide +kernel)
set_option maxRecDepth 20000 in
theorem gX5_init_X1_init : GoodIn wsX5_init (wsX1_init) := ggX5_init_X1_init
theorem dX5_init_0 : decode cX5_init 0 = .ok (.aload_n 0, 1) := by decide +kernel
theorem dX5_init_1 : decode cX5_init 1 = .ok (.invokespecial 1, 3) := by decide +kernel
theorem dX5_init_4 : decode cX5_init 4 = .ok (.aload_n 0, 1) := by decide +kernel
theorem dX5_init_5 : decode cX5_init 5 = .ok (.new 7, 3) := by decide +kernel
theorem dX5_init_8 : decode cX5_init 8 = .ok (.dup, 1) := by decide +kernel
theorem dX5_init_9 : decode cX5_init 9 = .ok (.invokespecial 9, 3) := by decide +kernel
theorem dX5_init_12 : decode cX5_init 12 = .ok (.putfield 10, 3) := by decide +kernel
theorem dX5_init_15 : decode cX5_init 15 = .ok (.aload_n 0, 1) := by decide +kernel
theorem dX5_init_16 : decode cX5_init 16 = .ok (.new 16, 3) := by decide +kernel
theorem dX5_init_19 : decode cX5_init 19 = .ok (.dup, 1) := by decide +kernel
theorem dX5_init_20 : decode cX5_init 20 = .ok (.aload_n 0, 1) := by decide +kernel
theorem dX5_init_21 : decode cX5_init 21 = .ok (.getfield 10, 3) := by decide +kernel
theorem dX5_init_24 : decode cX5_init 24 = .ok (.iconst 2, 1) := by decide +kernel
theorem dX5_init_25 : decode cX5_init 25 = .ok (.iconst 1, 1) := by decide +kernel
theorem dX5_init_26 : decode cX5_init 26 = .ok (.invokespecial 18, 3) := by decide +kernel
theorem dX5_init_29 : decode cX5_init 29 = .ok (.putfield 21, 3) := by decide +kernel
theorem dX5_init_32 : decode cX5_init 32 = .ok (.aload_n 0, 1) := by decide +kernel
theorem dX5_init_33 : decode cX5_init 33 = .ok (.new 16, 3) := by decide +kernel
theorem dX5_init_36 : decode cX5_init 36 = .ok (.dup, 1) := by decide +kernel
theorem dX5_init_37 : decode cX5_init 37 = .ok (.aload_n 0, 1) := by decide +kernel
theorem dX5_init_38 : decode cX5_init 38 = .ok (.getfield 10, 3) := by decide +kernel
theorem dX5_init_41 : decode cX5_init 41 = .ok (.bipush 16, 2) := by decide +kernel
theorem dX5_init_43 : decode cX5_init 43 = .ok (.bipush 8, 2) := by decide +kernel
theorem dX5_init_45 : decode cX5_init 45 = .ok (.invokespecial 18, 3) := by decide +kernel
theorem dX5_init_48 : decode cX5_init 48 = .ok (.putfield 25, 3) := by decide +kernel
theorem dX5_init_51 : decode cX5_init 51 = .ok (.aload_n 0, 1) := by decide +kernel
theorem dX5_init_52 : decode cX5_init 52 = .ok (.new 28, 3) := by decide +kernel
theorem dX5_init_55 : decode cX5_init 55 = .ok (.dup, 1) := by decide +kernel
theorem dX5_init_56 : decode cX5_init 56 = .ok (.aload_n 0, 1) := by decide +kernel
theorem dX5_init_57 : decode cX5_init 57 = .ok (.getfield 10, 3) := by decide +kernel
theorem dX5_init_60 : decode cX5_init 60 = .ok (.invokespecial 30, 3) := by decide +kernel
theorem dX5_init_63 : decode cX5_init 63 = .ok (.putfield 33, 3) := by decide +kernel
theorem dX5_init_66 : decode cX5_init 66 = .ok (.aload_n 0, 1) := by decide +kernel
theorem dX5_init_67 : decode cX5_init 67 = .ok (.new 37, 3) := by decide +kernel
theorem dX5_init_70 : decode cX5_init 70 = .ok (.dup, 1) := by decide +kernel
theorem dX5_init_71 : decode cX5_init 71 = .ok (.aload_n 0, 1) := by decide +kernel
theorem dX5_init_72 : decode cX5_init 72 = .ok (.getfield 10, 3) := by decide +kernel
theorem dX5_init_75 : decode cX5_init 75 = .ok (.invokespecial 39, 3) := by decide +kernel
theorem dX5_init_78 : decode cX5_init 78 = .ok (.putfield 40, 3) := by decide +kernel
theorem dX5_init_81 : decode cX5_init 81 = .ok (.aload_n 0, 1) := by decide +kernel
theorem dX5_init_82 : decode cX5_init 82 = .ok (.new 44, 3) := by decide +kernel
theorem dX5_init_85 : decode cX5_init 85 = .ok (.dup, 1) := by decide +kernel
theorem dX5_init_86 : decode cX5_init 86 = .ok (.aload_n 0, 1) := by decide +kernel
theorem dX5_init_87 : decode cX5_init 87 = .ok (.getfield 10, 3) := by decide +kernel
theorem dX5_init_90 : decode cX5_init 90 = .ok (.invokespecial 46, 3) := by decide +kernel
theorem dX5_init_93 : decode cX5_init 93 = .ok (.putfield 47, 3) := by decide +kernel
theorem dX5_init_96 : decode cX5_init 96 = .ok (.return_, 1) := by decide +kernel
set_option maxRecDepth 20000 in
theorem ggX5_write_X5_isByte : GoodIn wsX5_write wsX5_isByte := goodIn_r _ [13] (by decide +kernel) (by decide +kernel)
set_option maxRecDepth 20000 in
theorem gX5_write_X5_isByte : GoodIn wsX5_write (va_wsS RX5 51 yX5_isByte wsX5_isByte) := goodIn_app (goodIn_of _ (by decide +kernel)) ggX5_write_X5_isByte
set_option maxRecDepth 20000 in
theorem ggX5_write_X2_touch : GoodIn wsX5_write wsX2_touch := goodIn_r _ [18, 19, 20, 21, 22, 23, 24, 25, 26, 27, 28, 29, 30, 17, 31, 32, 92, 93, 94, 95, 96, 97, 98, 99, 100, 101, 102, 103, 113, 114] (by decide +kernel) (by decide +kernel)
set_option maxRecDepth 20000 in
theorem gX5_write_X2_touch : GoodIn wsX5_write (wsV RX5 66 RX2 yX2_touch wsX2_touch) := goodIn_app (goodIn_of _ (by decide +kernel)) ggX5_write_X2_touch
set_option maxRecDepth 20000 in
theorem ggX5_write_X2_giveTouch : GoodIn wsX5_write wsX2_giveTouch := goodIn_r _ [36, 37, 38, 28, 29, 30, 17, 31, 32, 92, 93, 94, 95, 96, 97, 98, 99, 100, 101, 102, 103] (by decide +kernel) (by decide +kernel)
set_option maxRecDepth 20000 in
theorem gX5_write_X2_giveTouch : GoodIn wsX5_write (wsV RX5 69 RX2 yX2_giveTouch wsX2_giveTouch) := goodIn_app (goodIn_of _ (by decide +kernel)) ggX5_write_X2_giveTouch
set_option maxRecDepth 20000 in
theorem ggX5_write_X3_latchLow : GoodIn wsX5_write wsX3_latchLow := goodIn_r _ [43, 44, 115, 116, 117, 118, 119, 120] (by decide +kernel) (by decide +kernel)
set_option maxRecDepth 20000 in
theorem gX5_write_X3_latchLow : GoodIn wsX5_write (wsV RX5 75 RX3 yX3_latchLow wsX3_latchLow) := goodIn_app (goodIn_of _ (by decide +kernel)) ggX5_write_X3_latchLow
set_option maxRecDepth 20000 in
theorem ggX5_write_X3_latchHigh : GoodIn wsX5_write wsX3_latchHigh := goodIn_r _ [48, 44, 49, 50, 23, 24, 25, 26, 27, 115, 116, 117, 118, 119, 120, 113, 114] (by decide +kernel) (by decide +kernel)
set_option maxRecDepth 20000 in
theorem gX5_write_X3_latchHigh : GoodIn wsX5_write (wsV RX5 79 RX3 yX3_latchHigh wsX3_latchHigh) := goodIn_app (goodIn_of _ (by decide +kernel)) ggX5_write_X3_latchHigh
set_option maxRecDepth 20000 in
theorem ggX5_write_X3_start : GoodIn wsX5_write wsX3_start := goodIn_r _ [54, 44, 55, 56, 57, 58, 115, 116, 117, 118, 119, 120] (by decide +kernel) (by decide +kernel)
set_option maxRecDepth 20000 in
theorem gX5_write_X3_start : GoodIn wsX5_write (wsV RX5 82 RX3 yX3_start wsX3_start) := goodIn_app (goodIn_of _ (by decide +kernel)) ggX5_write_X3_start
set_option maxRecDepth 20000 in
theorem ggX5_write_X4_start : GoodIn wsX5_write wsX4_start := goodIn_r _ [63, 64, 65, 66, 67, 68, 23, 24, 25, 26, 27, 104, 105, 106, 107, 113, 114] (by decide +kernel) (by decide +kernel)
set_option maxRecDepth 20000 in
theorem gX5_write_X4_start : GoodIn wsX5_write (wsV RX5 88 RX4 yX4_start wsX4_start) := goodIn_app (goodIn_of _ (by decide +kernel)) ggX5_write_X4_start
set_option maxRecDepth 20000 in
theorem ggX5_write_X1_begin : GoodIn wsX5_write wsX1_begin := goodIn_r _ [73, 74, 75, 76, 77, 23, 24, 25, 26, 27, 108, 109, 110, 111, 112, 113, 114] (by decide +kernel) (by decide +kernel)
set_option maxRecDepth 20000 in
theorem gX5_write_X1_begin : GoodIn wsX5_write (wsV RX5 93 RX1 yX1_begin wsX1_begin) := goodIn_app (goodIn_of _ (by decide +kernel)) ggX5_write_X1_begin
set_option maxRecDepth 20000 in
theorem ggX5_write_X0_lower : GoodIn wsX5_write wsX0_lower := goodIn_r _ [26, 27, 113, 114] (by decide +kernel) (by decide +kernel)
set_option maxRecDepth 20000 in
theorem gX5_write_X0_lower : GoodIn wsX5_write (wsV RX5 102 RX0 yX0_lower wsX0_lower) := goodIn_app (goodIn_of _ (by decide +kernel)) ggX5_write_X0_lower
set_option maxRecDepth 20000 in
theorem ggX5_write_X0_enable : GoodIn wsX5_write wsX0_enable := goodIn_r _ [82, 83, 113, 114] (by decide +kernel) (by decide +kernel)
set_option maxRecDepth 20000 in
theorem gX5_write_X0_enable : GoodIn wsX5_write (wsV RX5 105 RX0 yX0_enable wsX0_enable) := goodIn_app (goodIn_of _ (by decide +kernel)) ggX5_write_X0_enable
theorem dX5_write_0 : decode cX5_write 0 = .ok (.iload_n 2, 1) := by decide +kernel
theorem dX5_write_1 : decode cX5_write 1 = .ok (.invokestatic 51, 3) := by decide +kernel
theorem dX5_write_4 : decode cX5_write 4 = .ok (.ifCond .ne 13, 3) := by decide +kernel
theorem dX5_write_7 : decode cX5_write 7 = .ok (.new 55, 3) := by decide +kernel
theorem dX5_write_10 : decode cX5_write 10 = .ok (.dup, 1) := by decide +kernel
theorem dX5_write_11 : decode cX5_write 11 = .ok (.ldc 57, 2) := by decide +kernel
theorem dX5_write_13 : decode cX5_write 13 = .ok (.invokespecial 59, 3) := by decide +kernel
theorem dX5_write_16 : decode cX5_write 16 = .ok (.athrow, 1) := by decide +kernel
theorem dX5_write_17 : decode cX5_write 17 = .ok (.iload_n 1, 1) := by decide +kernel
theorem dX5_write_18 : decode cX5_write 18 = .ok (.tableswitch 306 0 15 #[78, 103, 128, 139, 150, 161, 179, 190, 201, 212, 223, 241, 249, 273, 284, 295], 78) := by decide +kernel
theorem dX5_write_96 : decode cX5_write 96 = .ok (.aload_n 0, 1) := by decide +kernel
theorem dX5_write_97 : decode cX5_write 97 = .ok (.getfield 25, 3) := by decide +kernel
theorem dX5_write_100 : decode cX5_write 100 = .ok (.iload_n 2, 1) := by decide +kernel
theorem dX5_write_101 : decode cX5_write 101 = .ok (.putfield 62, 3) := by decide +kernel
theorem dX5_write_104 : decode cX5_write 104 = .ok (.aload_n 0, 1) := by decide +kernel
theorem dX5_write_105 : decode cX5_write 105 = .ok (.getfield 25, 3) := by decide +kernel
theorem dX5_write_108 : decode cX5_write 108 = .ok (.invokevirtual 66, 3) := by decide +kernel
theorem dX5_write_111 : decode cX5_write 111 = .ok (.aload_n 0, 1) := by decide +kernel
theorem dX5_write_112 : decode cX5_write 112 = .ok (.getfield 25, 3) := by decide +kernel
theorem dX5_write_115 : decode cX5_write 115 = .ok (.invokevirtual 69, 3) := by decide +kernel
theorem dX5_write_118 : decode cX5_write 118 = .ok (.goto 216, 3) := by decide +kernel
theorem dX5_write_121 : decode cX5_write 121 = .ok (.aload_n 0, 1) := by decide +kernel
theorem dX5_write_122 : decode cX5_write 122 = .ok (.getfield 21, 3) := by decide +kernel
theorem dX5_write_125 : decode cX5_write 125 = .ok (.iload_n 2, 1) := by decide +kernel
theorem dX5_write_126 : decode cX5_write 126 = .ok (.putfield 62, 3) := by decide +kernel
theorem dX5_write_129 : decode cX5_write 129 = .ok (.aload_n 0, 1) := by decide +kernel
theorem dX5_write_130 : decode cX5_write 130 = .ok (.getfield 21, 3) := by decide +kernel
theorem dX5_write_133 : decode cX5_write 133 = .ok (.invokevirtual 66, 3) := by decide +kernel
theorem dX5_write_136 : decode cX5_write 136 = .ok (.aload_n 0, 1) := by decide +kernel
theorem dX5_write_137 : decode cX5_write 137 = .ok (.getfield 21, 3) := by decide +kernel
theorem dX5_write_140 : decode cX5_write 140 = .ok (.invokevirtual 69, 3) := by decide +kernel
theorem dX5_write_143 : decode cX5_write 143 = .ok (.goto 191, 3) := by decide +kernel
theorem dX5_write_146 : decode cX5_write 146 = .ok (.aload_n 0, 1) := by decide +kernel
theorem dX5_write_147 : decode cX5_write 147 = .ok (.getfield 25, 3) := by decide +kernel
theorem dX5_write_150 : decode cX5_write 150 = .ok (.iload_n 2, 1) := by decide +kernel
theorem dX5_write_151 : decode cX5_write 151 = .ok (.putfield 72, 3) := by decide +kernel
theorem dX5_write_154 : decode cX5_write 154 = .ok (.goto 180, 3) := by decide +kernel
theorem dX5_write_157 : decode cX5_write 157 = .ok (.aload_n 0, 1) := by decide +kernel
theorem dX5_write_158 : decode cX5_write 158 = .ok (.getfield 21, 3) := by decide +kernel
theorem dX5_write_161 : decode cX5_write 161 = .ok (.iload_n 2, 1) := by decide +kernel
theorem dX5_write_162 : decode cX5_write 162 = .ok (.putfield 72, 3) := by decide +kernel
theorem dX5_write_165 : decode cX5_write 165 = .ok (.goto 169, 3) := by decide +kernel
theorem dX5_write_168 : decode cX5_write 168 = .ok (.aload_n 0, 1) := by decide +kernel
theorem dX5_write_169 : decode cX5_write 169 = .ok (.getfield 33, 3) := by decide +kernel
theorem dX5_write_172 : decode cX5_write 172 = .ok (.iload_n 2, 1) := by decide +kernel
theorem dX5_write_173 : decode cX5_write 173 = .ok (.invokevirtual 75, 3) := by decide +kernel
theorem dX5_write_176 : decode cX5_write 176 = .ok (.goto 158, 3) := by decide +kernel
theorem dX5_write_179 : decode cX5_write 179 = .ok (.aload_n 0, 1) := by decide +kernel
theorem dX5_write_180 : decode cX5_write 180 = .ok (.getfield 33, 3) := by decide +kernel
theorem dX5_write_183 : decode cX5_write 183 = .ok (.iload_n 2, 1) := by decide +kernel
theorem dX5_write_184 : decode cX5_write 184 = .ok (.invokevirtual 79, 3) := by decide +kernel
theorem dX5_write_187 : decode cX5_write 187 = .ok (.aload_n 0, 1) := by decide +kernel
theorem dX5_write_188 : decode cX5_write 188 = .ok (.getfield 33, 3) := by decide +kernel
theorem dX5_write_191 : decode cX5_write 191 = .ok (.invokevirtual 82, 3) := by decide +kernel
theorem dX5_write_194 : decode cX5_write 194 = .ok (.goto 140, 3) := by decide +kernel
theorem dX5_write_197 : decode cX5_write 197 = .ok (.aload_n 0, 1) := by decide +kernel
theorem dX5_write_198 : decode cX5_write 198 = .ok (.getfield 33, 3) := by decide +kernel
theorem dX5_write_201 : decode cX5_write 201 = .ok (.iload_n 2, 1) := by decide +kernel
theorem dX5_write_202 : decode cX5_write 202 = .ok (.invokevirtual 75, 3) := by decide +kernel
theorem dX5_write_205 : decode cX5_write 205 = .ok (.goto 129, 3) := by decide +kernel
theorem dX5_write_208 : decode cX5_write 208 = .ok (.aload_n 0, 1) := by decide +kernel
theorem dX5_write_209 : decode cX5_write 209 = .ok (.getfield 33, 3) := by decide +kernel
theorem dX5_write_212 : decode cX5_write 212 = .ok (.iload_n 2, 1) := by decide +kernel
theorem dX5_write_213 : decode cX5_write 213 = .ok (.invokevirtual 79, 3) := by decide +kernel
theorem dX5_write_216 : decode cX5_write 216 = .ok (.goto 118, 3) := by decide +kernel
theorem dX5_write_219 : decode cX5_write 219 = .ok (.aload_n 0, 1) := by decide +kernel
theorem dX5_write_220 : decode cX5_write 220 = .ok (.getfield 40, 3) := by decide +kernel
theorem dX5_write_223 : decode cX5_write 223 = .ok (.iload_n 2, 1) := by decide +kernel
theorem dX5_write_224 : decode cX5_write 224 = .ok (.putfield 85, 3) := by decide +kernel
theorem dX5_write_227 : decode cX5_write 227 = .ok (.goto 107, 3) := by decide +kernel
theorem dX5_write_230 : decode cX5_write 230 = .ok (.aload_n 0, 1) := by decide +kernel
theorem dX5_write_231 : decode cX5_write 231 = .ok (.getfield 40, 3) := by decide +kernel
theorem dX5_write_234 : decode cX5_write 234 = .ok (.iload_n 2, 1) := by decide +kernel
theorem dX5_write_235 : decode cX5_write 235 = .ok (.invokevirtual 88, 3) := by decide +kernel
theorem dX5_write_238 : decode cX5_write 238 = .ok (.goto 96, 3) := by decide +kernel
theorem dX5_write_241 : decode cX5_write 241 = .ok (.aload_n 0, 1) := by decide +kernel
theorem dX5_write_242 : decode cX5_write 242 = .ok (.getfield 47, 3) := by decide +kernel
theorem dX5_write_245 : decode cX5_write 245 = .ok (.iload_n 2, 1) := by decide +kernel
theorem dX5_write_246 : decode cX5_write 246 = .ok (.putfield 90, 3) := by decide +kernel
theorem dX5_write_249 : decode cX5_write 249 = .ok (.aload_n 0, 1) := by decide +kernel
theorem dX5_write_250 : decode cX5_write 250 = .ok (.getfield 47, 3) := by decide +kernel
theorem dX5_write_253 : decode cX5_write 253 = .ok (.invokevirtual 93, 3) := by decide +kernel
theorem dX5_write_256 : decode cX5_write 256 = .ok (.goto 78, 3) := by decide +kernel
theorem dX5_write_259 : decode cX5_write 259 = .ok (.aload_n 0, 1) := by decide +kernel
theorem dX5_write_260 : decode cX5_write 260 = .ok (.iload_n 2, 1) := by decide +kernel
theorem dX5_write_261 : decode cX5_write 261 = .ok (.putfield 96, 3) := by decide +kernel
theorem dX5_write_264 : decode cX5_write 264 = .ok (.goto 70, 3) := by decide +kernel
theorem dX5_write_267 : decode cX5_write 267 = .ok (.aload_n 0, 1) := by decide +kernel
theorem dX5_write_268 : decode cX5_write 268 = .ok (.getfield 21, 3) := by decide +kernel
theorem dX5_write_271 : decode cX5_write 271 = .ok (.iload_n 2, 1) := by decide +kernel
theorem dX5_write_272 : decode cX5_write 272 = .ok (.bipush 15, 2) := by decide +kernel
theorem dX5_write_274 : decode cX5_write 274 = .ok (.iand, 1) := by decide +kernel
theorem dX5_write_275 : decode cX5_write 275 = .ok (.putfield 99, 3) := by decide +kernel
theorem dX5_write_278 : decode cX5_write 278 = .ok (.aload_n 0, 1) := by decide +kernel
theorem dX5_write_279 : decode cX5_write 279 = .ok (.getfield 25, 3) := by decide +kernel
theorem dX5_write_282 : decode cX5_write 282 = .ok (.iload_n 2, 1) := by decide +kernel
theorem dX5_write_283 : decode cX5_write 283 = .ok (.iconst 4, 1) := by decide +kernel
theorem dX5_write_284 : decode cX5_write 284 = .ok (.ishr, 1) := by decide +kernel
theorem dX5_write_285 : decode cX5_write 285 = .ok (.putfield 99, 3) := by decide +kernel
theorem dX5_write_288 : decode cX5_write 288 = .ok (.goto 46, 3) := by decide +kernel
theorem dX5_write_291 : decode cX5_write 291 = .ok (.aload_n 0, 1) := by decide +kernel
theorem dX5_write_292 : decode cX5_write 292 = .ok (.getfield 10, 3) := by decide +kernel
theorem dX5_write_295 : decode cX5_write 295 = .ok (.iload_n 2, 1) := by decide +kernel
theorem dX5_write_296 : decode cX5_write 296 = .ok (.invokevirtual 102, 3) := by decide +kernel
theorem dX5_write_299 : decode cX5_write 299 = .ok (.goto 35, 3) := by decide +kernel
theorem dX5_write_302 : decode cX5_write 302 = .ok (.aload_n 0, 1) := by decide +kernel
theorem dX5_write_303 : decode cX5_write 303 = .ok (.getfield 10, 3) := by decide +kernel
theorem dX5_write_306 : decode cX5_write 306 = .ok (.iload_n 2, 1) := by decide +kernel
theorem dX5_write_307 : decode cX5_write 307 = .ok (.invokevirtual 105, 3) := by decide +kernel
theorem dX5_write_310 : decode cX5_write 310 = .ok (.goto 24, 3) := by decide +kernel
theorem dX5_write_313 : decode cX5_write 313 = .ok (.aload_n 0, 1) := by decide +kernel
theorem dX5_write_314 : decode cX5_write 314 = .ok (.getfield 21, 3) := by decide +kernel
theorem dX5_write_317 : decode cX5_write 317 = .ok (.iload_n 2, 1) := by decide +kernel
theorem dX5_write_318 : decode cX5_write 318 = .ok (.putfield 62, 3) := by decide +kernel
theorem dX5_write_321 : decode cX5_write 321 = .ok (.goto 13, 3) := by decide +kernel
theorem dX5_write_324 : decode cX5_write 324 = .ok (.new 55, 3) := by decide +kernel
theorem dX5_write_327 : decode cX5_write 327 = .ok (.dup, 1) := by decide +kernel
theorem dX5_write_328 : decode cX5_write 328 = .ok (.ldc 108, 2) := by decide +kernel
theorem dX5_write_330 : decode cX5_write 330 = .ok (.invokespecial 59, 3) := by decide +kernel
theorem dX5_write_333 : decode cX5_write 333 = .ok (.athrow, 1) := by decide +kernel
theorem dX5_write_334 : decode cX5_write 334 = .ok (.return_, 1) := by decide +kernel
set_option maxRecDepth 20000 in
theorem ggX5_read_X5_readPortB : GoodIn wsX5_read wsX5_readPortB := goodIn_r _ [14, 3, 15, 16, 17, 13, 18, 9, 19, 20, 21, 22, 23, 24, 25, 26, 27, 28, 29, 30, 31, 32, 33, 34, 35, 36, 37, 38, 39, 6, 40, 41, 42, 43, 44, 45, 46, 47, 48, 49, 50, 51, 52, 53, 93, 94, 95, 96, 97, 98, 99, 100, 101, 102, 103, 104, 105, 106, 107, 108, 109, 110, 111, 112, 128, 129, 113, 114, 115, 116, 117, 118] (by decide +kernel) (by decide +kernel)
set_option maxRecDepth 20000 in
theorem gX5_read_X5_readPortB : GoodIn wsX5_read (wsV RX5 110 RX5 yX5_readPortB wsX5_readPortB) := goodIn_app (goodIn_of _ (by decide +kernel)) ggX5_read_X5_readPortB
set_option maxRecDepth 20000 in
theorem ggX5_read_X5_readPortA : GoodIn wsX5_read wsX5_readPortA := goodIn_r _ [57, 4, 58, 59, 60, 13, 61, 15, 16, 17, 18, 9, 19, 20, 21, 22, 23, 24, 25, 26, 27, 28, 29, 30, 31, 32, 33, 34, 35, 40, 41, 42, 43, 44, 45, 46, 47, 48, 49, 50, 51, 52, 53, 62, 63, 64, 65, 66, 67, 93, 94, 95, 96, 97, 98, 99, 100, 101, 102, 103, 104, 105, 106, 107, 108, 109, 110, 111, 112, 128, 129] (by decide +kernel) (by decide +kernel)
set_option maxRecDepth 20000 in
theorem gX5_read_X5_readPortA : GoodIn wsX5_read (wsV RX5 114 RX5 yX5_readPortA wsX5_readPortA) := goodIn_app (goodIn_of _ (by decide +kernel)) ggX5_read_X5_readPortA
set_option maxRecDepth 20000 in
theorem ggX5_read_X0_lower : GoodIn wsX5_read wsX0_lower := goodIn_r _ [48, 35, 128, 129] (by decide +kernel) (by decide +kernel)
set_option maxRecDepth 20000 in
theorem gX5_read_X0_lower : GoodIn wsX5_read (wsV RX5 102 RX0 yX0_lower wsX0_lower) := goodIn_app (goodIn_of _ (by decide +kernel)) ggX5_read_X0_lower
set_option maxRecDepth 20000 in
theorem ggX5_read_X5_lowByte : GoodIn wsX5_read wsX5_lowByte := goodIn_r _ [71] (by decide +kernel) (by decide +kernel)
set_option maxRecDepth 20000 in
theorem gX5_read_X5_lowByte : GoodIn wsX5_read (va_wsS RX5 120 yX5_lowByte wsX5_lowByte) := goodIn_app (goodIn_of _ (by decide +kernel)) ggX5_read_X5_lowByte
set_option maxRecDepth 20000 in
theorem ggX5_read_X5_highByte : GoodIn wsX5_read wsX5_highByte := goodIn_r _ [74] (by decide +kernel) (by decide +kernel)
set_option maxRecDepth 20000 in
theorem gX5_read_X5_highByte : GoodIn wsX5_read (va_wsS RX5 124 yX5_highByte wsX5_highByte) := goodIn_app (goodIn_of _ (by decide +kernel)) ggX5_read_X5_highByte
set_option maxRecDepth 20000 in
theorem ggX5_read_X1_begin : GoodIn wsX5_read wsX1_begin := goodIn_r _ [79, 80, 81, 82, 83, 46, 47, 33, 48, 35, 123, 124, 125, 126, 127, 128, 129] (by decide +kernel) (by decide +kernel)
set_option maxRecDepth 20000 in
theorem gX5_read_X1_begin : GoodIn wsX5_read (wsV RX5 93 RX1 yX1_begin wsX1_begin) := goodIn_app (goodIn_of _ (by decide +kernel)) ggX5_read_X1_begin
set_option maxRecDepth 20000 in
theorem ggX5_read_X0_withCall : GoodIn wsX5_read wsX0_withCall := goodIn_r _ [87, 35, 88, 89, 90, 33, 91, 92, 128, 129] (by decide +kernel) (by decide +kernel)
set_option maxRecDepth 20000 in
theorem gX5_read_X0_withCall : GoodIn wsX5_read (wsV RX5 129 RX0 yX0_withCall wsX0_withCall) := goodIn_app (goodIn_of _ (by decide +kernel)) ggX5_read_X0_withCall
set_option maxRecDepth 20000 in
theorem ggX5_read_X5_portA : GoodIn wsX5_read wsX5_portA := goodIn_r _ [61, 4, 15, 16, 17, 13, 18, 9, 19, 20, 21, 22, 23, 24, 25, 26, 27, 28, 29, 30, 31, 32, 33, 34, 35, 93, 94, 95, 96, 97, 98, 99, 100, 101, 102, 103, 104, 105, 106, 107, 108, 109, 110, 111, 112, 128, 129] (by decide +kernel) (by decide +kernel)
set_option maxRecDepth 20000 in
theorem gX5_read_X5_portA : GoodIn wsX5_read (wsV RX5 135 RX5 yX5_portA wsX5_portA) := goodIn_app (goodIn_of _ (by decide +kernel)) ggX5_read_X5_portA
theorem dX5_read_0 : decode cX5_read 0 = .ok (.iload_n 1, 1) := by decide +kernel
theorem dX5_read_1 : decode cX5_read 1 = .ok (.tableswitch 252 0 15 #[79, 84, 89, 97, 105, 125, 136, 147, 158, 178, 189, 204, 209, 227, 235, 247], 79) := by decide +kernel
theorem dX5_read_80 : decode cX5_read 80 = .ok (.aload_n 0, 1) := by decide +kernel
theorem dX5_read_81 : decode cX5_read 81 = .ok (.invokevirtual 110, 3) := by decide +kernel
theorem dX5_read_84 : decode cX5_read 84 = .ok (.ireturn, 1) := by decide +kernel
theorem dX5_read_85 : decode cX5_read 85 = .ok (.aload_n 0, 1) := by decide +kernel
theorem dX5_read_86 : decode cX5_read 86 = .ok (.invokevirtual 114, 3) := by decide +kernel
theorem dX5_read_89 : decode cX5_read 89 = .ok (.ireturn, 1) := by decide +kernel
theorem dX5_read_90 : decode cX5_read 90 = .ok (.aload_n 0, 1) := by decide +kernel
theorem dX5_read_91 : decode cX5_read 91 = .ok (.getfield 25, 3) := by decide +kernel
theorem dX5_read_94 : decode cX5_read 94 = .ok (.getfield 72, 3) := by decide +kernel
theorem dX5_read_97 : decode cX5_read 97 = .ok (.ireturn, 1) := by decide +kernel
theorem dX5_read_98 : decode cX5_read 98 = .ok (.aload_n 0, 1) := by decide +kernel
theorem dX5_read_99 : decode cX5_read 99 = .ok (.getfield 21, 3) := by decide +kernel
theorem dX5_read_102 : decode cX5_read 102 = .ok (.getfield 72, 3) := by decide +kernel
theorem dX5_read_105 : decode cX5_read 105 = .ok (.ireturn, 1) := by decide +kernel
theorem dX5_read_106 : decode cX5_read 106 = .ok (.aload_n 0, 1) := by decide +kernel
theorem dX5_read_107 : decode cX5_read 107 = .ok (.getfield 10, 3) := by decide +kernel
theorem dX5_read_110 : decode cX5_read 110 = .ok (.bipush 64, 2) := by decide +kernel
theorem dX5_read_112 : decode cX5_read 112 = .ok (.invokevirtual 102, 3) := by decide +kernel
theorem dX5_read_115 : decode cX5_read 115 = .ok (.aload_n 0, 1) := by decide +kernel
theorem dX5_read_116 : decode cX5_read 116 = .ok (.getfield 33, 3) := by decide +kernel
theorem dX5_read_119 : decode cX5_read 119 = .ok (.getfield 117, 3) := by decide +kernel
theorem dX5_read_122 : decode cX5_read 122 = .ok (.invokestatic 120, 3) := by decide +kernel
theorem dX5_read_125 : decode cX5_read 125 = .ok (.ireturn, 1) := by decide +kernel
theorem dX5_read_126 : decode cX5_read 126 = .ok (.aload_n 0, 1) := by decide +kernel
theorem dX5_read_127 : decode cX5_read 127 = .ok (.getfield 33, 3) := by decide +kernel
theorem dX5_read_130 : decode cX5_read 130 = .ok (.getfield 117, 3) := by decide +kernel
theorem dX5_read_133 : decode cX5_read 133 = .ok (.invokestatic 124, 3) := by decide +kernel
theorem dX5_read_136 : decode cX5_read 136 = .ok (.ireturn, 1) := by decide +kernel
theorem dX5_read_137 : decode cX5_read 137 = .ok (.aload_n 0, 1) := by decide +kernel
theorem dX5_read_138 : decode cX5_read 138 = .ok (.getfield 33, 3) := by decide +kernel
theorem dX5_read_141 : decode cX5_read 141 = .ok (.getfield 127, 3) := by decide +kernel
theorem dX5_read_144 : decode cX5_read 144 = .ok (.invokestatic 120, 3) := by decide +kernel
theorem dX5_read_147 : decode cX5_read 147 = .ok (.ireturn, 1) := by decide +kernel
theorem dX5_read_148 : decode cX5_read 148 = .ok (.aload_n 0, 1) := by decide +kernel
theorem dX5_read_149 : decode cX5_read 149 = .ok (.getfield 33, 3) := by decide +kernel
theorem dX5_read_152 : decode cX5_read 152 = .ok (.getfield 127, 3) := by decide +kernel
theorem dX5_read_155 : decode cX5_read 155 = .ok (.invokestatic 124, 3) := by decide +kernel
theorem dX5_read_158 : decode cX5_read 158 = .ok (.ireturn, 1) := by decide +kernel
theorem dX5_read_159 : decode cX5_read 159 = .ok (.aload_n 0, 1) := by decide +kernel
theorem dX5_read_160 : decode cX5_read 160 = .ok (.getfield 10, 3) := by decide +kernel
theorem dX5_read_163 : decode cX5_read 163 = .ok (.bipush 32, 2) := by decide +kernel
theorem dX5_read_165 : decode cX5_read 165 = .ok (.invokevirtual 102, 3) := by decide +kernel
theorem dX5_read_168 : decode cX5_read 168 = .ok (.aload_n 0, 1) := by decide +kernel
theorem dX5_read_169 : decode cX5_read 169 = .ok (.getfield 40, 3) := by decide +kernel
theorem dX5_read_172 : decode cX5_read 172 = .ok (.getfield 128, 3) := by decide +kernel
theorem dX5_read_175 : decode cX5_read 175 = .ok (.invokestatic 120, 3) := by decide +kernel
theorem dX5_read_178 : decode cX5_read 178 = .ok (.ireturn, 1) := by decide +kernel
theorem dX5_read_179 : decode cX5_read 179 = .ok (.aload_n 0, 1) := by decide +kernel
theorem dX5_read_180 : decode cX5_read 180 = .ok (.getfield 40, 3) := by decide +kernel
theorem dX5_read_183 : decode cX5_read 183 = .ok (.getfield 128, 3) := by decide +kernel
theorem dX5_read_186 : decode cX5_read 186 = .ok (.invokestatic 124, 3) := by decide +kernel
theorem dX5_read_189 : decode cX5_read 189 = .ok (.ireturn, 1) := by decide +kernel
theorem dX5_read_190 : decode cX5_read 190 = .ok (.aload_n 0, 1) := by decide +kernel
theorem dX5_read_191 : decode cX5_read 191 = .ok (.getfield 47, 3) := by decide +kernel
theorem dX5_read_194 : decode cX5_read 194 = .ok (.invokevirtual 93, 3) := by decide +kernel
theorem dX5_read_197 : decode cX5_read 197 = .ok (.aload_n 0, 1) := by decide +kernel
theorem dX5_read_198 : decode cX5_read 198 = .ok (.getfield 47, 3) := by decide +kernel
theorem dX5_read_201 : decode cX5_read 201 = .ok (.getfield 90, 3) := by decide +kernel
theorem dX5_read_204 : decode cX5_read 204 = .ok (.ireturn, 1) := by decide +kernel
theorem dX5_read_205 : decode cX5_read 205 = .ok (.aload_n 0, 1) := by decide +kernel
theorem dX5_read_206 : decode cX5_read 206 = .ok (.getfield 96, 3) := by decide +kernel
theorem dX5_read_209 : decode cX5_read 209 = .ok (.ireturn, 1) := by decide +kernel
theorem dX5_read_210 : decode cX5_read 210 = .ok (.aload_n 0, 1) := by decide +kernel
theorem dX5_read_211 : decode cX5_read 211 = .ok (.getfield 25, 3) := by decide +kernel
theorem dX5_read_214 : decode cX5_read 214 = .ok (.getfield 99, 3) := by decide +kernel
theorem dX5_read_217 : decode cX5_read 217 = .ok (.iconst 4, 1) := by decide +kernel
theorem dX5_read_218 : decode cX5_read 218 = .ok (.ishl, 1) := by decide +kernel
theorem dX5_read_219 : decode cX5_read 219 = .ok (.aload_n 0, 1) := by decide +kernel
theorem dX5_read_220 : decode cX5_read 220 = .ok (.getfield 21, 3) := by decide +kernel
theorem dX5_read_223 : decode cX5_read 223 = .ok (.getfield 99, 3) := by decide +kernel
theorem dX5_read_226 : decode cX5_read 226 = .ok (.ior, 1) := by decide +kernel
theorem dX5_read_227 : decode cX5_read 227 = .ok (.ireturn, 1) := by decide +kernel
theorem dX5_read_228 : decode cX5_read 228 = .ok (.aload_n 0, 1) := by decide +kernel
theorem dX5_read_229 : decode cX5_read 229 = .ok (.getfield 10, 3) := by decide +kernel
theorem dX5_read_232 : decode cX5_read 232 = .ok (.invokevirtual 129, 3) := by decide +kernel
theorem dX5_read_235 : decode cX5_read 235 = .ok (.ireturn, 1) := by decide +kernel
theorem dX5_read_236 : decode cX5_read 236 = .ok (.aload_n 0, 1) := by decide +kernel
theorem dX5_read_237 : decode cX5_read 237 = .ok (.getfield 10, 3) := by decide +kernel
theorem dX5_read_240 : decode cX5_read 240 = .ok (.getfield 132, 3) := by decide +kernel
theorem dX5_read_243 : decode cX5_read 243 = .ok (.sipush 128, 3) := by decide +kernel
theorem dX5_read_246 : decode cX5_read 246 = .ok (.ior, 1) := by decide +kernel
theorem dX5_read_247 : decode cX5_read 247 = .ok (.ireturn, 1) := by decide +kernel
theorem dX5_read_248 : decode cX5_read 248 = .ok (.aload_n 0, 1) := by decide +kernel
theorem dX5_read_249 : decode cX5_read 249 = .ok (.invokevirtual 135, 3) := by decide +kernel
theorem dX5_read_252 : decode cX5_read 252 = .ok (.ireturn, 1) := by decide +kernel
theorem dX5_read_253 : decode cX5_read 253 = .ok (.new 55, 3) := by decide +kernel
theorem dX5_read_256 : decode cX5_read 256 = .ok (.dup, 1) := by decide +kernel
theorem dX5_read_257 : decode cX5_read 257 = .ok (.ldc 108, 2) := by decide +kernel
theorem dX5_read_259 : decode cX5_read 259 = .ok (.invokespecial 59, 3) := by decide +kernel
theorem dX5_read_262 : decode cX5_read 262 = .ok (.athrow, 1) := by decide +kernel
set_option maxRecDepth 20000 in
theorem ggX5_pins_X5_isByte : GoodIn wsX5_pins wsX5_isByte := goodIn_r _ [9] (by decide +kernel) (by decide +kernel)
set_option maxRecDepth 20000 in
theorem gX5_pins_X5_isByte : GoodIn wsX5_pins (va_wsS RX5 51 yX5_isByte wsX5_isByte) := goodIn_app (goodIn_of _ (by decide +kernel)) ggX5_pins_X5_isByte
set_option maxRecDepth 20000 in
theorem ggX5_pins_X5_controlHas : GoodIn wsX5_pins wsX5_controlHas := goodIn_r _ [13, 14, 30, 31, 32, 33, 34, 35, 36, 37] (by decide +kernel) (by decide +kernel)
set_option maxRecDepth 20000 in
theorem gX5_pins_X5_controlHas : GoodIn wsX5_pins (wsV RX5 143 RX5 yX5_controlHas wsX5_controlHas) := goodIn_app (goodIn_of _ (by decide +kernel)) ggX5_pins_X5_controlHas
set_option maxRecDepth 20000 in
theorem ggX5_pins_X4_countDown : GoodIn wsX5_pins wsX4_countDown := goodIn_r _ [19, 20, 21, 22, 23, 24, 25, 26, 27, 28, 29, 50, 51, 52, 53, 54, 55] (by decide +kernel) (by decide +kernel)
set_option maxRecDepth 20000 in
theorem gX5_pins_X4_countDown : GoodIn wsX5_pins (wsV RX5 146 RX4 yX4_countDown wsX4_countDown) := goodIn_app (goodIn_of _ (by decide +kernel)) ggX5_pins_X4_countDown
theorem dX5_pins_0 : decode cX5_pins 0 = .ok (.iload_n 1, 1) := by decide +kernel
theorem dX5_pins_1 : decode cX5_pins 1 = .ok (.invokestatic 51, 3) := by decide +kernel
theorem dX5_pins_4 : decode cX5_pins 4 = .ok (.ifCond .eq 10, 3) := by decide +kernel
theorem dX5_pins_7 : decode cX5_pins 7 = .ok (.iload_n 2, 1) := by decide +kernel
theorem dX5_pins_8 : decode cX5_pins 8 = .ok (.invokestatic 51, 3) := by decide +kernel
theorem dX5_pins_11 : decode cX5_pins 11 = .ok (.ifCond .ne 13, 3) := by decide +kernel
theorem dX5_pins_14 : decode cX5_pins 14 = .ok (.new 55, 3) := by decide +kernel
theorem dX5_pins_17 : decode cX5_pins 17 = .ok (.dup, 1) := by decide +kernel
theorem dX5_pins_18 : decode cX5_pins 18 = .ok (.ldc 138, 2) := by decide +kernel
theorem dX5_pins_20 : decode cX5_pins 20 = .ok (.invokespecial 59, 3) := by decide +kernel
theorem dX5_pins_23 : decode cX5_pins 23 = .ok (.athrow, 1) := by decide +kernel
theorem dX5_pins_24 : decode cX5_pins 24 = .ok (.aload_n 0, 1) := by decide +kernel
theorem dX5_pins_25 : decode cX5_pins 25 = .ok (.getfield 25, 3) := by decide +kernel
theorem dX5_pins_28 : decode cX5_pins 28 = .ok (.getfield 140, 3) := by decide +kernel
theorem dX5_pins_31 : decode cX5_pins 31 = .ok (.iload_n 2, 1) := by decide +kernel
theorem dX5_pins_32 : decode cX5_pins 32 = .ok (.iconst (-1), 1) := by decide +kernel
theorem dX5_pins_33 : decode cX5_pins 33 = .ok (.ixor, 1) := by decide +kernel
theorem dX5_pins_34 : decode cX5_pins 34 = .ok (.iand, 1) := by decide +kernel
theorem dX5_pins_35 : decode cX5_pins 35 = .ok (.bipush 64, 2) := by decide +kernel
theorem dX5_pins_37 : decode cX5_pins 37 = .ok (.iand, 1) := by decide +kernel
theorem dX5_pins_38 : decode cX5_pins 38 = .ok (.ifCond .eq 7, 3) := by decide +kernel
theorem dX5_pins_41 : decode cX5_pins 41 = .ok (.iconst 1, 1) := by decide +kernel
theorem dX5_pins_42 : decode cX5_pins 42 = .ok (.goto 4, 3) := by decide +kernel
theorem dX5_pins_45 : decode cX5_pins 45 = .ok (.iconst 0, 1) := by decide +kernel
theorem dX5_pins_46 : decode cX5_pins 46 = .ok (.istore_n 3, 1) := by decide +kernel
theorem dX5_pins_47 : decode cX5_pins 47 = .ok (.aload_n 0, 1) := by decide +kernel
theorem dX5_pins_48 : decode cX5_pins 48 = .ok (.getfield 21, 3) := by decide +kernel
theorem dX5_pins_51 : decode cX5_pins 51 = .ok (.iload_n 1, 1) := by decide +kernel
theorem dX5_pins_52 : decode cX5_pins 52 = .ok (.putfield 140, 3) := by decide +kernel
theorem dX5_pins_55 : decode cX5_pins 55 = .ok (.aload_n 0, 1) := by decide +kernel
theorem dX5_pins_56 : decode cX5_pins 56 = .ok (.getfield 25, 3) := by decide +kernel
theorem dX5_pins_59 : decode cX5_pins 59 = .ok (.iload_n 2, 1) := by decide +kernel
theorem dX5_pins_60 : decode cX5_pins 60 = .ok (.putfield 140, 3) := by decide +kernel
theorem dX5_pins_63 : decode cX5_pins 63 = .ok (.iload_n 3, 1) := by decide +kernel
theorem dX5_pins_64 : decode cX5_pins 64 = .ok (.ifCond .eq 20, 3) := by decide +kernel
theorem dX5_pins_67 : decode cX5_pins 67 = .ok (.aload_n 0, 1) := by decide +kernel
theorem dX5_pins_68 : decode cX5_pins 68 = .ok (.bipush 32, 2) := by decide +kernel
theorem dX5_pins_70 : decode cX5_pins 70 = .ok (.invokevirtual 143, 3) := by decide +kernel
theorem dX5_pins_73 : decode cX5_pins 73 = .ok (.ifCond .eq 11, 3) := by decide +kernel
theorem dX5_pins_76 : decode cX5_pins 76 = .ok (.aload_n 0, 1) := by decide +kernel
theorem dX5_pins_77 : decode cX5_pins 77 = .ok (.getfield 40, 3) := by decide +kernel
theorem dX5_pins_80 : decode cX5_pins 80 = .ok (.iconst 1, 1) := by decide +kernel
theorem dX5_pins_81 : decode cX5_pins 81 = .ok (.invokevirtual 146, 3) := by decide +kernel
theorem dX5_pins_84 : decode cX5_pins 84 = .ok (.return_, 1) := by decide +kernel
set_option maxRecDepth 20000 in
theorem ggX5_line_X2_moveLine1 : GoodIn wsX5_line wsX2_moveLine1 := goodIn_r _ [9, 10, 11, 12, 13, 14, 15, 16, 17, 18, 19, 20, 21, 22, 41, 42, 43, 44, 45, 46, 47, 48, 49, 50, 51, 52, 53, 54] (by decide +kernel) (by decide +kernel)
set_option maxRecDepth 20000 in
theorem gX5_line_X2_moveLine1 : GoodIn wsX5_line (wsV RX5 149 RX2 yX2_moveLine1 wsX2_moveLine1) := goodIn_app (goodIn_of _ (by decide +kernel)) ggX5_line_X2_moveLine1
set_option maxRecDepth 20000 in
theorem ggX5_line_X2_moveLine2 : GoodIn wsX5_line wsX2_moveLine2 := goodIn_r _ [26, 27, 12, 28, 29, 30, 31, 8, 32, 10, 17, 18, 19, 20, 21, 22, 41, 42, 43, 44, 45, 46, 47, 48, 49, 50, 51, 52, 53, 54] (by decide +kernel) (by decide +kernel)
set_option maxRecDepth 20000 in
theorem gX5_line_X2_moveLine2 : GoodIn wsX5_line (wsV RX5 153 RX2 yX2_moveLine2 wsX2_moveLine2) := goodIn_app (goodIn_of _ (by decide +kernel)) ggX5_line_X2_moveLine2
theorem dX5_line_0 : decode cX5_line 0 = .ok (.iload_n 1, 1) := by decide +kernel
theorem dX5_line_1 : decode cX5_line 1 = .ok (.tableswitch 67 0 3 #[31, 40, 49, 58], 31) := by decide +kernel
theorem dX5_line_32 : decode cX5_line 32 = .ok (.aload_n 0, 1) := by decide +kernel
theorem dX5_line_33 : decode cX5_line 33 = .ok (.getfield 21, 3) := by decide +kernel
theorem dX5_line_36 : decode cX5_line 36 = .ok (.iload_n 2, 1) := by decide +kernel
theorem dX5_line_37 : decode cX5_line 37 = .ok (.invokevirtual 149, 3) := by decide +kernel
theorem dX5_line_40 : decode cX5_line 40 = .ok (.ireturn, 1) := by decide +kernel
theorem dX5_line_41 : decode cX5_line 41 = .ok (.aload_n 0, 1) := by decide +kernel
theorem dX5_line_42 : decode cX5_line 42 = .ok (.getfield 21, 3) := by decide +kernel
theorem dX5_line_45 : decode cX5_line 45 = .ok (.iload_n 2, 1) := by decide +kernel
theorem dX5_line_46 : decode cX5_line 46 = .ok (.invokevirtual 153, 3) := by decide +kernel
theorem dX5_line_49 : decode cX5_line 49 = .ok (.ireturn, 1) := by decide +kernel
theorem dX5_line_50 : decode cX5_line 50 = .ok (.aload_n 0, 1) := by decide +kernel
theorem dX5_line_51 : decode cX5_line 51 = .ok (.getfield 25, 3) := by decide +kernel
theorem dX5_line_54 : decode cX5_line 54 = .ok (.iload_n 2, 1) := by decide +kernel
theorem dX5_line_55 : decode cX5_line 55 = .ok (.invokevirtual 149, 3) := by decide +kernel
theorem dX5_line_58 : decode cX5_line 58 = .ok (.ireturn, 1) := by decide +kernel
theorem dX5_line_59 : decode cX5_line 59 = .ok (.aload_n 0, 1) := by decide +kernel
theorem dX5_line_60 : decode cX5_line 60 = .ok (.getfield 25, 3) := by decide +kernel
theorem dX5_line_63 : decode cX5_line 63 = .ok (.iload_n 2, 1) := by decide +kernel
theorem dX5_line_64 : decode cX5_line 64 = .ok (.invokevirtual 153, 3) := by decide +kernel
theorem dX5_line_67 : decode cX5_line 67 = .ok (.ireturn, 1) := by decide +kernel
theorem dX5_line_68 : decode cX5_line 68 = .ok (.new 55, 3) := by decide +kernel
theorem dX5_line_71 : decode cX5_line 71 = .ok (.dup, 1) := by decide +kernel
theorem dX5_line_72 : decode cX5_line 72 = .ok (.ldc 156, 2) := by decide +kernel
theorem dX5_line_74 : decode cX5_line 74 = .ok (.invokespecial 59, 3) := by decide +kernel
theorem dX5_line_77 : decode cX5_line 77 = .ok (.athrow, 1) := by decide +kernel
set_option maxRecDepth 20000 in
theorem ggX5_step_X5_goOn : GoodIn wsX5_step wsX5_goOn := goodIn_r _ [9, 10, 11, 12, 13, 14, 15, 16, 17, 18, 8, 19, 20, 21, 22, 23, 24, 25, 26, 27, 28, 29, 30, 31, 32, 33, 34, 35, 36, 37, 38, 39, 40, 41, 42, 43, 44, 45, 46, 47, 48, 49, 50, 51, 52, 53, 54, 55, 56, 57, 58, 59, 60, 61, 62, 63, 64, 65, 66, 67, 68, 69, 70, 71, 72, 73, 74, 75, 76, 77, 78, 79, 80, 81, 82, 83, 84, 85, 95, 96, 97, 98, 99, 100, 101, 102, 103, 104, 105, 106, 107, 108, 109, 110, 111, 112, 113, 114, 115, 116, 117, 118, 119, 120, 121, 122, 123, 124, 125, 126, 127, 128, 129, 130, 131] (by decide +kernel) (by decide +kernel)
set_option maxRecDepth 20000 in
theorem gX5_step_X5_goOn : GoodIn wsX5_step (wsV RX5 161 RX5 yX5_goOn wsX5_goOn) := goodIn_app (goodIn_of _ (by decide +kernel)) ggX5_step_X5_goOn
set_option maxRecDepth 20000 in
theorem ggX5_step_X0_withCall : GoodIn wsX5_step wsX0_withCall := goodIn_r _ [89, 45, 90, 91, 92, 43, 93, 94, 121, 122] (by decide +kernel) (by decide +kernel)
set_option maxRecDepth 20000 in
theorem gX5_step_X0_withCall : GoodIn wsX5_step (wsV RX5 129 RX0 yX0_withCall wsX0_withCall) := goodIn_app (goodIn_of _ (by decide +kernel)) ggX5_step_X0_withCall
theorem dX5_step_0 : decode cX5_step 0 = .ok (.iload_n 1, 1) := by decide +kernel
theorem dX5_step_1 : decode cX5_step 1 = .ok (.ifCond .lt 9, 3) := by decide +kernel
theorem dX5_step_4 : decode cX5_step 4 = .ok (.iload_n 1, 1) := by decide +kernel
theorem dX5_step_5 : decode cX5_step 5 = .ok (.ldc 158, 2) := by decide +kernel
theorem dX5_step_7 : decode cX5_step 7 = .ok (.if_icmp .le 13, 3) := by decide +kernel
theorem dX5_step_10 : decode cX5_step 10 = .ok (.new 55, 3) := by decide +kernel
theorem dX5_step_13 : decode cX5_step 13 = .ok (.dup, 1) := by decide +kernel
theorem dX5_step_14 : decode cX5_step 14 = .ok (.ldc 159, 2) := by decide +kernel
theorem dX5_step_16 : decode cX5_step 16 = .ok (.invokespecial 59, 3) := by decide +kernel
theorem dX5_step_19 : decode cX5_step 19 = .ok (.athrow, 1) := by decide +kernel
theorem dX5_step_20 : decode cX5_step 20 = .ok (.iload_n 1, 1) := by decide +kernel
theorem dX5_step_21 : decode cX5_step 21 = .ok (.ifCond .le 8, 3) := by decide +kernel
theorem dX5_step_24 : decode cX5_step 24 = .ok (.aload_n 0, 1) := by decide +kernel
theorem dX5_step_25 : decode cX5_step 25 = .ok (.iload_n 1, 1) := by decide +kernel
theorem dX5_step_26 : decode cX5_step 26 = .ok (.invokevirtual 161, 3) := by decide +kernel
theorem dX5_step_29 : decode cX5_step 29 = .ok (.aload_n 0, 1) := by decide +kernel
theorem dX5_step_30 : decode cX5_step 30 = .ok (.getfield 10, 3) := by decide +kernel
theorem dX5_step_33 : decode cX5_step 33 = .ok (.invokevirtual 129, 3) := by decide +kernel
theorem dX5_step_36 : decode cX5_step 36 = .ok (.ireturn, 1) := by decide +kernel
set_option maxRecDepth 20000 in
theorem ggX5_out_X5_withTimersBit : GoodIn wsX5_out wsX5_withTimersBit := goodIn_r _ [10, 11, 12, 13, 14, 9, 15, 16, 46, 47, 48, 49, 50, 51, 52, 53, 66, 67, 68, 69, 70, 71] (by decide +kernel) (by decide +kernel)
set_option maxRecDepth 20000 in
theorem gX5_out_X5_withTimersBit : GoodIn wsX5_out (wsV RX5 164 RX5 yX5_withTimersBit wsX5_withTimersBit) := goodIn_app (goodIn_of _ (by decide +kernel)) ggX5_out_X5_withTimersBit
set_option maxRecDepth 20000 in
theorem ggX5_out_X2_line2Gives : GoodIn wsX5_out wsX2_line2Gives := goodIn_r _ [21, 22, 23, 24, 25, 26, 20, 27, 28, 54, 55, 56, 57, 58, 59, 60, 61, 62, 63, 64, 65] (by decide +kernel) (by decide +kernel)
set_option maxRecDepth 20000 in
theorem gX5_out_X2_line2Gives : GoodIn wsX5_out (wsV RX5 167 RX2 yX2_line2Gives wsX2_line2Gives) := goodIn_app (goodIn_of _ (by decide +kernel)) ggX5_out_X2_line2Gives
set_option maxRecDepth 20000 in
theorem ggX5_out_X5_lineCB2Gives : GoodIn wsX5_out wsX5_lineCB2Gives := goodIn_r _ [32, 4, 33, 34, 25, 26, 20, 27, 28, 35, 36, 37, 9, 38, 16, 17, 18, 19, 21, 22, 23, 24, 46, 47, 48, 49, 50, 51, 52, 53, 72, 73, 74, 75, 76, 54, 55, 56, 57, 58, 59, 60, 61, 62, 63, 64, 65] (by decide +kernel) (by decide +kernel)
set_option maxRecDepth 20000 in
theorem gX5_out_X5_lineCB2Gives : GoodIn wsX5_out (wsV RX5 170 RX5 yX5_lineCB2Gives wsX5_lineCB2Gives) := goodIn_app (goodIn_of _ (by decide +kernel)) ggX5_out_X5_lineCB2Gives
set_option maxRecDepth 20000 in
theorem ggX5_out_X0_call : GoodIn wsX5_out wsX0_call := goodIn_r _ [43, 44, 45, 77, 78] (by decide +kernel) (by decide +kernel)
set_option maxRecDepth 20000 in
theorem gX5_out_X0_call : GoodIn wsX5_out (wsV RX5 173 RX0 yX0_call wsX0_call) := goodIn_app (goodIn_of _ (by decide +kernel)) ggX5_out_X0_call
theorem dX5_out_0 : decode cX5_out 0 = .ok (.iload_n 1, 1) := by decide +kernel
theorem dX5_out_1 : decode cX5_out 1 = .ok (.tableswitch 100 0 4 #[35, 51, 71, 79, 84], 35) := by decide +kernel
theorem dX5_out_36 : decode cX5_out 36 = .ok (.aload_n 0, 1) := by decide +kernel
theorem dX5_out_37 : decode cX5_out 37 = .ok (.getfield 21, 3) := by decide +kernel
theorem dX5_out_40 : decode cX5_out 40 = .ok (.getfield 62, 3) := by decide +kernel
theorem dX5_out_43 : decode cX5_out 43 = .ok (.aload_n 0, 1) := by decide +kernel
theorem dX5_out_44 : decode cX5_out 44 = .ok (.getfield 21, 3) := by decide +kernel
theorem dX5_out_47 : decode cX5_out 47 = .ok (.getfield 72, 3) := by decide +kernel
theorem dX5_out_50 : decode cX5_out 50 = .ok (.iand, 1) := by decide +kernel
theorem dX5_out_51 : decode cX5_out 51 = .ok (.ireturn, 1) := by decide +kernel
theorem dX5_out_52 : decode cX5_out 52 = .ok (.aload_n 0, 1) := by decide +kernel
theorem dX5_out_53 : decode cX5_out 53 = .ok (.aload_n 0, 1) := by decide +kernel
theorem dX5_out_54 : decode cX5_out 54 = .ok (.getfield 25, 3) := by decide +kernel
theorem dX5_out_57 : decode cX5_out 57 = .ok (.getfield 62, 3) := by decide +kernel
theorem dX5_out_60 : decode cX5_out 60 = .ok (.invokevirtual 164, 3) := by decide +kernel
theorem dX5_out_63 : decode cX5_out 63 = .ok (.aload_n 0, 1) := by decide +kernel
theorem dX5_out_64 : decode cX5_out 64 = .ok (.getfield 25, 3) := by decide +kernel
theorem dX5_out_67 : decode cX5_out 67 = .ok (.getfield 72, 3) := by decide +kernel
theorem dX5_out_70 : decode cX5_out 70 = .ok (.iand, 1) := by decide +kernel
theorem dX5_out_71 : decode cX5_out 71 = .ok (.ireturn, 1) := by decide +kernel
theorem dX5_out_72 : decode cX5_out 72 = .ok (.aload_n 0, 1) := by decide +kernel
theorem dX5_out_73 : decode cX5_out 73 = .ok (.getfield 21, 3) := by decide +kernel
theorem dX5_out_76 : decode cX5_out 76 = .ok (.invokevirtual 167, 3) := by decide +kernel
theorem dX5_out_79 : decode cX5_out 79 = .ok (.ireturn, 1) := by decide +kernel
theorem dX5_out_80 : decode cX5_out 80 = .ok (.aload_n 0, 1) := by decide +kernel
theorem dX5_out_81 : decode cX5_out 81 = .ok (.invokevirtual 170, 3) := by decide +kernel
theorem dX5_out_84 : decode cX5_out 84 = .ok (.ireturn, 1) := by decide +kernel
theorem dX5_out_85 : decode cX5_out 85 = .ok (.aload_n 0, 1) := by decide +kernel
theorem dX5_out_86 : decode cX5_out 86 = .ok (.getfield 10, 3) := by decide +kernel
theorem dX5_out_89 : decode cX5_out 89 = .ok (.invokevirtual 173, 3) := by decide +kernel
theorem dX5_out_92 : decode cX5_out 92 = .ok (.ifCond .eq 7, 3) := by decide +kernel
theorem dX5_out_95 : decode cX5_out 95 = .ok (.iconst 1, 1) := by decide +kernel
theorem dX5_out_96 : decode cX5_out 96 = .ok (.goto 4, 3) := by decide +kernel
theorem dX5_out_99 : decode cX5_out 99 = .ok (.iconst 0, 1) := by decide +kernel
theorem dX5_out_100 : decode cX5_out 100 = .ok (.ireturn, 1) := by decide +kernel
theorem dX5_out_101 : decode cX5_out 101 = .ok (.new 55, 3) := by decide +kernel
theorem dX5_out_104 : decode cX5_out 104 = .ok (.dup, 1) := by decide +kernel
theorem dX5_out_105 : decode cX5_out 105 = .ok (.ldc 177, 2) := by decide +kernel
theorem dX5_out_107 : decode cX5_out 107 = .ok (.invokespecial 59, 3) := by decide +kernel
theorem dX5_out_110 : decode cX5_out 110 = .ok (.athrow, 1) := by decide +kernel
theorem dX5_told_0 : decode cX5_told 0 = .ok (.iload_n 1, 1) := by decide +kernel
theorem dX5_told_1 : decode cX5_told 1 = .ok (.tableswitch 120 0 6 #[43, 51, 59, 67, 75, 83, 115], 43) := by decide +kernel
theorem dX5_told_44 : decode cX5_told 44 = .ok (.aload_n 0, 1) := by decide +kernel
theorem dX5_told_45 : decode cX5_told 45 = .ok (.getfield 33, 3) := by decide +kernel
theorem dX5_told_48 : decode cX5_told 48 = .ok (.getfield 117, 3) := by decide +kernel
theorem dX5_told_51 : decode cX5_told 51 = .ok (.ireturn, 1) := by decide +kernel
theorem dX5_told_52 : decode cX5_told 52 = .ok (.aload_n 0, 1) := by decide +kernel
theorem dX5_told_53 : decode cX5_told 53 = .ok (.getfield 40, 3) := by decide +kernel
theorem dX5_told_56 : decode cX5_told 56 = .ok (.getfield 128, 3) := by decide +kernel
theorem dX5_told_59 : decode cX5_told 59 = .ok (.ireturn, 1) := by decide +kernel
theorem dX5_told_60 : decode cX5_told 60 = .ok (.aload_n 0, 1) := by decide +kernel
theorem dX5_told_61 : decode cX5_told 61 = .ok (.getfield 33, 3) := by decide +kernel
theorem dX5_told_64 : decode cX5_told 64 = .ok (.getfield 127, 3) := by decide +kernel
theorem dX5_told_67 : decode cX5_told 67 = .ok (.ireturn, 1) := by decide +kernel
theorem dX5_told_68 : decode cX5_told 68 = .ok (.aload_n 0, 1) := by decide +kernel
theorem dX5_told_69 : decode cX5_told 69 = .ok (.getfield 47, 3) := by decide +kernel
theorem dX5_told_72 : decode cX5_told 72 = .ok (.getfield 179, 3) := by decide +kernel
theorem dX5_told_75 : decode cX5_told 75 = .ok (.ireturn, 1) := by decide +kernel
theorem dX5_told_76 : decode cX5_told 76 = .ok (.aload_n 0, 1) := by decide +kernel
theorem dX5_told_77 : decode cX5_told 77 = .ok (.getfield 33, 3) := by decide +kernel
theorem dX5_told_80 : decode cX5_told 80 = .ok (.getfield 182, 3) := by decide +kernel
theorem dX5_told_83 : decode cX5_told 83 = .ok (.ireturn, 1) := by decide +kernel
theorem dX5_told_84 : decode cX5_told 84 = .ok (.aload_n 0, 1) := by decide +kernel
theorem dX5_told_85 : decode cX5_told 85 = .ok (.getfield 33, 3) := by decide +kernel
theorem dX5_told_88 : decode cX5_told 88 = .ok (.getfield 185, 3) := by decide +kernel
theorem dX5_told_91 : decode cX5_told 91 = .ok (.ifCond .eq 7, 3) := by decide +kernel
theorem dX5_told_94 : decode cX5_told 94 = .ok (.iconst 1, 1) := by decide +kernel
theorem dX5_told_95 : decode cX5_told 95 = .ok (.goto 4, 3) := by decide +kernel
theorem dX5_told_98 : decode cX5_told 98 = .ok (.iconst 0, 1) := by decide +kernel
theorem dX5_told_99 : decode cX5_told 99 = .ok (.aload_n 0, 1) := by decide +kernel
theorem dX5_told_100 : decode cX5_told 100 = .ok (.getfield 40, 3) := by decide +kernel
theorem dX5_told_103 : decode cX5_told 103 = .ok (.getfield 189, 3) := by decide +kernel
theorem dX5_told_106 : decode cX5_told 106 = .ok (.ifCond .eq 7, 3) := by decide +kernel
theorem dX5_told_109 : decode cX5_told 109 = .ok (.iconst 2, 1) := by decide +kernel
theorem dX5_told_110 : decode cX5_told 110 = .ok (.goto 4, 3) := by decide +kernel
theorem dX5_told_113 : decode cX5_told 113 = .ok (.iconst 0, 1) := by decide +kernel
theorem dX5_told_114 : decode cX5_told 114 = .ok (.iadd, 1) := by decide +kernel
theorem dX5_told_115 : decode cX5_told 115 = .ok (.ireturn, 1) := by decide +kernel
theorem dX5_told_116 : decode cX5_told 116 = .ok (.aload_n 0, 1) := by decide +kernel
theorem dX5_told_117 : decode cX5_told 117 = .ok (.getfield 190, 3) := by decide +kernel
theorem dX5_told_120 : decode cX5_told 120 = .ok (.ireturn, 1) := by decide +kernel
theorem dX5_told_121 : decode cX5_told 121 = .ok (.new 55, 3) := by decide +kernel
theorem dX5_told_124 : decode cX5_told 124 = .ok (.dup, 1) := by decide +kernel
theorem dX5_told_125 : decode cX5_told 125 = .ok (.ldc 193, 2) := by decide +kernel
theorem dX5_told_127 : decode cX5_told 127 = .ok (.invokespecial 59, 3) := by decide +kernel
theorem dX5_told_130 : decode cX5_told 130 = .ok (.athrow, 1) := by decide +kernel
set_option maxRecDepth 20000 in
theorem ggX5_reset_X0_clear : GoodIn wsX5_reset wsX0_clear := goodIn_r _ [13, 14, 15, 62, 63] (by decide +kernel) (by decide +kernel)
set_option maxRecDepth 20000 in
theorem gX5_reset_X0_clear : GoodIn wsX5_reset (wsV RX5 195 RX0 yX0_clear wsX0_clear) := goodIn_app (goodIn_of _ (by decide +kernel)) ggX5_reset_X0_clear
set_option maxRecDepth 20000 in
theorem ggX5_reset_X2_clear : GoodIn wsX5_reset wsX2_clear := goodIn_r _ [20, 21, 22, 23, 24, 25, 26, 64, 65, 66, 67, 68, 69, 70, 71, 72, 73, 74, 75] (by decide +kernel) (by decide +kernel)
set_option maxRecDepth 20000 in
theorem gX5_reset_X2_clear : GoodIn wsX5_reset (wsV RX5 198 RX2 yX2_clear wsX2_clear) := goodIn_app (goodIn_of _ (by decide +kernel)) ggX5_reset_X2_clear
set_option maxRecDepth 20000 in
theorem ggX5_reset_X3_clear : GoodIn wsX5_reset wsX3_clear := goodIn_r _ [31, 32, 33, 34, 35, 36, 76, 77, 78, 79, 80, 81] (by decide +kernel) (by decide +kernel)
set_option maxRecDepth 20000 in
theorem gX5_reset_X3_clear : GoodIn wsX5_reset (wsV RX5 199 RX3 yX3_clear wsX3_clear) := goodIn_app (goodIn_of _ (by decide +kernel)) ggX5_reset_X3_clear
set_option maxRecDepth 20000 in
theorem ggX5_reset_X4_clear : GoodIn wsX5_reset wsX4_clear := goodIn_r _ [41, 42, 43, 44, 82, 83, 84, 85] (by decide +kernel) (by decide +kernel)
set_option maxRecDepth 20000 in
theorem gX5_reset_X4_clear : GoodIn wsX5_reset (wsV RX5 200 RX4 yX4_clear wsX4_clear) := goodIn_app (goodIn_of _ (by decide +kernel)) ggX5_reset_X4_clear
set_option maxRecDepth 20000 in
theorem ggX5_reset_X1_clear : GoodIn wsX5_reset wsX1_clear := goodIn_r _ [49, 50, 51, 52, 53, 86, 87, 88, 89, 90] (by decide +kernel) (by decide +kernel)
set_option maxRecDepth 20000 in
theorem gX5_reset_X1_clear : GoodIn wsX5_reset (wsV RX5 201 RX1 yX1_clear wsX1_clear) := goodIn_app (goodIn_of _ (by decide +kernel)) ggX5_reset_X1_clear
theorem dX5_reset_0 : decode cX5_reset 0 = .ok (.aload_n 0, 1) := by decide +kernel
theorem dX5_reset_1 : decode cX5_reset 1 = .ok (.getfield 10, 3) := by decide +kernel
theorem dX5_reset_4 : decode cX5_reset 4 = .ok (.invokevirtual 195, 3) := by decide +kernel
theorem dX5_reset_7 : decode cX5_reset 7 = .ok (.aload_n 0, 1) := by decide +kernel
theorem dX5_reset_8 : decode cX5_reset 8 = .ok (.getfield 21, 3) := by decide +kernel
theorem dX5_reset_11 : decode cX5_reset 11 = .ok (.invokevirtual 198, 3) := by decide +kernel
theorem dX5_reset_14 : decode cX5_reset 14 = .ok (.aload_n 0, 1) := by decide +kernel
theorem dX5_reset_15 : decode cX5_reset 15 = .ok (.getfield 25, 3) := by decide +kernel
theorem dX5_reset_18 : decode cX5_reset 18 = .ok (.invokevirtual 198, 3) := by decide +kernel
theorem dX5_reset_21 : decode cX5_reset 21 = .ok (.aload_n 0, 1) := by decide +kernel
theorem dX5_reset_22 : decode cX5_reset 22 = .ok (.getfield 33, 3) := by decide +kernel
theorem dX5_reset_25 : decode cX5_reset 25 = .ok (.invokevirtual 199, 3) := by decide +kernel
theorem dX5_reset_28 : decode cX5_reset 28 = .ok (.aload_n 0, 1) := by decide +kernel
theorem dX5_reset_29 : decode cX5_reset 29 = .ok (.getfield 40, 3) := by decide +kernel
theorem dX5_reset_32 : decode cX5_reset 32 = .ok (.invokevirtual 200, 3) := by decide +kernel
theorem dX5_reset_35 : decode cX5_reset 35 = .ok (.aload_n 0, 1) := by decide +kernel
theorem dX5_reset_36 : decode cX5_reset 36 = .ok (.getfield 47, 3) := by decide +kernel
theorem dX5_reset_39 : decode cX5_reset 39 = .ok (.invokevirtual 201, 3) := by decide +kernel
theorem dX5_reset_42 : decode cX5_reset 42 = .ok (.aload_n 0, 1) := by decide +kernel
theorem dX5_reset_43 : decode cX5_reset 43 = .ok (.iconst 0, 1) := by decide +kernel
theorem dX5_reset_44 : decode cX5_reset 44 = .ok (.putfield 96, 3) := by decide +kernel
theorem dX5_reset_47 : decode cX5_reset 47 = .ok (.aload_n 0, 1) := by decide +kernel
theorem dX5_reset_48 : decode cX5_reset 48 = .ok (.iconst 0, 1) := by decide +kernel
theorem dX5_reset_49 : decode cX5_reset 49 = .ok (.putfield 190, 3) := by decide +kernel
theorem dX5_reset_52 : decode cX5_reset 52 = .ok (.return_, 1) := by decide +kernel
set_option maxRecDepth 20000 in
theorem ggX5_goOn_X5_controlHas : GoodIn wsX5_goOn wsX5_controlHas := goodIn_r _ [11, 12, 78, 79, 80, 81, 82, 83, 84, 85] (by decide +kernel) (by decide +kernel)
set_option maxRecDepth 20000 in
theorem gX5_goOn_X5_controlHas : GoodIn wsX5_goOn (wsV RX5 143 RX5 yX5_controlHas wsX5_controlHas) := goodIn_app (goodIn_of _ (by decide +kernel)) ggX5_goOn_X5_controlHas
set_option maxRecDepth 20000 in
theorem ggX5_goOn_X3_goOn : GoodIn wsX5_goOn wsX3_goOn := goodIn_r _ [17, 18, 19, 20, 16, 21, 22, 23, 24, 25, 26, 27, 28, 29, 30, 31, 32, 33, 34, 35, 36, 37, 38, 39, 40, 41, 42, 98, 99, 100, 101, 102, 103, 104, 105] (by decide +kernel) (by decide +kernel)
set_option maxRecDepth 20000 in
theorem gX5_goOn_X3_goOn : GoodIn wsX5_goOn (wsV RX5 202 RX3 yX3_goOn wsX3_goOn) := goodIn_app (goodIn_of _ (by decide +kernel)) ggX5_goOn_X3_goOn
set_option maxRecDepth 20000 in
theorem ggX5_goOn_X4_countDown : GoodIn wsX5_goOn wsX4_countDown := goodIn_r _ [47, 48, 49, 50, 51, 52, 33, 34, 35, 36, 37, 106, 107, 108, 109, 104, 105] (by decide +kernel) (by decide +kernel)
set_option maxRecDepth 20000 in
theorem gX5_goOn_X4_countDown : GoodIn wsX5_goOn (wsV RX5 146 RX4 yX4_countDown wsX4_countDown) := goodIn_app (goodIn_of _ (by decide +kernel)) ggX5_goOn_X4_countDown
set_option maxRecDepth 20000 in
theorem ggX5_goOn_X5_mode : GoodIn wsX5_goOn wsX5_mode := goodIn_r _ [56, 12, 78, 79, 80, 81, 82, 83, 84, 85] (by decide +kernel) (by decide +kernel)
set_option maxRecDepth 20000 in
theorem gX5_goOn_X5_mode : GoodIn wsX5_goOn (wsV RX5 205 RX5 yX5_mode wsX5_mode) := goodIn_app (goodIn_of _ (by decide +kernel)) ggX5_goOn_X5_mode
set_option maxRecDepth 20000 in
theorem ggX5_goOn_X1_goOn : GoodIn wsX5_goOn wsX1_goOn := goodIn_r _ [61, 62, 63, 64, 65, 66, 60, 67, 68, 69, 70, 71, 33, 34, 35, 36, 37, 110, 111, 112, 113, 114, 104, 105] (by decide +kernel) (by decide +kernel)
set_option maxRecDepth 20000 in
theorem gX5_goOn_X1_goOn : GoodIn wsX5_goOn (wsV RX5 211 RX1 yX1_goOn wsX1_goOn) := goodIn_app (goodIn_of _ (by decide +kernel)) ggX5_goOn_X1_goOn
set_option maxRecDepth 20000 in
theorem ggX5_goOn_X2_endCycle : GoodIn wsX5_goOn wsX2_endCycle := goodIn_r _ [76, 77, 86, 87, 88, 89, 90, 91, 92, 93, 94, 95, 96, 97] (by decide +kernel) (by decide +kernel)
set_option maxRecDepth 20000 in
theorem gX5_goOn_X2_endCycle : GoodIn wsX5_goOn (wsV RX5 214 RX2 yX2_endCycle wsX2_endCycle) := goodIn_app (goodIn_of _ (by decide +kernel)) ggX5_goOn_X2_endCycle
theorem dX5_goOn_0 : decode cX5_goOn 0 = .ok (.aload_n 0, 1) := by decide +kernel
theorem dX5_goOn_1 : decode cX5_goOn 1 = .ok (.getfield 33, 3) := by decide +kernel
theorem dX5_goOn_4 : decode cX5_goOn 4 = .ok (.iload_n 1, 1) := by decide +kernel
theorem dX5_goOn_5 : decode cX5_goOn 5 = .ok (.aload_n 0, 1) := by decide +kernel
theorem dX5_goOn_6 : decode cX5_goOn 6 = .ok (.bipush 64, 2) := by decide +kernel
theorem dX5_goOn_8 : decode cX5_goOn 8 = .ok (.invokevirtual 143, 3) := by decide +kernel
theorem dX5_goOn_11 : decode cX5_goOn 11 = .ok (.invokevirtual 202, 3) := by decide +kernel
theorem dX5_goOn_14 : decode cX5_goOn 14 = .ok (.aload_n 0, 1) := by decide +kernel
theorem dX5_goOn_15 : decode cX5_goOn 15 = .ok (.bipush 32, 2) := by decide +kernel
theorem dX5_goOn_17 : decode cX5_goOn 17 = .ok (.invokevirtual 143, 3) := by decide +kernel
theorem dX5_goOn_20 : decode cX5_goOn 20 = .ok (.ifCond .ne 11, 3) := by decide +kernel
theorem dX5_goOn_23 : decode cX5_goOn 23 = .ok (.aload_n 0, 1) := by decide +kernel
theorem dX5_goOn_24 : decode cX5_goOn 24 = .ok (.getfield 40, 3) := by decide +kernel
theorem dX5_goOn_27 : decode cX5_goOn 27 = .ok (.iload_n 1, 1) := by decide +kernel
theorem dX5_goOn_28 : decode cX5_goOn 28 = .ok (.invokevirtual 146, 3) := by decide +kernel
theorem dX5_goOn_31 : decode cX5_goOn 31 = .ok (.aload_n 0, 1) := by decide +kernel
theorem dX5_goOn_32 : decode cX5_goOn 32 = .ok (.getfield 47, 3) := by decide +kernel
theorem dX5_goOn_35 : decode cX5_goOn 35 = .ok (.iload_n 1, 1) := by decide +kernel
theorem dX5_goOn_36 : decode cX5_goOn 36 = .ok (.aload_n 0, 1) := by decide +kernel
theorem dX5_goOn_37 : decode cX5_goOn 37 = .ok (.invokevirtual 205, 3) := by decide +kernel
theorem dX5_goOn_40 : decode cX5_goOn 40 = .ok (.aload_n 0, 1) := by decide +kernel
theorem dX5_goOn_41 : decode cX5_goOn 41 = .ok (.getfield 25, 3) := by decide +kernel
theorem dX5_goOn_44 : decode cX5_goOn 44 = .ok (.getfield 208, 3) := by decide +kernel
theorem dX5_goOn_47 : decode cX5_goOn 47 = .ok (.invokevirtual 211, 3) := by decide +kernel
theorem dX5_goOn_50 : decode cX5_goOn 50 = .ok (.aload_n 0, 1) := by decide +kernel
theorem dX5_goOn_51 : decode cX5_goOn 51 = .ok (.getfield 21, 3) := by decide +kernel
theorem dX5_goOn_54 : decode cX5_goOn 54 = .ok (.invokevirtual 214, 3) := by decide +kernel
theorem dX5_goOn_57 : decode cX5_goOn 57 = .ok (.aload_n 0, 1) := by decide +kernel
theorem dX5_goOn_58 : decode cX5_goOn 58 = .ok (.getfield 25, 3) := by decide +kernel
theorem dX5_goOn_61 : decode cX5_goOn 61 = .ok (.invokevirtual 214, 3) := by decide +kernel
theorem dX5_goOn_64 : decode cX5_goOn 64 = .ok (.aload_n 0, 1) := by decide +kernel
theorem dX5_goOn_65 : decode cX5_goOn 65 = .ok (.dup, 1) := by decide +kernel
theorem dX5_goOn_66 : decode cX5_goOn 66 = .ok (.getfield 190, 3) := by decide +kernel
theorem dX5_goOn_69 : decode cX5_goOn 69 = .ok (.iload_n 1, 1) := by decide +kernel
theorem dX5_goOn_70 : decode cX5_goOn 70 = .ok (.iadd, 1) := by decide +kernel
theorem dX5_goOn_71 : decode cX5_goOn 71 = .ok (.putfield 190, 3) := by decide +kernel
theorem dX5_goOn_74 : decode cX5_goOn 74 = .ok (.return_, 1) := by decide +kernel
set_option maxRecDepth 20000 in
theorem ggX5_readPortA_X5_portA : GoodIn wsX5_readPortA wsX5_portA := goodIn_r _ [6, 1, 7, 8, 9, 5, 10, 11, 12, 13, 14, 15, 16, 17, 18, 19, 20, 21, 22, 23, 24, 25, 26, 27, 28, 49, 50, 51, 52, 53, 54, 55, 56, 57, 58, 59, 60, 61, 62, 63, 64, 65, 66, 67, 68, 69, 70] (by decide +kernel) (by decide +kernel)
set_option maxRecDepth 20000 in
theorem gX5_readPortA_X5_portA : GoodIn wsX5_readPortA (wsV RX5 135 RX5 yX5_portA wsX5_portA) := goodIn_app (goodIn_of _ (by decide +kernel)) ggX5_readPortA_X5_portA
set_option maxRecDepth 20000 in
theorem ggX5_readPortA_X2_touch : GoodIn wsX5_readPortA wsX2_touch := goodIn_r _ [32, 17, 18, 33, 34, 35, 36, 26, 37, 28, 38, 39, 40, 15, 41, 42, 57, 58, 59, 60, 61, 62, 63, 64, 65, 66, 67, 68, 69, 70] (by decide +kernel) (by decide +kernel)
set_option maxRecDepth 20000 in
theorem gX5_readPortA_X2_touch : GoodIn wsX5_readPortA (wsV RX5 66 RX2 yX2_touch wsX2_touch) := goodIn_app (goodIn_of _ (by decide +kernel)) ggX5_readPortA_X2_touch
set_option maxRecDepth 20000 in
theorem ggX5_readPortA_X2_giveTouch : GoodIn wsX5_readPortA wsX2_giveTouch := goodIn_r _ [46, 47, 48, 38, 39, 40, 15, 41, 42, 57, 58, 59, 60, 61, 62, 63, 64, 65, 66, 67, 68] (by decide +kernel) (by decide +kernel)
set_option maxRecDepth 20000 in
theorem gX5_readPortA_X2_giveTouch : GoodIn wsX5_readPortA (wsV RX5 69 RX2 yX2_giveTouch wsX2_giveTouch) := goodIn_app (goodIn_of _ (by decide +kernel)) ggX5_readPortA_X2_giveTouch
theorem dX5_readPortA_0 : decode cX5_readPortA 0 = .ok (.aload_n 0, 1) := by decide +kernel
theorem dX5_readPortA_1 : decode cX5_readPortA 1 = .ok (.invokevirtual 135, 3) := by decide +kernel
theorem dX5_readPortA_4 : decode cX5_readPortA 4 = .ok (.istore_n 1, 1) := by decide +kernel
theorem dX5_readPortA_5 : decode cX5_readPortA 5 = .ok (.aload_n 0, 1) := by decide +kernel
theorem dX5_readPortA_6 : decode cX5_readPortA 6 = .ok (.getfield 21, 3) := by decide +kernel
theorem dX5_readPortA_9 : decode cX5_readPortA 9 = .ok (.invokevirtual 66, 3) := by decide +kernel
theorem dX5_readPortA_12 : decode cX5_readPortA 12 = .ok (.aload_n 0, 1) := by decide +kernel
theorem dX5_readPortA_13 : decode cX5_readPortA 13 = .ok (.getfield 21, 3) := by decide +kernel
theorem dX5_readPortA_16 : decode cX5_readPortA 16 = .ok (.invokevirtual 69, 3) := by decide +kernel
theorem dX5_readPortA_19 : decode cX5_readPortA 19 = .ok (.iload_n 1, 1) := by decide +kernel
theorem dX5_readPortA_20 : decode cX5_readPortA 20 = .ok (.ireturn, 1) := by decide +kernel
set_option maxRecDepth 20000 in
theorem ggX5_readPortB_X5_controlHas : GoodIn wsX5_readPortB wsX5_controlHas := goodIn_r _ [6, 7, 44, 45, 46, 47, 48, 49, 50, 51] (by decide +kernel) (by decide +kernel)
set_option maxRecDepth 20000 in
theorem gX5_readPortB_X5_controlHas : GoodIn wsX5_readPortB (wsV RX5 143 RX5 yX5_controlHas wsX5_controlHas) := goodIn_app (goodIn_of _ (by decide +kernel)) ggX5_readPortB_X5_controlHas
set_option maxRecDepth 20000 in
theorem ggX5_readPortB_X2_port : GoodIn wsX5_readPortB wsX2_port := goodIn_r _ [12, 13, 14, 15, 16, 17, 18, 19, 20, 21, 22, 23, 24, 52, 53, 54, 55, 56, 57, 58, 59, 60, 61, 62, 63, 64, 65] (by decide +kernel) (by decide +kernel)
set_option maxRecDepth 20000 in
theorem gX5_readPortB_X2_port : GoodIn wsX5_readPortB (wsV RX5 217 RX2 yX2_port wsX2_port) := goodIn_app (goodIn_of _ (by decide +kernel)) ggX5_readPortB_X2_port
set_option maxRecDepth 20000 in
theorem ggX5_readPortB_X5_withTimersBit : GoodIn wsX5_readPortB wsX5_withTimersBit := goodIn_r _ [28, 29, 2, 3, 4, 5, 6, 7, 44, 45, 46, 47, 48, 49, 50, 51, 66, 67, 68, 69, 70, 71] (by decide +kernel) (by decide +kernel)
set_option maxRecDepth 20000 in
theorem gX5_readPortB_X5_withTimersBit : GoodIn wsX5_readPortB (wsV RX5 164 RX5 yX5_withTimersBit wsX5_withTimersBit) := goodIn_app (goodIn_of _ (by decide +kernel)) ggX5_readPortB_X5_withTimersBit
set_option maxRecDepth 20000 in
theorem ggX5_readPortB_X2_touch : GoodIn wsX5_readPortB wsX2_touch := goodIn_r _ [33, 13, 14, 34, 35, 36, 37, 22, 38, 24, 39, 40, 41, 11, 42, 43, 52, 53, 54, 55, 56, 57, 58, 59, 60, 61, 62, 63, 64, 65] (by decide +kernel) (by decide +kernel)
set_option maxRecDepth 20000 in
theorem gX5_readPortB_X2_touch : GoodIn wsX5_readPortB (wsV RX5 66 RX2 yX2_touch wsX2_touch) := goodIn_app (goodIn_of _ (by decide +kernel)) ggX5_readPortB_X2_touch
theorem dX5_readPortB_0 : decode cX5_readPortB 0 = .ok (.aload_n 0, 1) := by decide +kernel
theorem dX5_readPortB_1 : decode cX5_readPortB 1 = .ok (.aload_n 0, 1) := by decide +kernel
theorem dX5_readPortB_2 : decode cX5_readPortB 2 = .ok (.getfield 25, 3) := by decide +kernel
theorem dX5_readPortB_5 : decode cX5_readPortB 5 = .ok (.aload_n 0, 1) := by decide +kernel
theorem dX5_readPortB_6 : decode cX5_readPortB 6 = .ok (.iconst 2, 1) := by decide +kernel
theorem dX5_readPortB_7 : decode cX5_readPortB 7 = .ok (.invokevirtual 143, 3) := by decide +kernel
theorem dX5_readPortB_10 : decode cX5_readPortB 10 = .ok (.invokevirtual 217, 3) := by decide +kernel
theorem dX5_readPortB_13 : decode cX5_readPortB 13 = .ok (.invokevirtual 164, 3) := by decide +kernel
theorem dX5_readPortB_16 : decode cX5_readPortB 16 = .ok (.istore_n 1, 1) := by decide +kernel
theorem dX5_readPortB_17 : decode cX5_readPortB 17 = .ok (.aload_n 0, 1) := by decide +kernel
theorem dX5_readPortB_18 : decode cX5_readPortB 18 = .ok (.getfield 25, 3) := by decide +kernel
theorem dX5_readPortB_21 : decode cX5_readPortB 21 = .ok (.invokevirtual 66, 3) := by decide +kernel
theorem dX5_readPortB_24 : decode cX5_readPortB 24 = .ok (.iload_n 1, 1) := by decide +kernel
theorem dX5_readPortB_25 : decode cX5_readPortB 25 = .ok (.ireturn, 1) := by decide +kernel
set_option maxRecDepth 20000 in
theorem ggX5_portA_X5_controlHas : GoodIn wsX5_portA wsX5_controlHas := goodIn_r _ [6, 7, 25, 26, 27, 28, 29, 30, 31, 32] (by decide +kernel) (by decide +kernel)
set_option maxRecDepth 20000 in
theorem gX5_portA_X5_controlHas : GoodIn wsX5_portA (wsV RX5 143 RX5 yX5_controlHas wsX5_controlHas) := goodIn_app (goodIn_of _ (by decide +kernel)) ggX5_portA_X5_controlHas
set_option maxRecDepth 20000 in
theorem ggX5_portA_X2_port : GoodIn wsX5_portA wsX2_port := goodIn_r _ [12, 13, 14, 15, 16, 17, 18, 19, 20, 21, 22, 23, 24, 33, 34, 35, 36, 37, 38, 39, 40, 41, 42, 43, 44, 45, 46] (by decide +kernel) (by decide +kernel)
set_option maxRecDepth 20000 in
theorem gX5_portA_X2_port : GoodIn wsX5_portA (wsV RX5 217 RX2 yX2_port wsX2_port) := goodIn_app (goodIn_of _ (by decide +kernel)) ggX5_portA_X2_port
theorem dX5_portA_0 : decode cX5_portA 0 = .ok (.aload_n 0, 1) := by decide +kernel
theorem dX5_portA_1 : decode cX5_portA 1 = .ok (.getfield 21, 3) := by decide +kernel
theorem dX5_portA_4 : decode cX5_portA 4 = .ok (.aload_n 0, 1) := by decide +kernel
theorem dX5_portA_5 : decode cX5_portA 5 = .ok (.iconst 1, 1) := by decide +kernel
theorem dX5_portA_6 : decode cX5_portA 6 = .ok (.invokevirtual 143, 3) := by decide +kernel
theorem dX5_portA_9 : decode cX5_portA 9 = .ok (.invokevirtual 217, 3) := by decide +kernel
theorem dX5_portA_12 : decode cX5_portA 12 = .ok (.ireturn, 1) := by decide +kernel
set_option maxRecDepth 20000 in
theorem ggX5_withTimersBit_X5_controlHas : GoodIn wsX5_withTimersBit wsX5_controlHas := goodIn_r _ [6, 7, 8, 9, 10, 11, 12, 13, 14, 15] (by decide +kernel) (by decide +kernel)
set_option maxRecDepth 20000 in
theorem gX5_withTimersBit_X5_controlHas : GoodIn wsX5_withTimersBit (wsV RX5 143 RX5 yX5_controlHas wsX5_controlHas) := goodIn_app (goodIn_of _ (by decide +kernel)) ggX5_withTimersBit_X5_controlHas
theorem dX5_withTimersBit_0 : decode cX5_withTimersBit 0 = .ok (.aload_n 0, 1) := by decide +kernel
theorem dX5_withTimersBit_1 : decode cX5_withTimersBit 1 = .ok (.sipush 128, 3) := by decide +kernel
theorem dX5_withTimersBit_4 : decode cX5_withTimersBit 4 = .ok (.invokevirtual 143, 3) := by decide +kernel
theorem dX5_withTimersBit_7 : decode cX5_withTimersBit 7 = .ok (.ifCond .eq 22, 3) := by decide +kernel
theorem dX5_withTimersBit_10 : decode cX5_withTimersBit 10 = .ok (.iload_n 1, 1) := by decide +kernel
theorem dX5_withTimersBit_11 : decode cX5_withTimersBit 11 = .ok (.sipush (-129), 3) := by decide +kernel
theorem dX5_withTimersBit_14 : decode cX5_withTimersBit 14 = .ok (.iand, 1) := by decide +kernel
theorem dX5_withTimersBit_15 : decode cX5_withTimersBit 15 = .ok (.aload_n 0, 1) := by decide +kernel
theorem dX5_withTimersBit_16 : decode cX5_withTimersBit 16 = .ok (.getfield 33, 3) := by decide +kernel
theorem dX5_withTimersBit_19 : decode cX5_withTimersBit 19 = .ok (.getfield 182, 3) := by decide +kernel
theorem dX5_withTimersBit_22 : decode cX5_withTimersBit 22 = .ok (.bipush 7, 2) := by decide +kernel
theorem dX5_withTimersBit_24 : decode cX5_withTimersBit 24 = .ok (.ishl, 1) := by decide +kernel
theorem dX5_withTimersBit_25 : decode cX5_withTimersBit 25 = .ok (.ior, 1) := by decide +kernel
theorem dX5_withTimersBit_26 : decode cX5_withTimersBit 26 = .ok (.goto 4, 3) := by decide +kernel
theorem dX5_withTimersBit_29 : decode cX5_withTimersBit 29 = .ok (.iload_n 1, 1) := by decide +kernel
theorem dX5_withTimersBit_30 : decode cX5_withTimersBit 30 = .ok (.ireturn, 1) := by decide +kernel
set_option maxRecDepth 20000 in
theorem ggX5_lineCB2Gives_X2_wayOfLine2 : GoodIn wsX5_lineCB2Gives wsX2_wayOfLine2 := goodIn_r _ [7, 8, 35, 36, 37, 38, 39, 40, 41, 42, 43, 44, 45, 46] (by decide +kernel) (by decide +kernel)
set_option maxRecDepth 20000 in
theorem gX5_lineCB2Gives_X2_wayOfLine2 : GoodIn wsX5_lineCB2Gives (wsV RX5 221 RX2 yX2_wayOfLine2 wsX2_wayOfLine2) := goodIn_app (goodIn_of _ (by decide +kernel)) ggX5_lineCB2Gives_X2_wayOfLine2
set_option maxRecDepth 20000 in
theorem ggX5_lineCB2Gives_X5_mode : GoodIn wsX5_lineCB2Gives wsX5_mode := goodIn_r _ [13, 14, 22, 23, 24, 25, 26, 27, 28, 29] (by decide +kernel) (by decide +kernel)
set_option maxRecDepth 20000 in
theorem gX5_lineCB2Gives_X5_mode : GoodIn wsX5_lineCB2Gives (wsV RX5 205 RX5 yX5_mode wsX5_mode) := goodIn_app (goodIn_of _ (by decide +kernel)) ggX5_lineCB2Gives_X5_mode
set_option maxRecDepth 20000 in
theorem ggX5_lineCB2Gives_X2_line2Gives : GoodIn wsX5_lineCB2Gives wsX2_line2Gives := goodIn_r _ [18, 19, 20, 21, 4, 5, 6, 7, 8, 35, 36, 37, 38, 39, 40, 41, 42, 43, 44, 45, 46] (by decide +kernel) (by decide +kernel)
set_option maxRecDepth 20000 in
theorem gX5_lineCB2Gives_X2_line2Gives : GoodIn wsX5_lineCB2Gives (wsV RX5 167 RX2 yX2_line2Gives wsX2_line2Gives) := goodIn_app (goodIn_of _ (by decide +kernel)) ggX5_lineCB2Gives_X2_line2Gives
theorem dX5_lineCB2Gives_0 : decode cX5_lineCB2Gives 0 = .ok (.aload_n 0, 1) := by decide +kernel
theorem dX5_lineCB2Gives_1 : decode cX5_lineCB2Gives 1 = .ok (.getfield 25, 3) := by decide +kernel
theorem dX5_lineCB2Gives_4 : decode cX5_lineCB2Gives 4 = .ok (.invokevirtual 221, 3) := by decide +kernel
theorem dX5_lineCB2Gives_7 : decode cX5_lineCB2Gives 7 = .ok (.iconst 4, 1) := by decide +kernel
theorem dX5_lineCB2Gives_8 : decode cX5_lineCB2Gives 8 = .ok (.if_icmp .ge 16, 3) := by decide +kernel
theorem dX5_lineCB2Gives_11 : decode cX5_lineCB2Gives 11 = .ok (.aload_n 0, 1) := by decide +kernel
theorem dX5_lineCB2Gives_12 : decode cX5_lineCB2Gives 12 = .ok (.invokevirtual 205, 3) := by decide +kernel
theorem dX5_lineCB2Gives_15 : decode cX5_lineCB2Gives 15 = .ok (.bipush 6, 2) := by decide +kernel
theorem dX5_lineCB2Gives_17 : decode cX5_lineCB2Gives 17 = .ok (.if_icmp .ne 7, 3) := by decide +kernel
theorem dX5_lineCB2Gives_20 : decode cX5_lineCB2Gives 20 = .ok (.iconst 1, 1) := by decide +kernel
theorem dX5_lineCB2Gives_21 : decode cX5_lineCB2Gives 21 = .ok (.goto 4, 3) := by decide +kernel
theorem dX5_lineCB2Gives_24 : decode cX5_lineCB2Gives 24 = .ok (.iconst 0, 1) := by decide +kernel
theorem dX5_lineCB2Gives_25 : decode cX5_lineCB2Gives 25 = .ok (.istore_n 1, 1) := by decide +kernel
theorem dX5_lineCB2Gives_26 : decode cX5_lineCB2Gives 26 = .ok (.iload_n 1, 1) := by decide +kernel
theorem dX5_lineCB2Gives_27 : decode cX5_lineCB2Gives 27 = .ok (.ifCond .eq 13, 3) := by decide +kernel
theorem dX5_lineCB2Gives_30 : decode cX5_lineCB2Gives 30 = .ok (.aload_n 0, 1) := by decide +kernel
theorem dX5_lineCB2Gives_31 : decode cX5_lineCB2Gives 31 = .ok (.getfield 47, 3) := by decide +kernel
theorem dX5_lineCB2Gives_34 : decode cX5_lineCB2Gives 34 = .ok (.getfield 224, 3) := by decide +kernel
theorem dX5_lineCB2Gives_37 : decode cX5_lineCB2Gives 37 = .ok (.goto 10, 3) := by decide +kernel
theorem dX5_lineCB2Gives_40 : decode cX5_lineCB2Gives 40 = .ok (.aload_n 0, 1) := by decide +kernel
theorem dX5_lineCB2Gives_41 : decode cX5_lineCB2Gives 41 = .ok (.getfield 25, 3) := by decide +kernel
theorem dX5_lineCB2Gives_44 : decode cX5_lineCB2Gives 44 = .ok (.invokevirtual 167, 3) := by decide +kernel
theorem dX5_lineCB2Gives_47 : decode cX5_lineCB2Gives 47 = .ok (.ireturn, 1) := by decide +kernel
theorem dX5_mode_0 : decode cX5_mode 0 = .ok (.aload_n 0, 1) := by decide +kernel
theorem dX5_mode_1 : decode cX5_mode 1 = .ok (.getfield 96, 3) := by decide +kernel
theorem dX5_mode_4 : decode cX5_mode 4 = .ok (.iconst 2, 1) := by decide +kernel
theorem dX5_mode_5 : decode cX5_mode 5 = .ok (.ishr, 1) := by decide +kernel
theorem dX5_mode_6 : decode cX5_mode 6 = .ok (.bipush 7, 2) := by decide +kernel
theorem dX5_mode_8 : decode cX5_mode 8 = .ok (.iand, 1) := by decide +kernel
theorem dX5_mode_9 : decode cX5_mode 9 = .ok (.ireturn, 1) := by decide +kernel
theorem dX5_controlHas_0 : decode cX5_controlHas 0 = .ok (.aload_n 0, 1) := by decide +kernel
theorem dX5_controlHas_1 : decode cX5_controlHas 1 = .ok (.getfield 96, 3) := by decide +kernel
theorem dX5_controlHas_4 : decode cX5_controlHas 4 = .ok (.iload_n 1, 1) := by decide +kernel
theorem dX5_controlHas_5 : decode cX5_controlHas 5 = .ok (.iand, 1) := by decide +kernel
theorem dX5_controlHas_6 : decode cX5_controlHas 6 = .ok (.ifCond .eq 7, 3) := by decide +kernel
theorem dX5_controlHas_9 : decode cX5_controlHas 9 = .ok (.iconst 1, 1) := by decide +kernel
theorem dX5_controlHas_10 : decode cX5_controlHas 10 = .ok (.goto 4, 3) := by decide +kernel
theorem dX5_controlHas_13 : decode cX5_controlHas 13 = .ok (.iconst 0, 1) := by decide +kernel
theorem dX5_controlHas_14 : decode cX5_controlHas 14 = .ok (.ireturn, 1) := by decide +kernel
theorem dX5_isByte_0 : decode cX5_isByte 0 = .ok (.iload_n 0, 1) := by decide +kernel
theorem dX5_isByte_1 : decode cX5_isByte 1 = .ok (.ifCond .lt 14, 3) := by decide +kernel
theorem dX5_isByte_4 : decode cX5_isByte 4 = .ok (.iload_n 0, 1) := by decide +kernel
theorem dX5_isByte_5 : decode cX5_isByte 5 = .ok (.sipush 255, 3) := by decide +kernel
theorem dX5_isByte_8 : decode cX5_isByte 8 = .ok (.if_icmp .gt 7, 3) := by decide +kernel
theorem dX5_isByte_11 : decode cX5_isByte 11 = .ok (.iconst 1, 1) := by decide +kernel
theorem dX5_isByte_12 : decode cX5_isByte 12 = .ok (.goto 4, 3) := by decide +kernel
theorem dX5_isByte_15 : decode cX5_isByte 15 = .ok (.iconst 0, 1) := by decide +kernel
theorem dX5_isByte_16 : decode cX5_isByte 16 = .ok (.ireturn, 1) := by decide +kernel
theorem dX5_lowByte_0 : decode cX5_lowByte 0 = .ok (.iload_n 0, 1) := by decide +kernel
theorem dX5_lowByte_1 : decode cX5_lowByte 1 = .ok (.sipush 255, 3) := by decide +kernel
theorem dX5_lowByte_4 : decode cX5_lowByte 4 = .ok (.iand, 1) := by decide +kernel
theorem dX5_lowByte_5 : decode cX5_lowByte 5 = .ok (.ireturn, 1) := by decide +kernel
theorem dX5_highByte_0 : decode cX5_highByte 0 = .ok (.iload_n 0, 1) := by decide +kernel
theorem dX5_highByte_1 : decode cX5_highByte 1 = .ok (.bipush 8, 2) := by decide +kernel
theorem dX5_highByte_3 : decode cX5_highByte 3 = .ok (.ishr, 1) := by decide +kernel
theorem dX5_highByte_4 : decode cX5_highByte 4 = .ok (.ireturn, 1) := by decide +kernel
end
section
set_option maxRecDepth 20000 in
theorem ggX6_init_X6_clear : GoodIn wsX6_init wsX6_clear := goodIn_r _ [10, 11, 12, 13, 14, 15, 16, 17, 18, 19, 20, 21, 22, 23, 24, 25, 26, 27, 28, 29, 30, 31, 32, 33, 34, 35, 36, 37, 38, 39, 40, 41, 42, 43, 44, 45, 46, 47, 48, 49, 50, 51, 52, 53, 54, 55, 56, 57, 58, 59, 60, 61, 62, 63, 64, 65, 66, 67, 68] (by decide +kernel) (by decide +kernel)
set_option maxRecDepth 20000 in
theorem gX6_init_X6_clear : GoodIn wsX6_init (wsV RX6 13 RX6 yX6_clear wsX6_clear) := goodIn_app (goodIn_of _ (by decide +kernel)) ggX6_init_X6_clear
theorem dX6_init_0 : decode cX6_init 0 = .ok (.aload_n 0, 1) := by decide +kernel
theorem dX6_init_1 : decode cX6_init 1 = .ok (.invokespecial 1, 3) := by decide +kernel
theorem dX6_init_4 : decode cX6_init 4 = .ok (.aload_n 0, 1) := by decide +kernel
theorem dX6_init_5 : decode cX6_init 5 = .ok (.iconst 4, 1) := by decide +kernel
theorem dX6_init_6 : decode cX6_init 6 = .ok (.newarray .boolean, 2) := by decide +kernel
theorem dX6_init_8 : decode cX6_init 8 = .ok (.putfield 7, 3) := by decide +kernel
theorem dX6_init_11 : decode cX6_init 11 = .ok (.aload_n 0, 1) := by decide +kernel
theorem dX6_init_12 : decode cX6_init 12 = .ok (.invokevirtual 13, 3) := by decide +kernel
theorem dX6_init_15 : decode cX6_init 15 = .ok (.return_, 1) := by decide +kernel
theorem dX6_thrown_0 : decode cX6_thrown 0 = .ok (.aload_n 0, 1) := by decide +kernel
theorem dX6_thrown_1 : decode cX6_thrown 1 = .ok (.getfield 16, 3) := by decide +kernel
theorem dX6_thrown_4 : decode cX6_thrown 4 = .ok (.ireturn, 1) := by decide +kernel
theorem dX6_clear_0 : decode cX6_clear 0 = .ok (.aload_n 0, 1) := by decide +kernel
theorem dX6_clear_1 : decode cX6_clear 1 = .ok (.iconst 0, 1) := by decide +kernel
theorem dX6_clear_2 : decode cX6_clear 2 = .ok (.putfield 20, 3) := by decide +kernel
theorem dX6_clear_5 : decode cX6_clear 5 = .ok (.aload_n 0, 1) := by decide +kernel
theorem dX6_clear_6 : decode cX6_clear 6 = .ok (.iconst 0, 1) := by decide +kernel
theorem dX6_clear_7 : decode cX6_clear 7 = .ok (.putfield 23, 3) := by decide +kernel
theorem dX6_clear_10 : decode cX6_clear 10 = .ok (.aload_n 0, 1) := by decide +kernel
theorem dX6_clear_11 : decode cX6_clear 11 = .ok (.iconst 0, 1) := by decide +kernel
theorem dX6_clear_12 : decode cX6_clear 12 = .ok (.putfield 26, 3) := by decide +kernel
theorem dX6_clear_15 : decode cX6_clear 15 = .ok (.aload_n 0, 1) := by decide +kernel
theorem dX6_clear_16 : decode cX6_clear 16 = .ok (.iconst 0, 1) := by decide +kernel
theorem dX6_clear_17 : decode cX6_clear 17 = .ok (.putfield 29, 3) := by decide +kernel
theorem dX6_clear_20 : decode cX6_clear 20 = .ok (.aload_n 0, 1) := by decide +kernel
theorem dX6_clear_21 : decode cX6_clear 21 = .ok (.iconst 0, 1) := by decide +kernel
theorem dX6_clear_22 : decode cX6_clear 22 = .ok (.putfield 32, 3) := by decide +kernel
theorem dX6_clear_25 : decode cX6_clear 25 = .ok (.aload_n 0, 1) := by decide +kernel
theorem dX6_clear_26 : decode cX6_clear 26 = .ok (.iconst 0, 1) := by decide +kernel
theorem dX6_clear_27 : decode cX6_clear 27 = .ok (.putfield 35, 3) := by decide +kernel
theorem dX6_clear_30 : decode cX6_clear 30 = .ok (.aload_n 0, 1) := by decide +kernel
theorem dX6_clear_31 : decode cX6_clear 31 = .ok (.iconst 0, 1) := by decide +kernel
theorem dX6_clear_32 : decode cX6_clear 32 = .ok (.putfield 38, 3) := by decide +kernel
theorem dX6_clear_35 : decode cX6_clear 35 = .ok (.aload_n 0, 1) := by decide +kernel
theorem dX6_clear_36 : decode cX6_clear 36 = .ok (.iconst 0, 1) := by decide +kernel
theorem dX6_clear_37 : decode cX6_clear 37 = .ok (.putfield 41, 3) := by decide +kernel
theorem dX6_clear_40 : decode cX6_clear 40 = .ok (.aload_n 0, 1) := by decide +kernel
theorem dX6_clear_41 : decode cX6_clear 41 = .ok (.iconst 0, 1) := by decide +kernel
theorem dX6_clear_42 : decode cX6_clear 42 = .ok (.putfield 44, 3) := by decide +kernel
theorem dX6_clear_45 : decode cX6_clear 45 = .ok (.aload_n 0, 1) := by decide +kernel
theorem dX6_clear_46 : decode cX6_clear 46 = .ok (.iconst 0, 1) := by decide +kernel
theorem dX6_clear_47 : decode cX6_clear 47 = .ok (.putfield 47, 3) := by decide +kernel
theorem dX6_clear_50 : decode cX6_clear 50 = .ok (.aload_n 0, 1) := by decide +kernel
theorem dX6_clear_51 : decode cX6_clear 51 = .ok (.iconst 0, 1) := by decide +kernel
theorem dX6_clear_52 : decode cX6_clear 52 = .ok (.putfield 50, 3) := by decide +kernel
theorem dX6_clear_55 : decode cX6_clear 55 = .ok (.aload_n 0, 1) := by decide +kernel
theorem dX6_clear_56 : decode cX6_clear 56 = .ok (.iconst 0, 1) := by decide +kernel
theorem dX6_clear_57 : decode cX6_clear 57 = .ok (.putfield 54, 3) := by decide +kernel
theorem dX6_clear_60 : decode cX6_clear 60 = .ok (.aload_n 0, 1) := by decide +kernel
theorem dX6_clear_61 : decode cX6_clear 61 = .ok (.iconst 0, 1) := by decide +kernel
theorem dX6_clear_62 : decode cX6_clear 62 = .ok (.putfield 57, 3) := by decide +kernel
theorem dX6_clear_65 : decode cX6_clear 65 = .ok (.aload_n 0, 1) := by decide +kernel
theorem dX6_clear_66 : decode cX6_clear 66 = .ok (.iconst 0, 1) := by decide +kernel
theorem dX6_clear_67 : decode cX6_clear 67 = .ok (.putfield 60, 3) := by decide +kernel
theorem dX6_clear_70 : decode cX6_clear 70 = .ok (.aload_n 0, 1) := by decide +kernel
theorem dX6_clear_71 : decode cX6_clear 71 = .ok (.iconst 0, 1) := by decide +kernel
theorem dX6_clear_72 : decode cX6_clear 72 = .ok (.putfield 63, 3) := by decide +kernel
theorem dX6_clear_75 : decode cX6_clear 75 = .ok (.aload_n 0, 1) := by decide +kernel
theorem dX6_clear_76 : decode cX6_clear 76 = .ok (.iconst 0, 1) := by decide +kernel
theorem dX6_clear_77 : decode cX6_clear 77 = .ok (.putfield 66, 3) := by decide +kernel
theorem dX6_clear_80 : decode cX6_clear 80 = .ok (.aload_n 0, 1) := by decide +kernel
theorem dX6_clear_81 : decode cX6_clear 81 = .ok (.iconst 0, 1) := by decide +kernel
theorem dX6_clear_82 : decode cX6_clear 82 = .ok (.putfield 69, 3) := by decide +kernel
theorem dX6_clear_85 : decode cX6_clear 85 = .ok (.aload_n 0, 1) := by decide +kernel
theorem dX6_clear_86 : decode cX6_clear 86 = .ok (.iconst 0, 1) := by decide +kernel
theorem dX6_clear_87 : decode cX6_clear 87 = .ok (.putfield 72, 3) := by decide +kernel
theorem dX6_clear_90 : decode cX6_clear 90 = .ok (.aload_n 0, 1) := by decide +kernel
theorem dX6_clear_91 : decode cX6_clear 91 = .ok (.iconst 1, 1) := by decide +kernel
theorem dX6_clear_92 : decode cX6_clear 92 = .ok (.putfield 75, 3) := by decide +kernel
theorem dX6_clear_95 : decode cX6_clear 95 = .ok (.aload_n 0, 1) := by decide +kernel
theorem dX6_clear_96 : decode cX6_clear 96 = .ok (.iconst 0, 1) := by decide +kernel
theorem dX6_clear_97 : decode cX6_clear 97 = .ok (.putfield 78, 3) := by decide +kernel
theorem dX6_clear_100 : decode cX6_clear 100 = .ok (.aload_n 0, 1) := by decide +kernel
theorem dX6_clear_101 : decode cX6_clear 101 = .ok (.iconst 0, 1) := by decide +kernel
theorem dX6_clear_102 : decode cX6_clear 102 = .ok (.putfield 81, 3) := by decide +kernel
theorem dX6_clear_105 : decode cX6_clear 105 = .ok (.aload_n 0, 1) := by decide +kernel
theorem dX6_clear_106 : decode cX6_clear 106 = .ok (.iconst 0, 1) := by decide +kernel
theorem dX6_clear_107 : decode cX6_clear 107 = .ok (.putfield 84, 3) := by decide +kernel
theorem dX6_clear_110 : decode cX6_clear 110 = .ok (.aload_n 0, 1) := by decide +kernel
theorem dX6_clear_111 : decode cX6_clear 111 = .ok (.iconst 0, 1) := by decide +kernel
theorem dX6_clear_112 : decode cX6_clear 112 = .ok (.putfield 87, 3) := by decide +kernel
theorem dX6_clear_115 : decode cX6_clear 115 = .ok (.aload_n 0, 1) := by decide +kernel
theorem dX6_clear_116 : decode cX6_clear 116 = .ok (.iconst 0, 1) := by decide +kernel
theorem dX6_clear_117 : decode cX6_clear 117 = .ok (.putfield 90, 3) := by decide +kernel
theorem dX6_clear_120 : decode cX6_clear 120 = .ok (.aload_n 0, 1) := by decide +kernel
theorem dX6_clear_121 : decode cX6_clear 121 = .ok (.iconst 0, 1) := by decide +kernel
theorem dX6_clear_122 : decode cX6_clear 122 = .ok (.putfield 93, 3) := by decide +kernel
theorem dX6_clear_125 : decode cX6_clear 125 = .ok (.aload_n 0, 1) := by decide +kernel
theorem dX6_clear_126 : decode cX6_clear 126 = .ok (.iconst 1, 1) := by decide +kernel
theorem dX6_clear_127 : decode cX6_clear 127 = .ok (.putfield 96, 3) := by decide +kernel
theorem dX6_clear_130 : decode cX6_clear 130 = .ok (.aload_n 0, 1) := by decide +kernel
theorem dX6_clear_131 : decode cX6_clear 131 = .ok (.iconst 0, 1) := by decide +kernel
theorem dX6_clear_132 : decode cX6_clear 132 = .ok (.putfield 99, 3) := by decide +kernel
theorem dX6_clear_135 : decode cX6_clear 135 = .ok (.return_, 1) := by decide +kernel
set_option maxRecDepth 20000 in
theorem ggX6_reset_X6_clear : GoodIn wsX6_reset wsX6_clear := goodIn_r _ [6, 7, 8, 9, 10, 11, 12, 13, 14, 15, 16, 17, 18, 19, 20, 21, 22, 23, 24, 25, 26, 27, 28, 29, 30, 31, 32, 33, 34, 35, 36, 37, 38, 39, 40, 41, 42, 43, 44, 45, 46, 47, 48, 49, 50, 51, 52, 53, 54, 55, 56, 57, 58, 59, 60, 61, 62, 63, 64] (by decide +kernel) (by decide +kernel)
set_option maxRecDepth 20000 in
theorem gX6_reset_X6_clear : GoodIn wsX6_reset (wsV RX6 13 RX6 yX6_clear wsX6_clear) := goodIn_app (goodIn_of _ (by decide +kernel)) ggX6_reset_X6_clear
theorem dX6_reset_0 : decode cX6_reset 0 = .ok (.aload_n 0, 1) := by decide +kernel
theorem dX6_reset_1 : decode cX6_reset 1 = .ok (.iconst 0, 1) := by decide +kernel
theorem dX6_reset_2 : decode cX6_reset 2 = .ok (.putfield 16, 3) := by decide +kernel
theorem dX6_reset_5 : decode cX6_reset 5 = .ok (.aload_n 0, 1) := by decide +kernel
theorem dX6_reset_6 : decode cX6_reset 6 = .ok (.invokevirtual 13, 3) := by decide +kernel
theorem dX6_reset_9 : decode cX6_reset 9 = .ok (.return_, 1) := by decide +kernel
theorem dX6_has_0 : decode cX6_has 0 = .ok (.aload_n 0, 1) := by decide +kernel
theorem dX6_has_1 : decode cX6_has 1 = .ok (.getfield 38, 3) := by decide +kernel
theorem dX6_has_4 : decode cX6_has 4 = .ok (.iload_n 1, 1) := by decide +kernel
theorem dX6_has_5 : decode cX6_has 5 = .ok (.ishr, 1) := by decide +kernel
theorem dX6_has_6 : decode cX6_has 6 = .ok (.iconst 1, 1) := by decide +kernel
theorem dX6_has_7 : decode cX6_has 7 = .ok (.iand, 1) := by decide +kernel
theorem dX6_has_8 : decode cX6_has 8 = .ok (.iconst 1, 1) := by decide +kernel
theorem dX6_has_9 : decode cX6_has 9 = .ok (.if_icmp .ne 7, 3) := by decide +kernel
theorem dX6_has_12 : decode cX6_has 12 = .ok (.iconst 1, 1) := by decide +kernel
theorem dX6_has_13 : decode cX6_has 13 = .ok (.goto 4, 3) := by decide +kernel
theorem dX6_has_16 : decode cX6_has 16 = .ok (.iconst 0, 1) := by decide +kernel
theorem dX6_has_17 : decode cX6_has 17 = .ok (.ireturn, 1) := by decide +kernel
theorem dX6_set_0 : decode cX6_set 0 = .ok (.aload_n 0, 1) := by decide +kernel
theorem dX6_set_1 : decode cX6_set 1 = .ok (.aload_n 0, 1) := by decide +kernel
theorem dX6_set_2 : decode cX6_set 2 = .ok (.getfield 38, 3) := by decide +kernel
theorem dX6_set_5 : decode cX6_set 5 = .ok (.iconst 1, 1) := by decide +kernel
theorem dX6_set_6 : decode cX6_set 6 = .ok (.iload_n 1, 1) := by decide +kernel
theorem dX6_set_7 : decode cX6_set 7 = .ok (.ishl, 1) := by decide +kernel
theorem dX6_set_8 : decode cX6_set 8 = .ok (.ior, 1) := by decide +kernel
theorem dX6_set_9 : decode cX6_set 9 = .ok (.putfield 38, 3) := by decide +kernel
theorem dX6_set_12 : decode cX6_set 12 = .ok (.return_, 1) := by decide +kernel
theorem dX6_drop_0 : decode cX6_drop 0 = .ok (.aload_n 0, 1) := by decide +kernel
theorem dX6_drop_1 : decode cX6_drop 1 = .ok (.aload_n 0, 1) := by decide +kernel
theorem dX6_drop_2 : decode cX6_drop 2 = .ok (.getfield 38, 3) := by decide +kernel
theorem dX6_drop_5 : decode cX6_drop 5 = .ok (.iconst 1, 1) := by decide +kernel
theorem dX6_drop_6 : decode cX6_drop 6 = .ok (.iload_n 1, 1) := by decide +kernel
theorem dX6_drop_7 : decode cX6_drop 7 = .ok (.ishl, 1) := by decide +kernel
theorem dX6_drop_8 : decode cX6_drop 8 = .ok (.iconst (-1), 1) := by decide +kernel
theorem dX6_drop_9 : decode cX6_drop 9 = .ok (.ixor, 1) := by decide +kernel
theorem dX6_drop_10 : decode cX6_drop 10 = .ok (.iand, 1) := by decide +kernel
theorem dX6_drop_11 : decode cX6_drop 11 = .ok (.putfield 38, 3) := by decide +kernel
theorem dX6_drop_14 : decode cX6_drop 14 = .ok (.return_, 1) := by decide +kernel
theorem dX6_allFlags_0 : decode cX6_allFlags 0 = .ok (.aload_n 0, 1) := by decide +kernel
theorem dX6_allFlags_1 : decode cX6_allFlags 1 = .ok (.getfield 38, 3) := by decide +kernel
theorem dX6_allFlags_4 : decode cX6_allFlags 4 = .ok (.aload_n 0, 1) := by decide +kernel
theorem dX6_allFlags_5 : decode cX6_allFlags 5 = .ok (.getfield 41, 3) := by decide +kernel
theorem dX6_allFlags_8 : decode cX6_allFlags 8 = .ok (.iand, 1) := by decide +kernel
theorem dX6_allFlags_9 : decode cX6_allFlags 9 = .ok (.ifCond .eq 14, 3) := by decide +kernel
theorem dX6_allFlags_12 : decode cX6_allFlags 12 = .ok (.aload_n 0, 1) := by decide +kernel
theorem dX6_allFlags_13 : decode cX6_allFlags 13 = .ok (.getfield 38, 3) := by decide +kernel
theorem dX6_allFlags_16 : decode cX6_allFlags 16 = .ok (.sipush 128, 3) := by decide +kernel
theorem dX6_allFlags_19 : decode cX6_allFlags 19 = .ok (.ior, 1) := by decide +kernel
theorem dX6_allFlags_20 : decode cX6_allFlags 20 = .ok (.goto 7, 3) := by decide +kernel
theorem dX6_allFlags_23 : decode cX6_allFlags 23 = .ok (.aload_n 0, 1) := by decide +kernel
theorem dX6_allFlags_24 : decode cX6_allFlags 24 = .ok (.getfield 38, 3) := by decide +kernel
theorem dX6_allFlags_27 : decode cX6_allFlags 27 = .ok (.ireturn, 1) := by decide +kernel
theorem dX6_wayA_0 : decode cX6_wayA 0 = .ok (.aload_n 0, 1) := by decide +kernel
theorem dX6_wayA_1 : decode cX6_wayA 1 = .ok (.getfield 35, 3) := by decide +kernel
theorem dX6_wayA_4 : decode cX6_wayA 4 = .ok (.iconst 1, 1) := by decide +kernel
theorem dX6_wayA_5 : decode cX6_wayA 5 = .ok (.ishr, 1) := by decide +kernel
theorem dX6_wayA_6 : decode cX6_wayA 6 = .ok (.bipush 7, 2) := by decide +kernel
theorem dX6_wayA_8 : decode cX6_wayA 8 = .ok (.iand, 1) := by decide +kernel
theorem dX6_wayA_9 : decode cX6_wayA 9 = .ok (.ireturn, 1) := by decide +kernel
theorem dX6_wayB_0 : decode cX6_wayB 0 = .ok (.aload_n 0, 1) := by decide +kernel
theorem dX6_wayB_1 : decode cX6_wayB 1 = .ok (.getfield 35, 3) := by decide +kernel
theorem dX6_wayB_4 : decode cX6_wayB 4 = .ok (.iconst 5, 1) := by decide +kernel
theorem dX6_wayB_5 : decode cX6_wayB 5 = .ok (.ishr, 1) := by decide +kernel
theorem dX6_wayB_6 : decode cX6_wayB 6 = .ok (.bipush 7, 2) := by decide +kernel
theorem dX6_wayB_8 : decode cX6_wayB 8 = .ok (.iand, 1) := by decide +kernel
theorem dX6_wayB_9 : decode cX6_wayB 9 = .ok (.ireturn, 1) := by decide +kernel
theorem dX6_mode_0 : decode cX6_mode 0 = .ok (.aload_n 0, 1) := by decide +kernel
theorem dX6_mode_1 : decode cX6_mode 1 = .ok (.getfield 32, 3) := by decide +kernel
theorem dX6_mode_4 : decode cX6_mode 4 = .ok (.iconst 2, 1) := by decide +kernel
theorem dX6_mode_5 : decode cX6_mode 5 = .ok (.ishr, 1) := by decide +kernel
theorem dX6_mode_6 : decode cX6_mode 6 = .ok (.bipush 7, 2) := by decide +kernel
theorem dX6_mode_8 : decode cX6_mode 8 = .ok (.iand, 1) := by decide +kernel
theorem dX6_mode_9 : decode cX6_mode 9 = .ok (.ireturn, 1) := by decide +kernel
set_option maxRecDepth 20000 in
theorem ggX6_touchA_X6_drop : GoodIn wsX6_touchA wsX6_drop := goodIn_r _ [7, 8, 14, 15, 16, 17, 18, 19, 20, 21, 22, 23, 24, 25, 26, 27, 28, 29, 30, 31, 32, 33, 34, 35, 36, 37, 38, 39, 40, 41, 42, 43, 44] (by decide +kernel) (by decide +kernel)
set_option maxRecDepth 20000 in
theorem gX6_touchA_X6_drop : GoodIn wsX6_touchA (wsV RX6 102 RX6 yX6_drop wsX6_drop) := goodIn_app (goodIn_of _ (by decide +kernel)) ggX6_touchA_X6_drop
set_option maxRecDepth 20000 in
theorem ggX6_touchA_X6_wayA : GoodIn wsX6_touchA wsX6_wayA := goodIn_r _ [12, 13, 14, 15, 16, 17, 18, 19, 20, 21, 22, 23, 24, 25, 26, 27, 28, 29, 30, 31, 32, 33, 34, 35, 36, 37, 38, 39, 40, 41, 42, 43, 44] (by decide +kernel) (by decide +kernel)
set_option maxRecDepth 20000 in
theorem gX6_touchA_X6_wayA : GoodIn wsX6_touchA (wsV RX6 106 RX6 yX6_wayA wsX6_wayA) := goodIn_app (goodIn_of _ (by decide +kernel)) ggX6_touchA_X6_wayA
theorem dX6_touchA_0 : decode cX6_touchA 0 = .ok (.aload_n 0, 1) := by decide +kernel
theorem dX6_touchA_1 : decode cX6_touchA 1 = .ok (.iconst 1, 1) := by decide +kernel
theorem dX6_touchA_2 : decode cX6_touchA 2 = .ok (.invokevirtual 102, 3) := by decide +kernel
theorem dX6_touchA_5 : decode cX6_touchA 5 = .ok (.aload_n 0, 1) := by decide +kernel
theorem dX6_touchA_6 : decode cX6_touchA 6 = .ok (.invokevirtual 106, 3) := by decide +kernel
theorem dX6_touchA_9 : decode cX6_touchA 9 = .ok (.iconst 1, 1) := by decide +kernel
theorem dX6_touchA_10 : decode cX6_touchA 10 = .ok (.if_icmp .eq 16, 3) := by decide +kernel
theorem dX6_touchA_13 : decode cX6_touchA 13 = .ok (.aload_n 0, 1) := by decide +kernel
theorem dX6_touchA_14 : decode cX6_touchA 14 = .ok (.invokevirtual 106, 3) := by decide +kernel
theorem dX6_touchA_17 : decode cX6_touchA 17 = .ok (.iconst 3, 1) := by decide +kernel
theorem dX6_touchA_18 : decode cX6_touchA 18 = .ok (.if_icmp .eq 8, 3) := by decide +kernel
theorem dX6_touchA_21 : decode cX6_touchA 21 = .ok (.aload_n 0, 1) := by decide +kernel
theorem dX6_touchA_22 : decode cX6_touchA 22 = .ok (.iconst 0, 1) := by decide +kernel
theorem dX6_touchA_23 : decode cX6_touchA 23 = .ok (.invokevirtual 102, 3) := by decide +kernel
theorem dX6_touchA_26 : decode cX6_touchA 26 = .ok (.aload_n 0, 1) := by decide +kernel
theorem dX6_touchA_27 : decode cX6_touchA 27 = .ok (.aload_n 0, 1) := by decide +kernel
theorem dX6_touchA_28 : decode cX6_touchA 28 = .ok (.getfield 50, 3) := by decide +kernel
theorem dX6_touchA_31 : decode cX6_touchA 31 = .ok (.ifCond .ne 11, 3) := by decide +kernel
theorem dX6_touchA_34 : decode cX6_touchA 34 = .ok (.aload_n 0, 1) := by decide +kernel
theorem dX6_touchA_35 : decode cX6_touchA 35 = .ok (.invokevirtual 106, 3) := by decide +kernel
theorem dX6_touchA_38 : decode cX6_touchA 38 = .ok (.iconst 4, 1) := by decide +kernel
theorem dX6_touchA_39 : decode cX6_touchA 39 = .ok (.if_icmp .ne 7, 3) := by decide +kernel
theorem dX6_touchA_42 : decode cX6_touchA 42 = .ok (.iconst 1, 1) := by decide +kernel
theorem dX6_touchA_43 : decode cX6_touchA 43 = .ok (.goto 4, 3) := by decide +kernel
theorem dX6_touchA_46 : decode cX6_touchA 46 = .ok (.iconst 0, 1) := by decide +kernel
theorem dX6_touchA_47 : decode cX6_touchA 47 = .ok (.putfield 50, 3) := by decide +kernel
theorem dX6_touchA_50 : decode cX6_touchA 50 = .ok (.aload_n 0, 1) := by decide +kernel
theorem dX6_touchA_51 : decode cX6_touchA 51 = .ok (.aload_n 0, 1) := by decide +kernel
theorem dX6_touchA_52 : decode cX6_touchA 52 = .ok (.getfield 54, 3) := by decide +kernel
theorem dX6_touchA_55 : decode cX6_touchA 55 = .ok (.ifCond .ne 11, 3) := by decide +kernel
theorem dX6_touchA_58 : decode cX6_touchA 58 = .ok (.aload_n 0, 1) := by decide +kernel
theorem dX6_touchA_59 : decode cX6_touchA 59 = .ok (.invokevirtual 106, 3) := by decide +kernel
theorem dX6_touchA_62 : decode cX6_touchA 62 = .ok (.iconst 5, 1) := by decide +kernel
theorem dX6_touchA_63 : decode cX6_touchA 63 = .ok (.if_icmp .ne 7, 3) := by decide +kernel
theorem dX6_touchA_66 : decode cX6_touchA 66 = .ok (.iconst 1, 1) := by decide +kernel
theorem dX6_touchA_67 : decode cX6_touchA 67 = .ok (.goto 4, 3) := by decide +kernel
theorem dX6_touchA_70 : decode cX6_touchA 70 = .ok (.iconst 0, 1) := by decide +kernel
theorem dX6_touchA_71 : decode cX6_touchA 71 = .ok (.putfield 54, 3) := by decide +kernel
theorem dX6_touchA_74 : decode cX6_touchA 74 = .ok (.return_, 1) := by decide +kernel
set_option maxRecDepth 20000 in
theorem ggX6_touchB_X6_drop : GoodIn wsX6_touchB wsX6_drop := goodIn_r _ [7, 8, 14, 15, 16, 17, 18, 19, 20, 21, 22, 23, 24, 25, 26, 27, 28, 29, 30, 31, 32, 33, 34, 35, 36, 37, 38, 39, 40, 41, 42, 43, 44] (by decide +kernel) (by decide +kernel)
set_option maxRecDepth 20000 in
theorem gX6_touchB_X6_drop : GoodIn wsX6_touchB (wsV RX6 102 RX6 yX6_drop wsX6_drop) := goodIn_app (goodIn_of _ (by decide +kernel)) ggX6_touchB_X6_drop
set_option maxRecDepth 20000 in
theorem ggX6_touchB_X6_wayB : GoodIn wsX6_touchB wsX6_wayB := goodIn_r _ [12, 13, 14, 15, 16, 17, 18, 19, 20, 21, 22, 23, 24, 25, 26, 27, 28, 29, 30, 31, 32, 33, 34, 35, 36, 37, 38, 39, 40, 41, 42, 43, 44] (by decide +kernel) (by decide +kernel)
set_option maxRecDepth 20000 in
theorem gX6_touchB_X6_wayB : GoodIn wsX6_touchB (wsV RX6 110 RX6 yX6_wayB wsX6_wayB) := goodIn_app (goodIn_of _ (by decide +kernel)) ggX6_touchB_X6_wayB
theorem dX6_touchB_0 : decode cX6_touchB 0 = .ok (.aload_n 0, 1) := by decide +kernel
theorem dX6_touchB_1 : decode cX6_touchB 1 = .ok (.iconst 4, 1) := by decide +kernel
theorem dX6_touchB_2 : decode cX6_touchB 2 = .ok (.invokevirtual 102, 3) := by decide +kernel
theorem dX6_touchB_5 : decode cX6_touchB 5 = .ok (.aload_n 0, 1) := by decide +kernel
theorem dX6_touchB_6 : decode cX6_touchB 6 = .ok (.invokevirtual 110, 3) := by decide +kernel
theorem dX6_touchB_9 : decode cX6_touchB 9 = .ok (.iconst 1, 1) := by decide +kernel
theorem dX6_touchB_10 : decode cX6_touchB 10 = .ok (.if_icmp .eq 16, 3) := by decide +kernel
theorem dX6_touchB_13 : decode cX6_touchB 13 = .ok (.aload_n 0, 1) := by decide +kernel
theorem dX6_touchB_14 : decode cX6_touchB 14 = .ok (.invokevirtual 110, 3) := by decide +kernel
theorem dX6_touchB_17 : decode cX6_touchB 17 = .ok (.iconst 3, 1) := by decide +kernel
theorem dX6_touchB_18 : decode cX6_touchB 18 = .ok (.if_icmp .eq 8, 3) := by decide +kernel
theorem dX6_touchB_21 : decode cX6_touchB 21 = .ok (.aload_n 0, 1) := by decide +kernel
theorem dX6_touchB_22 : decode cX6_touchB 22 = .ok (.iconst 3, 1) := by decide +kernel
theorem dX6_touchB_23 : decode cX6_touchB 23 = .ok (.invokevirtual 102, 3) := by decide +kernel
theorem dX6_touchB_26 : decode cX6_touchB 26 = .ok (.aload_n 0, 1) := by decide +kernel
theorem dX6_touchB_27 : decode cX6_touchB 27 = .ok (.aload_n 0, 1) := by decide +kernel
theorem dX6_touchB_28 : decode cX6_touchB 28 = .ok (.getfield 57, 3) := by decide +kernel
theorem dX6_touchB_31 : decode cX6_touchB 31 = .ok (.ifCond .ne 15, 3) := by decide +kernel
theorem dX6_touchB_34 : decode cX6_touchB 34 = .ok (.iload_n 1, 1) := by decide +kernel
theorem dX6_touchB_35 : decode cX6_touchB 35 = .ok (.ifCond .eq 15, 3) := by decide +kernel
theorem dX6_touchB_38 : decode cX6_touchB 38 = .ok (.aload_n 0, 1) := by decide +kernel
theorem dX6_touchB_39 : decode cX6_touchB 39 = .ok (.invokevirtual 110, 3) := by decide +kernel
theorem dX6_touchB_42 : decode cX6_touchB 42 = .ok (.iconst 4, 1) := by decide +kernel
theorem dX6_touchB_43 : decode cX6_touchB 43 = .ok (.if_icmp .ne 7, 3) := by decide +kernel
theorem dX6_touchB_46 : decode cX6_touchB 46 = .ok (.iconst 1, 1) := by decide +kernel
theorem dX6_touchB_47 : decode cX6_touchB 47 = .ok (.goto 4, 3) := by decide +kernel
theorem dX6_touchB_50 : decode cX6_touchB 50 = .ok (.iconst 0, 1) := by decide +kernel
theorem dX6_touchB_51 : decode cX6_touchB 51 = .ok (.putfield 57, 3) := by decide +kernel
theorem dX6_touchB_54 : decode cX6_touchB 54 = .ok (.aload_n 0, 1) := by decide +kernel
theorem dX6_touchB_55 : decode cX6_touchB 55 = .ok (.aload_n 0, 1) := by decide +kernel
theorem dX6_touchB_56 : decode cX6_touchB 56 = .ok (.getfield 60, 3) := by decide +kernel
theorem dX6_touchB_59 : decode cX6_touchB 59 = .ok (.ifCond .ne 15, 3) := by decide +kernel
theorem dX6_touchB_62 : decode cX6_touchB 62 = .ok (.iload_n 1, 1) := by decide +kernel
theorem dX6_touchB_63 : decode cX6_touchB 63 = .ok (.ifCond .eq 15, 3) := by decide +kernel
theorem dX6_touchB_66 : decode cX6_touchB 66 = .ok (.aload_n 0, 1) := by decide +kernel
theorem dX6_touchB_67 : decode cX6_touchB 67 = .ok (.invokevirtual 110, 3) := by decide +kernel
theorem dX6_touchB_70 : decode cX6_touchB 70 = .ok (.iconst 5, 1) := by decide +kernel
theorem dX6_touchB_71 : decode cX6_touchB 71 = .ok (.if_icmp .ne 7, 3) := by decide +kernel
theorem dX6_touchB_74 : decode cX6_touchB 74 = .ok (.iconst 1, 1) := by decide +kernel
theorem dX6_touchB_75 : decode cX6_touchB 75 = .ok (.goto 4, 3) := by decide +kernel
theorem dX6_touchB_78 : decode cX6_touchB 78 = .ok (.iconst 0, 1) := by decide +kernel
theorem dX6_touchB_79 : decode cX6_touchB 79 = .ok (.putfield 60, 3) := by decide +kernel
theorem dX6_touchB_82 : decode cX6_touchB 82 = .ok (.return_, 1) := by decide +kernel
set_option maxRecDepth 20000 in
theorem ggX6_portA_X6_has : GoodIn wsX6_portA wsX6_has := goodIn_r _ [10, 11, 12, 13, 14, 15, 16, 17, 18, 19, 20, 21, 22, 23, 24, 25, 26, 27, 28, 29, 30, 31, 32, 33, 34, 35, 36, 37, 38, 39, 40, 41, 42] (by decide +kernel) (by decide +kernel)
set_option maxRecDepth 20000 in
theorem gX6_portA_X6_has : GoodIn wsX6_portA (wsV RX6 113 RX6 yX6_has wsX6_has) := goodIn_app (goodIn_of _ (by decide +kernel)) ggX6_portA_X6_has
theorem dX6_portA_0 : decode cX6_portA 0 = .ok (.aload_n 0, 1) := by decide +kernel
theorem dX6_portA_1 : decode cX6_portA 1 = .ok (.getfield 32, 3) := by decide +kernel
theorem dX6_portA_4 : decode cX6_portA 4 = .ok (.iconst 1, 1) := by decide +kernel
theorem dX6_portA_5 : decode cX6_portA 5 = .ok (.iand, 1) := by decide +kernel
theorem dX6_portA_6 : decode cX6_portA 6 = .ok (.iconst 1, 1) := by decide +kernel
theorem dX6_portA_7 : decode cX6_portA 7 = .ok (.if_icmp .ne 18, 3) := by decide +kernel
theorem dX6_portA_10 : decode cX6_portA 10 = .ok (.aload_n 0, 1) := by decide +kernel
theorem dX6_portA_11 : decode cX6_portA 11 = .ok (.iconst 1, 1) := by decide +kernel
theorem dX6_portA_12 : decode cX6_portA 12 = .ok (.invokevirtual 113, 3) := by decide +kernel
theorem dX6_portA_15 : decode cX6_portA 15 = .ok (.ifCond .eq 10, 3) := by decide +kernel
theorem dX6_portA_18 : decode cX6_portA 18 = .ok (.aload_n 0, 1) := by decide +kernel
theorem dX6_portA_19 : decode cX6_portA 19 = .ok (.getfield 44, 3) := by decide +kernel
theorem dX6_portA_22 : decode cX6_portA 22 = .ok (.goto 7, 3) := by decide +kernel
theorem dX6_portA_25 : decode cX6_portA 25 = .ok (.aload_n 0, 1) := by decide +kernel
theorem dX6_portA_26 : decode cX6_portA 26 = .ok (.getfield 117, 3) := by decide +kernel
theorem dX6_portA_29 : decode cX6_portA 29 = .ok (.istore_n 1, 1) := by decide +kernel
theorem dX6_portA_30 : decode cX6_portA 30 = .ok (.aload_n 0, 1) := by decide +kernel
theorem dX6_portA_31 : decode cX6_portA 31 = .ok (.getfield 20, 3) := by decide +kernel
theorem dX6_portA_34 : decode cX6_portA 34 = .ok (.aload_n 0, 1) := by decide +kernel
theorem dX6_portA_35 : decode cX6_portA 35 = .ok (.getfield 26, 3) := by decide +kernel
theorem dX6_portA_38 : decode cX6_portA 38 = .ok (.iand, 1) := by decide +kernel
theorem dX6_portA_39 : decode cX6_portA 39 = .ok (.iload_n 1, 1) := by decide +kernel
theorem dX6_portA_40 : decode cX6_portA 40 = .ok (.aload_n 0, 1) := by decide +kernel
theorem dX6_portA_41 : decode cX6_portA 41 = .ok (.getfield 26, 3) := by decide +kernel
theorem dX6_portA_44 : decode cX6_portA 44 = .ok (.iconst (-1), 1) := by decide +kernel
theorem dX6_portA_45 : decode cX6_portA 45 = .ok (.ixor, 1) := by decide +kernel
theorem dX6_portA_46 : decode cX6_portA 46 = .ok (.iand, 1) := by decide +kernel
theorem dX6_portA_47 : decode cX6_portA 47 = .ok (.ior, 1) := by decide +kernel
theorem dX6_portA_48 : decode cX6_portA 48 = .ok (.ireturn, 1) := by decide +kernel
set_option maxRecDepth 20000 in
theorem ggX6_portB_X6_has : GoodIn wsX6_portB wsX6_has := goodIn_r _ [11, 12, 13, 14, 15, 16, 17, 18, 19, 20, 21, 22, 23, 24, 25, 26, 27, 28, 29, 30, 31, 32, 33, 34, 35, 36, 37, 38, 39, 40, 41, 42, 43] (by decide +kernel) (by decide +kernel)
set_option maxRecDepth 20000 in
theorem gX6_portB_X6_has : GoodIn wsX6_portB (wsV RX6 113 RX6 yX6_has wsX6_has) := goodIn_app (goodIn_of _ (by decide +kernel)) ggX6_portB_X6_has
theorem dX6_portB_0 : decode cX6_portB 0 = .ok (.aload_n 0, 1) := by decide +kernel
theorem dX6_portB_1 : decode cX6_portB 1 = .ok (.getfield 32, 3) := by decide +kernel
theorem dX6_portB_4 : decode cX6_portB 4 = .ok (.iconst 2, 1) := by decide +kernel
theorem dX6_portB_5 : decode cX6_portB 5 = .ok (.iand, 1) := by decide +kernel
theorem dX6_portB_6 : decode cX6_portB 6 = .ok (.iconst 2, 1) := by decide +kernel
theorem dX6_portB_7 : decode cX6_portB 7 = .ok (.if_icmp .ne 18, 3) := by decide +kernel
theorem dX6_portB_10 : decode cX6_portB 10 = .ok (.aload_n 0, 1) := by decide +kernel
theorem dX6_portB_11 : decode cX6_portB 11 = .ok (.iconst 4, 1) := by decide +kernel
theorem dX6_portB_12 : decode cX6_portB 12 = .ok (.invokevirtual 113, 3) := by decide +kernel
theorem dX6_portB_15 : decode cX6_portB 15 = .ok (.ifCond .eq 10, 3) := by decide +kernel
theorem dX6_portB_18 : decode cX6_portB 18 = .ok (.aload_n 0, 1) := by decide +kernel
theorem dX6_portB_19 : decode cX6_portB 19 = .ok (.getfield 47, 3) := by decide +kernel
theorem dX6_portB_22 : decode cX6_portB 22 = .ok (.goto 7, 3) := by decide +kernel
theorem dX6_portB_25 : decode cX6_portB 25 = .ok (.aload_n 0, 1) := by decide +kernel
theorem dX6_portB_26 : decode cX6_portB 26 = .ok (.getfield 120, 3) := by decide +kernel
theorem dX6_portB_29 : decode cX6_portB 29 = .ok (.istore_n 1, 1) := by decide +kernel
theorem dX6_portB_30 : decode cX6_portB 30 = .ok (.aload_n 0, 1) := by decide +kernel
theorem dX6_portB_31 : decode cX6_portB 31 = .ok (.getfield 23, 3) := by decide +kernel
theorem dX6_portB_34 : decode cX6_portB 34 = .ok (.aload_n 0, 1) := by decide +kernel
theorem dX6_portB_35 : decode cX6_portB 35 = .ok (.getfield 29, 3) := by decide +kernel
theorem dX6_portB_38 : decode cX6_portB 38 = .ok (.iand, 1) := by decide +kernel
theorem dX6_portB_39 : decode cX6_portB 39 = .ok (.iload_n 1, 1) := by decide +kernel
theorem dX6_portB_40 : decode cX6_portB 40 = .ok (.aload_n 0, 1) := by decide +kernel
theorem dX6_portB_41 : decode cX6_portB 41 = .ok (.getfield 29, 3) := by decide +kernel
theorem dX6_portB_44 : decode cX6_portB 44 = .ok (.iconst (-1), 1) := by decide +kernel
theorem dX6_portB_45 : decode cX6_portB 45 = .ok (.ixor, 1) := by decide +kernel
theorem dX6_portB_46 : decode cX6_portB 46 = .ok (.iand, 1) := by decide +kernel
theorem dX6_portB_47 : decode cX6_portB 47 = .ok (.ior, 1) := by decide +kernel
theorem dX6_portB_48 : decode cX6_portB 48 = .ok (.istore_n 2, 1) := by decide +kernel
theorem dX6_portB_49 : decode cX6_portB 49 = .ok (.aload_n 0, 1) := by decide +kernel
theorem dX6_portB_50 : decode cX6_portB 50 = .ok (.getfield 32, 3) := by decide +kernel
theorem dX6_portB_53 : decode cX6_portB 53 = .ok (.sipush 128, 3) := by decide +kernel
theorem dX6_portB_56 : decode cX6_portB 56 = .ok (.iand, 1) := by decide +kernel
theorem dX6_portB_57 : decode cX6_portB 57 = .ok (.ifCond .ne 7, 3) := by decide +kernel
theorem dX6_portB_60 : decode cX6_portB 60 = .ok (.iload_n 2, 1) := by decide +kernel
theorem dX6_portB_61 : decode cX6_portB 61 = .ok (.goto 22, 3) := by decide +kernel
theorem dX6_portB_64 : decode cX6_portB 64 = .ok (.iload_n 2, 1) := by decide +kernel
theorem dX6_portB_65 : decode cX6_portB 65 = .ok (.bipush 127, 2) := by decide +kernel
theorem dX6_portB_67 : decode cX6_portB 67 = .ok (.iand, 1) := by decide +kernel
theorem dX6_portB_68 : decode cX6_portB 68 = .ok (.aload_n 0, 1) := by decide +kernel
theorem dX6_portB_69 : decode cX6_portB 69 = .ok (.getfield 75, 3) := by decide +kernel
theorem dX6_portB_72 : decode cX6_portB 72 = .ok (.ifCond .eq 9, 3) := by decide +kernel
theorem dX6_portB_75 : decode cX6_portB 75 = .ok (.sipush 128, 3) := by decide +kernel
theorem dX6_portB_78 : decode cX6_portB 78 = .ok (.goto 4, 3) := by decide +kernel
theorem dX6_portB_81 : decode cX6_portB 81 = .ok (.iconst 0, 1) := by decide +kernel
theorem dX6_portB_82 : decode cX6_portB 82 = .ok (.ior, 1) := by decide +kernel
theorem dX6_portB_83 : decode cX6_portB 83 = .ok (.ireturn, 1) := by decide +kernel
theorem dX6_noByte_0 : decode cX6_noByte 0 = .ok (.iload_n 0, 1) := by decide +kernel
theorem dX6_noByte_1 : decode cX6_noByte 1 = .ok (.ifCond .lt 10, 3) := by decide +kernel
theorem dX6_noByte_4 : decode cX6_noByte 4 = .ok (.iload_n 0, 1) := by decide +kernel
theorem dX6_noByte_5 : decode cX6_noByte 5 = .ok (.sipush 255, 3) := by decide +kernel
theorem dX6_noByte_8 : decode cX6_noByte 8 = .ok (.if_icmp .le 7, 3) := by decide +kernel
theorem dX6_noByte_11 : decode cX6_noByte 11 = .ok (.iconst 1, 1) := by decide +kernel
theorem dX6_noByte_12 : decode cX6_noByte 12 = .ok (.goto 4, 3) := by decide +kernel
theorem dX6_noByte_15 : decode cX6_noByte 15 = .ok (.iconst 0, 1) := by decide +kernel
theorem dX6_noByte_16 : decode cX6_noByte 16 = .ok (.ireturn, 1) := by decide +kernel
set_option maxRecDepth 20000 in
theorem ggX6_eight_X6_drop : GoodIn wsX6_eight wsX6_drop := goodIn_r _ [7, 8, 9, 10, 11, 12, 13, 14, 15, 16, 17, 18, 19, 20, 21, 22, 23, 24, 25, 26, 27, 28, 29, 30, 31, 32, 33, 34, 35, 36, 37, 38, 39] (by decide +kernel) (by decide +kernel)
set_option maxRecDepth 20000 in
theorem gX6_eight_X6_drop : GoodIn wsX6_eight (wsV RX6 102 RX6 yX6_drop wsX6_drop) := goodIn_app (goodIn_of _ (by decide +kernel)) ggX6_eight_X6_drop
theorem dX6_eight_0 : decode cX6_eight 0 = .ok (.aload_n 0, 1) := by decide +kernel
theorem dX6_eight_1 : decode cX6_eight 1 = .ok (.iconst 2, 1) := by decide +kernel
theorem dX6_eight_2 : decode cX6_eight 2 = .ok (.invokevirtual 102, 3) := by decide +kernel
theorem dX6_eight_5 : decode cX6_eight 5 = .ok (.aload_n 0, 1) := by decide +kernel
theorem dX6_eight_6 : decode cX6_eight 6 = .ok (.bipush 8, 2) := by decide +kernel
theorem dX6_eight_8 : decode cX6_eight 8 = .ok (.putfield 90, 3) := by decide +kernel
theorem dX6_eight_11 : decode cX6_eight 11 = .ok (.aload_n 0, 1) := by decide +kernel
theorem dX6_eight_12 : decode cX6_eight 12 = .ok (.iconst 2, 1) := by decide +kernel
theorem dX6_eight_13 : decode cX6_eight 13 = .ok (.putfield 93, 3) := by decide +kernel
theorem dX6_eight_16 : decode cX6_eight 16 = .ok (.return_, 1) := by decide +kernel
set_option maxRecDepth 20000 in
theorem ggX6_write_X6_noByte : GoodIn wsX6_write wsX6_noByte := goodIn_r _ [23] (by decide +kernel) (by decide +kernel)
set_option maxRecDepth 20000 in
theorem gX6_write_X6_noByte : GoodIn wsX6_write (va_wsS RX6 123 yX6_noByte wsX6_noByte) := goodIn_app (goodIn_of _ (by decide +kernel)) ggX6_write_X6_noByte
set_option maxRecDepth 20000 in
theorem ggX6_write_X6_touchB : GoodIn wsX6_write wsX6_touchB := goodIn_r _ [27, 28, 29, 30, 31, 32, 22, 33, 18, 34, 35, 36, 37, 17, 54, 55, 56, 57, 58, 59, 60, 61, 62, 63, 64, 65, 66, 67, 68, 69, 70, 71, 72, 73, 74, 75, 76, 77, 78, 79, 80, 81, 82, 83, 84] (by decide +kernel) (by decide +kernel)
set_option maxRecDepth 20000 in
theorem gX6_write_X6_touchB : GoodIn wsX6_write (wsV RX6 126 RX6 yX6_touchB wsX6_touchB) := goodIn_app (goodIn_of _ (by decide +kernel)) ggX6_write_X6_touchB
set_option maxRecDepth 20000 in
theorem ggX6_write_X6_touchA : GoodIn wsX6_write wsX6_touchA := goodIn_r _ [41, 42, 43, 30, 31, 32, 22, 33, 18, 44, 45, 46, 47, 17, 54, 55, 56, 57, 58, 59, 60, 61, 62, 63, 64, 65, 66, 67, 68, 69, 70, 71, 72, 73, 74, 75, 76, 77, 78, 79, 80, 81, 82, 83, 84] (by decide +kernel) (by decide +kernel)
set_option maxRecDepth 20000 in
theorem gX6_write_X6_touchA : GoodIn wsX6_write (wsV RX6 130 RX6 yX6_touchA wsX6_touchA) := goodIn_app (goodIn_of _ (by decide +kernel)) ggX6_write_X6_touchA
set_option maxRecDepth 20000 in
theorem ggX6_write_X6_drop : GoodIn wsX6_write wsX6_drop := goodIn_r _ [33, 18, 54, 55, 56, 57, 58, 59, 60, 61, 62, 63, 64, 65, 66, 67, 68, 69, 70, 71, 72, 73, 74, 75, 76, 77, 78, 79, 80, 81, 82, 83, 84] (by decide +kernel) (by decide +kernel)
set_option maxRecDepth 20000 in
theorem gX6_write_X6_drop : GoodIn wsX6_write (wsV RX6 102 RX6 yX6_drop wsX6_drop) := goodIn_app (goodIn_of _ (by decide +kernel)) ggX6_write_X6_drop
set_option maxRecDepth 20000 in
theorem ggX6_write_X6_eight : GoodIn wsX6_write wsX6_eight := goodIn_r _ [51, 52, 53, 30, 31, 32, 22, 33, 18, 54, 55, 56, 57, 58, 59, 60, 61, 62, 63, 64, 65, 66, 67, 68, 69, 70, 71, 72, 73, 74, 75, 76, 77, 78, 79, 80, 81, 82, 83, 84] (by decide +kernel) (by decide +kernel)
set_option maxRecDepth 20000 in
theorem gX6_write_X6_eight : GoodIn wsX6_write (wsV RX6 134 RX6 yX6_eight wsX6_eight) := goodIn_app (goodIn_of _ (by decide +kernel)) ggX6_write_X6_eight
theorem dX6_write_0 : decode cX6_write 0 = .ok (.aload_n 0, 1) := by decide +kernel
theorem dX6_write_1 : decode cX6_write 1 = .ok (.iload_n 1, 1) := by decide +kernel
theorem dX6_write_2 : decode cX6_write 2 = .ok (.ifCond .lt 16, 3) := by decide +kernel
theorem dX6_write_5 : decode cX6_write 5 = .ok (.iload_n 1, 1) := by decide +kernel
theorem dX6_write_6 : decode cX6_write 6 = .ok (.bipush 15, 2) := by decide +kernel
theorem dX6_write_8 : decode cX6_write 8 = .ok (.if_icmp .gt 10, 3) := by decide +kernel
theorem dX6_write_11 : decode cX6_write 11 = .ok (.iload_n 2, 1) := by decide +kernel
theorem dX6_write_12 : decode cX6_write 12 = .ok (.invokestatic 123, 3) := by decide +kernel
theorem dX6_write_15 : decode cX6_write 15 = .ok (.ifCond .eq 7, 3) := by decide +kernel
theorem dX6_write_18 : decode cX6_write 18 = .ok (.iconst 1, 1) := by decide +kernel
theorem dX6_write_19 : decode cX6_write 19 = .ok (.goto 4, 3) := by decide +kernel
theorem dX6_write_22 : decode cX6_write 22 = .ok (.iconst 0, 1) := by decide +kernel
theorem dX6_write_23 : decode cX6_write 23 = .ok (.putfield 16, 3) := by decide +kernel
theorem dX6_write_26 : decode cX6_write 26 = .ok (.aload_n 0, 1) := by decide +kernel
theorem dX6_write_27 : decode cX6_write 27 = .ok (.getfield 16, 3) := by decide +kernel
theorem dX6_write_30 : decode cX6_write 30 = .ok (.ifCond .le 4, 3) := by decide +kernel
theorem dX6_write_33 : decode cX6_write 33 = .ok (.return_, 1) := by decide +kernel
theorem dX6_write_34 : decode cX6_write 34 = .ok (.iload_n 1, 1) := by decide +kernel
theorem dX6_write_35 : decode cX6_write 35 = .ok (.tableswitch 317 0 14 #[73, 86, 98, 106, 114, 130, 114, 179, 205, 213, 239, 251, 259, 267, 282], 73) := by decide +kernel
theorem dX6_write_108 : decode cX6_write 108 = .ok (.aload_n 0, 1) := by decide +kernel
theorem dX6_write_109 : decode cX6_write 109 = .ok (.iload_n 2, 1) := by decide +kernel
theorem dX6_write_110 : decode cX6_write 110 = .ok (.putfield 23, 3) := by decide +kernel
theorem dX6_write_113 : decode cX6_write 113 = .ok (.aload_n 0, 1) := by decide +kernel
theorem dX6_write_114 : decode cX6_write 114 = .ok (.iconst 1, 1) := by decide +kernel
theorem dX6_write_115 : decode cX6_write 115 = .ok (.invokevirtual 126, 3) := by decide +kernel
theorem dX6_write_118 : decode cX6_write 118 = .ok (.goto 239, 3) := by decide +kernel
theorem dX6_write_121 : decode cX6_write 121 = .ok (.aload_n 0, 1) := by decide +kernel
theorem dX6_write_122 : decode cX6_write 122 = .ok (.iload_n 2, 1) := by decide +kernel
theorem dX6_write_123 : decode cX6_write 123 = .ok (.putfield 20, 3) := by decide +kernel
theorem dX6_write_126 : decode cX6_write 126 = .ok (.aload_n 0, 1) := by decide +kernel
theorem dX6_write_127 : decode cX6_write 127 = .ok (.invokevirtual 130, 3) := by decide +kernel
theorem dX6_write_130 : decode cX6_write 130 = .ok (.goto 227, 3) := by decide +kernel
theorem dX6_write_133 : decode cX6_write 133 = .ok (.aload_n 0, 1) := by decide +kernel
theorem dX6_write_134 : decode cX6_write 134 = .ok (.iload_n 2, 1) := by decide +kernel
theorem dX6_write_135 : decode cX6_write 135 = .ok (.putfield 29, 3) := by decide +kernel
theorem dX6_write_138 : decode cX6_write 138 = .ok (.goto 219, 3) := by decide +kernel
theorem dX6_write_141 : decode cX6_write 141 = .ok (.aload_n 0, 1) := by decide +kernel
theorem dX6_write_142 : decode cX6_write 142 = .ok (.iload_n 2, 1) := by decide +kernel
theorem dX6_write_143 : decode cX6_write 143 = .ok (.putfield 26, 3) := by decide +kernel
theorem dX6_write_146 : decode cX6_write 146 = .ok (.goto 211, 3) := by decide +kernel
theorem dX6_write_149 : decode cX6_write 149 = .ok (.aload_n 0, 1) := by decide +kernel
theorem dX6_write_150 : decode cX6_write 150 = .ok (.aload_n 0, 1) := by decide +kernel
theorem dX6_write_151 : decode cX6_write 151 = .ok (.getfield 66, 3) := by decide +kernel
theorem dX6_write_154 : decode cX6_write 154 = .ok (.ldc 133, 2) := by decide +kernel
theorem dX6_write_156 : decode cX6_write 156 = .ok (.iand, 1) := by decide +kernel
theorem dX6_write_157 : decode cX6_write 157 = .ok (.iload_n 2, 1) := by decide +kernel
theorem dX6_write_158 : decode cX6_write 158 = .ok (.ior, 1) := by decide +kernel
theorem dX6_write_159 : decode cX6_write 159 = .ok (.putfield 66, 3) := by decide +kernel
theorem dX6_write_162 : decode cX6_write 162 = .ok (.goto 195, 3) := by decide +kernel
theorem dX6_write_165 : decode cX6_write 165 = .ok (.aload_n 0, 1) := by decide +kernel
theorem dX6_write_166 : decode cX6_write 166 = .ok (.aload_n 0, 1) := by decide +kernel
theorem dX6_write_167 : decode cX6_write 167 = .ok (.getfield 66, 3) := by decide +kernel
theorem dX6_write_170 : decode cX6_write 170 = .ok (.sipush 255, 3) := by decide +kernel
theorem dX6_write_173 : decode cX6_write 173 = .ok (.iand, 1) := by decide +kernel
theorem dX6_write_174 : decode cX6_write 174 = .ok (.iload_n 2, 1) := by decide +kernel
theorem dX6_write_175 : decode cX6_write 175 = .ok (.bipush 8, 2) := by decide +kernel
theorem dX6_write_177 : decode cX6_write 177 = .ok (.ishl, 1) := by decide +kernel
theorem dX6_write_178 : decode cX6_write 178 = .ok (.ior, 1) := by decide +kernel
theorem dX6_write_179 : decode cX6_write 179 = .ok (.putfield 66, 3) := by decide +kernel
theorem dX6_write_182 : decode cX6_write 182 = .ok (.aload_n 0, 1) := by decide +kernel
theorem dX6_write_183 : decode cX6_write 183 = .ok (.aload_n 0, 1) := by decide +kernel
theorem dX6_write_184 : decode cX6_write 184 = .ok (.getfield 66, 3) := by decide +kernel
theorem dX6_write_187 : decode cX6_write 187 = .ok (.putfield 63, 3) := by decide +kernel
theorem dX6_write_190 : decode cX6_write 190 = .ok (.aload_n 0, 1) := by decide +kernel
theorem dX6_write_191 : decode cX6_write 191 = .ok (.iconst 1, 1) := by decide +kernel
theorem dX6_write_192 : decode cX6_write 192 = .ok (.putfield 69, 3) := by decide +kernel
theorem dX6_write_195 : decode cX6_write 195 = .ok (.aload_n 0, 1) := by decide +kernel
theorem dX6_write_196 : decode cX6_write 196 = .ok (.iconst 0, 1) := by decide +kernel
theorem dX6_write_197 : decode cX6_write 197 = .ok (.putfield 72, 3) := by decide +kernel
theorem dX6_write_200 : decode cX6_write 200 = .ok (.aload_n 0, 1) := by decide +kernel
theorem dX6_write_201 : decode cX6_write 201 = .ok (.iconst 0, 1) := by decide +kernel
theorem dX6_write_202 : decode cX6_write 202 = .ok (.putfield 75, 3) := by decide +kernel
theorem dX6_write_205 : decode cX6_write 205 = .ok (.aload_n 0, 1) := by decide +kernel
theorem dX6_write_206 : decode cX6_write 206 = .ok (.bipush 6, 2) := by decide +kernel
theorem dX6_write_208 : decode cX6_write 208 = .ok (.invokevirtual 102, 3) := by decide +kernel
theorem dX6_write_211 : decode cX6_write 211 = .ok (.goto 146, 3) := by decide +kernel
theorem dX6_write_214 : decode cX6_write 214 = .ok (.aload_n 0, 1) := by decide +kernel
theorem dX6_write_215 : decode cX6_write 215 = .ok (.aload_n 0, 1) := by decide +kernel
theorem dX6_write_216 : decode cX6_write 216 = .ok (.getfield 66, 3) := by decide +kernel
theorem dX6_write_219 : decode cX6_write 219 = .ok (.sipush 255, 3) := by decide +kernel
theorem dX6_write_222 : decode cX6_write 222 = .ok (.iand, 1) := by decide +kernel
theorem dX6_write_223 : decode cX6_write 223 = .ok (.iload_n 2, 1) := by decide +kernel
theorem dX6_write_224 : decode cX6_write 224 = .ok (.bipush 8, 2) := by decide +kernel
theorem dX6_write_226 : decode cX6_write 226 = .ok (.ishl, 1) := by decide +kernel
theorem dX6_write_227 : decode cX6_write 227 = .ok (.ior, 1) := by decide +kernel
theorem dX6_write_228 : decode cX6_write 228 = .ok (.putfield 66, 3) := by decide +kernel
theorem dX6_write_231 : decode cX6_write 231 = .ok (.aload_n 0, 1) := by decide +kernel
theorem dX6_write_232 : decode cX6_write 232 = .ok (.bipush 6, 2) := by decide +kernel
theorem dX6_write_234 : decode cX6_write 234 = .ok (.invokevirtual 102, 3) := by decide +kernel
theorem dX6_write_237 : decode cX6_write 237 = .ok (.goto 120, 3) := by decide +kernel
theorem dX6_write_240 : decode cX6_write 240 = .ok (.aload_n 0, 1) := by decide +kernel
theorem dX6_write_241 : decode cX6_write 241 = .ok (.iload_n 2, 1) := by decide +kernel
theorem dX6_write_242 : decode cX6_write 242 = .ok (.putfield 81, 3) := by decide +kernel
theorem dX6_write_245 : decode cX6_write 245 = .ok (.goto 112, 3) := by decide +kernel
theorem dX6_write_248 : decode cX6_write 248 = .ok (.aload_n 0, 1) := by decide +kernel
theorem dX6_write_249 : decode cX6_write 249 = .ok (.iload_n 2, 1) := by decide +kernel
theorem dX6_write_250 : decode cX6_write 250 = .ok (.bipush 8, 2) := by decide +kernel
theorem dX6_write_252 : decode cX6_write 252 = .ok (.ishl, 1) := by decide +kernel
theorem dX6_write_253 : decode cX6_write 253 = .ok (.aload_n 0, 1) := by decide +kernel
theorem dX6_write_254 : decode cX6_write 254 = .ok (.getfield 81, 3) := by decide +kernel
theorem dX6_write_257 : decode cX6_write 257 = .ok (.ior, 1) := by decide +kernel
theorem dX6_write_258 : decode cX6_write 258 = .ok (.putfield 78, 3) := by decide +kernel
theorem dX6_write_261 : decode cX6_write 261 = .ok (.aload_n 0, 1) := by decide +kernel
theorem dX6_write_262 : decode cX6_write 262 = .ok (.iconst 1, 1) := by decide +kernel
theorem dX6_write_263 : decode cX6_write 263 = .ok (.putfield 84, 3) := by decide +kernel
theorem dX6_write_266 : decode cX6_write 266 = .ok (.aload_n 0, 1) := by decide +kernel
theorem dX6_write_267 : decode cX6_write 267 = .ok (.iconst 5, 1) := by decide +kernel
theorem dX6_write_268 : decode cX6_write 268 = .ok (.invokevirtual 102, 3) := by decide +kernel
theorem dX6_write_271 : decode cX6_write 271 = .ok (.goto 86, 3) := by decide +kernel
theorem dX6_write_274 : decode cX6_write 274 = .ok (.aload_n 0, 1) := by decide +kernel
theorem dX6_write_275 : decode cX6_write 275 = .ok (.iload_n 2, 1) := by decide +kernel
theorem dX6_write_276 : decode cX6_write 276 = .ok (.putfield 87, 3) := by decide +kernel
theorem dX6_write_279 : decode cX6_write 279 = .ok (.aload_n 0, 1) := by decide +kernel
theorem dX6_write_280 : decode cX6_write 280 = .ok (.invokevirtual 134, 3) := by decide +kernel
theorem dX6_write_283 : decode cX6_write 283 = .ok (.goto 74, 3) := by decide +kernel
theorem dX6_write_286 : decode cX6_write 286 = .ok (.aload_n 0, 1) := by decide +kernel
theorem dX6_write_287 : decode cX6_write 287 = .ok (.iload_n 2, 1) := by decide +kernel
theorem dX6_write_288 : decode cX6_write 288 = .ok (.putfield 32, 3) := by decide +kernel
theorem dX6_write_291 : decode cX6_write 291 = .ok (.goto 66, 3) := by decide +kernel
theorem dX6_write_294 : decode cX6_write 294 = .ok (.aload_n 0, 1) := by decide +kernel
theorem dX6_write_295 : decode cX6_write 295 = .ok (.iload_n 2, 1) := by decide +kernel
theorem dX6_write_296 : decode cX6_write 296 = .ok (.putfield 35, 3) := by decide +kernel
theorem dX6_write_299 : decode cX6_write 299 = .ok (.goto 58, 3) := by decide +kernel
theorem dX6_write_302 : decode cX6_write 302 = .ok (.aload_n 0, 1) := by decide +kernel
theorem dX6_write_303 : decode cX6_write 303 = .ok (.aload_n 0, 1) := by decide +kernel
theorem dX6_write_304 : decode cX6_write 304 = .ok (.getfield 38, 3) := by decide +kernel
theorem dX6_write_307 : decode cX6_write 307 = .ok (.iload_n 2, 1) := by decide +kernel
theorem dX6_write_308 : decode cX6_write 308 = .ok (.iconst (-1), 1) := by decide +kernel
theorem dX6_write_309 : decode cX6_write 309 = .ok (.ixor, 1) := by decide +kernel
theorem dX6_write_310 : decode cX6_write 310 = .ok (.iand, 1) := by decide +kernel
theorem dX6_write_311 : decode cX6_write 311 = .ok (.putfield 38, 3) := by decide +kernel
theorem dX6_write_314 : decode cX6_write 314 = .ok (.goto 43, 3) := by decide +kernel
theorem dX6_write_317 : decode cX6_write 317 = .ok (.aload_n 0, 1) := by decide +kernel
theorem dX6_write_318 : decode cX6_write 318 = .ok (.iload_n 2, 1) := by decide +kernel
theorem dX6_write_319 : decode cX6_write 319 = .ok (.sipush 128, 3) := by decide +kernel
theorem dX6_write_322 : decode cX6_write 322 = .ok (.iand, 1) := by decide +kernel
theorem dX6_write_323 : decode cX6_write 323 = .ok (.ifCond .eq 15, 3) := by decide +kernel
theorem dX6_write_326 : decode cX6_write 326 = .ok (.aload_n 0, 1) := by decide +kernel
theorem dX6_write_327 : decode cX6_write 327 = .ok (.getfield 41, 3) := by decide +kernel
theorem dX6_write_330 : decode cX6_write 330 = .ok (.iload_n 2, 1) := by decide +kernel
theorem dX6_write_331 : decode cX6_write 331 = .ok (.bipush 127, 2) := by decide +kernel
theorem dX6_write_333 : decode cX6_write 333 = .ok (.iand, 1) := by decide +kernel
theorem dX6_write_334 : decode cX6_write 334 = .ok (.ior, 1) := by decide +kernel
theorem dX6_write_335 : decode cX6_write 335 = .ok (.goto 11, 3) := by decide +kernel
theorem dX6_write_338 : decode cX6_write 338 = .ok (.aload_n 0, 1) := by decide +kernel
theorem dX6_write_339 : decode cX6_write 339 = .ok (.getfield 41, 3) := by decide +kernel
theorem dX6_write_342 : decode cX6_write 342 = .ok (.iload_n 2, 1) := by decide +kernel
theorem dX6_write_343 : decode cX6_write 343 = .ok (.iconst (-1), 1) := by decide +kernel
theorem dX6_write_344 : decode cX6_write 344 = .ok (.ixor, 1) := by decide +kernel
theorem dX6_write_345 : decode cX6_write 345 = .ok (.iand, 1) := by decide +kernel
theorem dX6_write_346 : decode cX6_write 346 = .ok (.putfield 41, 3) := by decide +kernel
theorem dX6_write_349 : decode cX6_write 349 = .ok (.goto 8, 3) := by decide +kernel
theorem dX6_write_352 : decode cX6_write 352 = .ok (.aload_n 0, 1) := by decide +kernel
theorem dX6_write_353 : decode cX6_write 353 = .ok (.iload_n 2, 1) := by decide +kernel
theorem dX6_write_354 : decode cX6_write 354 = .ok (.putfield 20, 3) := by decide +kernel
theorem dX6_write_357 : decode cX6_write 357 = .ok (.return_, 1) := by decide +kernel
set_option maxRecDepth 20000 in
theorem ggX6_read_X6_portB : GoodIn wsX6_read wsX6_portB := goodIn_r _ [15, 8, 16, 17, 18, 2, 19, 20, 21, 22, 14, 23, 24, 66, 67, 68, 69, 70, 71, 72, 73, 74, 75, 76, 77, 78, 79, 80, 81, 82, 83, 84, 85, 86, 87, 88, 89, 90, 91, 92, 93, 94, 95, 96] (by decide +kernel) (by decide +kernel)
set_option maxRecDepth 20000 in
theorem gX6_read_X6_portB : GoodIn wsX6_read (wsV RX6 137 RX6 yX6_portB wsX6_portB) := goodIn_app (goodIn_of _ (by decide +kernel)) ggX6_read_X6_portB
set_option maxRecDepth 20000 in
theorem ggX6_read_X6_touchB : GoodIn wsX6_read wsX6_touchB := goodIn_r _ [28, 29, 30, 31, 32, 33, 14, 34, 24, 35, 36, 37, 38, 9, 66, 67, 68, 69, 70, 71, 72, 73, 74, 75, 76, 77, 78, 79, 80, 81, 82, 83, 84, 85, 86, 87, 88, 89, 90, 91, 92, 93, 94, 95, 96] (by decide +kernel) (by decide +kernel)
set_option maxRecDepth 20000 in
theorem gX6_read_X6_touchB : GoodIn wsX6_read (wsV RX6 126 RX6 yX6_touchB wsX6_touchB) := goodIn_app (goodIn_of _ (by decide +kernel)) ggX6_read_X6_touchB
set_option maxRecDepth 20000 in
theorem ggX6_read_X6_portA : GoodIn wsX6_read wsX6_portA := goodIn_r _ [42, 8, 43, 44, 45, 3, 20, 21, 22, 14, 23, 24, 66, 67, 68, 69, 70, 71, 72, 73, 74, 75, 76, 77, 78, 79, 80, 81, 82, 83, 84, 85, 86, 87, 88, 89, 90, 91, 92, 93, 94, 95, 96] (by decide +kernel) (by decide +kernel)
set_option maxRecDepth 20000 in
theorem gX6_read_X6_portA : GoodIn wsX6_read (wsV RX6 140 RX6 yX6_portA wsX6_portA) := goodIn_app (goodIn_of _ (by decide +kernel)) ggX6_read_X6_portA
set_option maxRecDepth 20000 in
theorem ggX6_read_X6_touchA : GoodIn wsX6_read wsX6_touchA := goodIn_r _ [49, 50, 51, 31, 32, 33, 14, 34, 24, 52, 53, 54, 55, 9, 66, 67, 68, 69, 70, 71, 72, 73, 74, 75, 76, 77, 78, 79, 80, 81, 82, 83, 84, 85, 86, 87, 88, 89, 90, 91, 92, 93, 94, 95, 96] (by decide +kernel) (by decide +kernel)
set_option maxRecDepth 20000 in
theorem gX6_read_X6_touchA : GoodIn wsX6_read (wsV RX6 130 RX6 yX6_touchA wsX6_touchA) := goodIn_app (goodIn_of _ (by decide +kernel)) ggX6_read_X6_touchA
set_option maxRecDepth 20000 in
theorem ggX6_read_X6_drop : GoodIn wsX6_read wsX6_drop := goodIn_r _ [34, 24, 66, 67, 68, 69, 70, 71, 72, 73, 74, 75, 76, 77, 78, 79, 80, 81, 82, 83, 84, 85, 86, 87, 88, 89, 90, 91, 92, 93, 94, 95, 96] (by decide +kernel) (by decide +kernel)
set_option maxRecDepth 20000 in
theorem gX6_read_X6_drop : GoodIn wsX6_read (wsV RX6 102 RX6 yX6_drop wsX6_drop) := goodIn_app (goodIn_of _ (by decide +kernel)) ggX6_read_X6_drop
set_option maxRecDepth 20000 in
theorem ggX6_read_X6_eight : GoodIn wsX6_read wsX6_eight := goodIn_r _ [59, 60, 61, 31, 32, 33, 14, 34, 24, 66, 67, 68, 69, 70, 71, 72, 73, 74, 75, 76, 77, 78, 79, 80, 81, 82, 83, 84, 85, 86, 87, 88, 89, 90, 91, 92, 93, 94, 95, 96] (by decide +kernel) (by decide +kernel)
set_option maxRecDepth 20000 in
theorem gX6_read_X6_eight : GoodIn wsX6_read (wsV RX6 134 RX6 yX6_eight wsX6_eight) := goodIn_app (goodIn_of _ (by decide +kernel)) ggX6_read_X6_eight
set_option maxRecDepth 20000 in
theorem ggX6_read_X6_allFlags : GoodIn wsX6_read wsX6_allFlags := goodIn_r _ [65, 24, 10, 66, 67, 68, 69, 70, 71, 72, 73, 74, 75, 76, 77, 78, 79, 80, 81, 82, 83, 84, 85, 86, 87, 88, 89, 90, 91, 92, 93, 94, 95, 96] (by decide +kernel) (by decide +kernel)
set_option maxRecDepth 20000 in
theorem gX6_read_X6_allFlags : GoodIn wsX6_read (wsV RX6 143 RX6 yX6_allFlags wsX6_allFlags) := goodIn_app (goodIn_of _ (by decide +kernel)) ggX6_read_X6_allFlags
theorem dX6_read_0 : decode cX6_read 0 = .ok (.aload_n 0, 1) := by decide +kernel
theorem dX6_read_1 : decode cX6_read 1 = .ok (.iload_n 1, 1) := by decide +kernel
theorem dX6_read_2 : decode cX6_read 2 = .ok (.ifCond .lt 9, 3) := by decide +kernel
theorem dX6_read_5 : decode cX6_read 5 = .ok (.iload_n 1, 1) := by decide +kernel
theorem dX6_read_6 : decode cX6_read 6 = .ok (.bipush 15, 2) := by decide +kernel
theorem dX6_read_8 : decode cX6_read 8 = .ok (.if_icmp .le 7, 3) := by decide +kernel
theorem dX6_read_11 : decode cX6_read 11 = .ok (.iconst 1, 1) := by decide +kernel
theorem dX6_read_12 : decode cX6_read 12 = .ok (.goto 4, 3) := by decide +kernel
theorem dX6_read_15 : decode cX6_read 15 = .ok (.iconst 0, 1) := by decide +kernel
theorem dX6_read_16 : decode cX6_read 16 = .ok (.putfield 16, 3) := by decide +kernel
theorem dX6_read_19 : decode cX6_read 19 = .ok (.aload_n 0, 1) := by decide +kernel
theorem dX6_read_20 : decode cX6_read 20 = .ok (.getfield 16, 3) := by decide +kernel
theorem dX6_read_23 : decode cX6_read 23 = .ok (.ifCond .le 5, 3) := by decide +kernel
theorem dX6_read_26 : decode cX6_read 26 = .ok (.iconst 0, 1) := by decide +kernel
theorem dX6_read_27 : decode cX6_read 27 = .ok (.ireturn, 1) := by decide +kernel
theorem dX6_read_28 : decode cX6_read 28 = .ok (.iconst 0, 1) := by decide +kernel
theorem dX6_read_29 : decode cX6_read 29 = .ok (.istore_n 2, 1) := by decide +kernel
theorem dX6_read_30 : decode cX6_read 30 = .ok (.iload_n 1, 1) := by decide +kernel
theorem dX6_read_31 : decode cX6_read 31 = .ok (.tableswitch 201 0 14 #[73, 85, 96, 101, 106, 121, 129, 138, 146, 160, 168, 177, 182, 187, 192], 73) := by decide +kernel
theorem dX6_read_104 : decode cX6_read 104 = .ok (.aload_n 0, 1) := by decide +kernel
theorem dX6_read_105 : decode cX6_read 105 = .ok (.invokevirtual 137, 3) := by decide +kernel
theorem dX6_read_108 : decode cX6_read 108 = .ok (.istore_n 2, 1) := by decide +kernel
theorem dX6_read_109 : decode cX6_read 109 = .ok (.aload_n 0, 1) := by decide +kernel
theorem dX6_read_110 : decode cX6_read 110 = .ok (.iconst 0, 1) := by decide +kernel
theorem dX6_read_111 : decode cX6_read 111 = .ok (.invokevirtual 126, 3) := by decide +kernel
theorem dX6_read_114 : decode cX6_read 114 = .ok (.iload_n 2, 1) := by decide +kernel
theorem dX6_read_115 : decode cX6_read 115 = .ok (.ireturn, 1) := by decide +kernel
theorem dX6_read_116 : decode cX6_read 116 = .ok (.aload_n 0, 1) := by decide +kernel
theorem dX6_read_117 : decode cX6_read 117 = .ok (.invokevirtual 140, 3) := by decide +kernel
theorem dX6_read_120 : decode cX6_read 120 = .ok (.istore_n 2, 1) := by decide +kernel
theorem dX6_read_121 : decode cX6_read 121 = .ok (.aload_n 0, 1) := by decide +kernel
theorem dX6_read_122 : decode cX6_read 122 = .ok (.invokevirtual 130, 3) := by decide +kernel
theorem dX6_read_125 : decode cX6_read 125 = .ok (.iload_n 2, 1) := by decide +kernel
theorem dX6_read_126 : decode cX6_read 126 = .ok (.ireturn, 1) := by decide +kernel
theorem dX6_read_127 : decode cX6_read 127 = .ok (.aload_n 0, 1) := by decide +kernel
theorem dX6_read_128 : decode cX6_read 128 = .ok (.getfield 29, 3) := by decide +kernel
theorem dX6_read_131 : decode cX6_read 131 = .ok (.ireturn, 1) := by decide +kernel
theorem dX6_read_132 : decode cX6_read 132 = .ok (.aload_n 0, 1) := by decide +kernel
theorem dX6_read_133 : decode cX6_read 133 = .ok (.getfield 26, 3) := by decide +kernel
theorem dX6_read_136 : decode cX6_read 136 = .ok (.ireturn, 1) := by decide +kernel
theorem dX6_read_137 : decode cX6_read 137 = .ok (.aload_n 0, 1) := by decide +kernel
theorem dX6_read_138 : decode cX6_read 138 = .ok (.bipush 6, 2) := by decide +kernel
theorem dX6_read_140 : decode cX6_read 140 = .ok (.invokevirtual 102, 3) := by decide +kernel
theorem dX6_read_143 : decode cX6_read 143 = .ok (.aload_n 0, 1) := by decide +kernel
theorem dX6_read_144 : decode cX6_read 144 = .ok (.getfield 63, 3) := by decide +kernel
theorem dX6_read_147 : decode cX6_read 147 = .ok (.sipush 255, 3) := by decide +kernel
theorem dX6_read_150 : decode cX6_read 150 = .ok (.iand, 1) := by decide +kernel
theorem dX6_read_151 : decode cX6_read 151 = .ok (.ireturn, 1) := by decide +kernel
theorem dX6_read_152 : decode cX6_read 152 = .ok (.aload_n 0, 1) := by decide +kernel
theorem dX6_read_153 : decode cX6_read 153 = .ok (.getfield 63, 3) := by decide +kernel
theorem dX6_read_156 : decode cX6_read 156 = .ok (.bipush 8, 2) := by decide +kernel
theorem dX6_read_158 : decode cX6_read 158 = .ok (.ishr, 1) := by decide +kernel
theorem dX6_read_159 : decode cX6_read 159 = .ok (.ireturn, 1) := by decide +kernel
theorem dX6_read_160 : decode cX6_read 160 = .ok (.aload_n 0, 1) := by decide +kernel
theorem dX6_read_161 : decode cX6_read 161 = .ok (.getfield 66, 3) := by decide +kernel
theorem dX6_read_164 : decode cX6_read 164 = .ok (.sipush 255, 3) := by decide +kernel
theorem dX6_read_167 : decode cX6_read 167 = .ok (.iand, 1) := by decide +kernel
theorem dX6_read_168 : decode cX6_read 168 = .ok (.ireturn, 1) := by decide +kernel
theorem dX6_read_169 : decode cX6_read 169 = .ok (.aload_n 0, 1) := by decide +kernel
theorem dX6_read_170 : decode cX6_read 170 = .ok (.getfield 66, 3) := by decide +kernel
theorem dX6_read_173 : decode cX6_read 173 = .ok (.bipush 8, 2) := by decide +kernel
theorem dX6_read_175 : decode cX6_read 175 = .ok (.ishr, 1) := by decide +kernel
theorem dX6_read_176 : decode cX6_read 176 = .ok (.ireturn, 1) := by decide +kernel
theorem dX6_read_177 : decode cX6_read 177 = .ok (.aload_n 0, 1) := by decide +kernel
theorem dX6_read_178 : decode cX6_read 178 = .ok (.iconst 5, 1) := by decide +kernel
theorem dX6_read_179 : decode cX6_read 179 = .ok (.invokevirtual 102, 3) := by decide +kernel
theorem dX6_read_182 : decode cX6_read 182 = .ok (.aload_n 0, 1) := by decide +kernel
theorem dX6_read_183 : decode cX6_read 183 = .ok (.getfield 78, 3) := by decide +kernel
theorem dX6_read_186 : decode cX6_read 186 = .ok (.sipush 255, 3) := by decide +kernel
theorem dX6_read_189 : decode cX6_read 189 = .ok (.iand, 1) := by decide +kernel
theorem dX6_read_190 : decode cX6_read 190 = .ok (.ireturn, 1) := by decide +kernel
theorem dX6_read_191 : decode cX6_read 191 = .ok (.aload_n 0, 1) := by decide +kernel
theorem dX6_read_192 : decode cX6_read 192 = .ok (.getfield 78, 3) := by decide +kernel
theorem dX6_read_195 : decode cX6_read 195 = .ok (.bipush 8, 2) := by decide +kernel
theorem dX6_read_197 : decode cX6_read 197 = .ok (.ishr, 1) := by decide +kernel
theorem dX6_read_198 : decode cX6_read 198 = .ok (.ireturn, 1) := by decide +kernel
theorem dX6_read_199 : decode cX6_read 199 = .ok (.aload_n 0, 1) := by decide +kernel
theorem dX6_read_200 : decode cX6_read 200 = .ok (.invokevirtual 134, 3) := by decide +kernel
theorem dX6_read_203 : decode cX6_read 203 = .ok (.aload_n 0, 1) := by decide +kernel
theorem dX6_read_204 : decode cX6_read 204 = .ok (.getfield 87, 3) := by decide +kernel
theorem dX6_read_207 : decode cX6_read 207 = .ok (.ireturn, 1) := by decide +kernel
theorem dX6_read_208 : decode cX6_read 208 = .ok (.aload_n 0, 1) := by decide +kernel
theorem dX6_read_209 : decode cX6_read 209 = .ok (.getfield 32, 3) := by decide +kernel
theorem dX6_read_212 : decode cX6_read 212 = .ok (.ireturn, 1) := by decide +kernel
theorem dX6_read_213 : decode cX6_read 213 = .ok (.aload_n 0, 1) := by decide +kernel
theorem dX6_read_214 : decode cX6_read 214 = .ok (.getfield 35, 3) := by decide +kernel
theorem dX6_read_217 : decode cX6_read 217 = .ok (.ireturn, 1) := by decide +kernel
theorem dX6_read_218 : decode cX6_read 218 = .ok (.aload_n 0, 1) := by decide +kernel
theorem dX6_read_219 : decode cX6_read 219 = .ok (.invokevirtual 143, 3) := by decide +kernel
theorem dX6_read_222 : decode cX6_read 222 = .ok (.ireturn, 1) := by decide +kernel
theorem dX6_read_223 : decode cX6_read 223 = .ok (.aload_n 0, 1) := by decide +kernel
theorem dX6_read_224 : decode cX6_read 224 = .ok (.getfield 41, 3) := by decide +kernel
theorem dX6_read_227 : decode cX6_read 227 = .ok (.sipush 128, 3) := by decide +kernel
theorem dX6_read_230 : decode cX6_read 230 = .ok (.ior, 1) := by decide +kernel
theorem dX6_read_231 : decode cX6_read 231 = .ok (.ireturn, 1) := by decide +kernel
theorem dX6_read_232 : decode cX6_read 232 = .ok (.aload_n 0, 1) := by decide +kernel
theorem dX6_read_233 : decode cX6_read 233 = .ok (.invokevirtual 140, 3) := by decide +kernel
theorem dX6_read_236 : decode cX6_read 236 = .ok (.ireturn, 1) := by decide +kernel
set_option maxRecDepth 20000 in
theorem ggX6_lessTimer2_X6_set : GoodIn wsX6_lessTimer2 wsX6_set := goodIn_r _ [8, 9, 10, 11, 12, 13, 14, 15, 16, 17, 18, 19, 20, 21, 22, 23, 24, 25, 26, 27, 28, 29, 30, 31, 32, 33, 34, 35, 36, 37, 38, 39, 40] (by decide +kernel) (by decide +kernel)
set_option maxRecDepth 20000 in
theorem gX6_lessTimer2_X6_set : GoodIn wsX6_lessTimer2 (wsV RX6 147 RX6 yX6_set wsX6_set) := goodIn_app (goodIn_of _ (by decide +kernel)) ggX6_lessTimer2_X6_set
theorem dX6_lessTimer2_0 : decode cX6_lessTimer2 0 = .ok (.aload_n 0, 1) := by decide +kernel
theorem dX6_lessTimer2_1 : decode cX6_lessTimer2 1 = .ok (.aload_n 0, 1) := by decide +kernel
theorem dX6_lessTimer2_2 : decode cX6_lessTimer2 2 = .ok (.getfield 78, 3) := by decide +kernel
theorem dX6_lessTimer2_5 : decode cX6_lessTimer2 5 = .ok (.iconst 1, 1) := by decide +kernel
theorem dX6_lessTimer2_6 : decode cX6_lessTimer2 6 = .ok (.isub, 1) := by decide +kernel
theorem dX6_lessTimer2_7 : decode cX6_lessTimer2 7 = .ok (.ldc 146, 2) := by decide +kernel
theorem dX6_lessTimer2_9 : decode cX6_lessTimer2 9 = .ok (.iand, 1) := by decide +kernel
theorem dX6_lessTimer2_10 : decode cX6_lessTimer2 10 = .ok (.putfield 78, 3) := by decide +kernel
theorem dX6_lessTimer2_13 : decode cX6_lessTimer2 13 = .ok (.aload_n 0, 1) := by decide +kernel
theorem dX6_lessTimer2_14 : decode cX6_lessTimer2 14 = .ok (.getfield 78, 3) := by decide +kernel
theorem dX6_lessTimer2_17 : decode cX6_lessTimer2 17 = .ok (.ldc 146, 2) := by decide +kernel
theorem dX6_lessTimer2_19 : decode cX6_lessTimer2 19 = .ok (.if_icmp .ne 20, 3) := by decide +kernel
theorem dX6_lessTimer2_22 : decode cX6_lessTimer2 22 = .ok (.aload_n 0, 1) := by decide +kernel
theorem dX6_lessTimer2_23 : decode cX6_lessTimer2 23 = .ok (.getfield 84, 3) := by decide +kernel
theorem dX6_lessTimer2_26 : decode cX6_lessTimer2 26 = .ok (.ifCond .eq 13, 3) := by decide +kernel
theorem dX6_lessTimer2_29 : decode cX6_lessTimer2 29 = .ok (.aload_n 0, 1) := by decide +kernel
theorem dX6_lessTimer2_30 : decode cX6_lessTimer2 30 = .ok (.iconst 5, 1) := by decide +kernel
theorem dX6_lessTimer2_31 : decode cX6_lessTimer2 31 = .ok (.invokevirtual 147, 3) := by decide +kernel
theorem dX6_lessTimer2_34 : decode cX6_lessTimer2 34 = .ok (.aload_n 0, 1) := by decide +kernel
theorem dX6_lessTimer2_35 : decode cX6_lessTimer2 35 = .ok (.iconst 0, 1) := by decide +kernel
theorem dX6_lessTimer2_36 : decode cX6_lessTimer2 36 = .ok (.putfield 84, 3) := by decide +kernel
theorem dX6_lessTimer2_39 : decode cX6_lessTimer2 39 = .ok (.return_, 1) := by decide +kernel
set_option maxRecDepth 20000 in
theorem ggX6_pins_X6_noByte : GoodIn wsX6_pins wsX6_noByte := goodIn_r _ [8] (by decide +kernel) (by decide +kernel)
set_option maxRecDepth 20000 in
theorem gX6_pins_X6_noByte : GoodIn wsX6_pins (va_wsS RX6 123 yX6_noByte wsX6_noByte) := goodIn_app (goodIn_of _ (by decide +kernel)) ggX6_pins_X6_noByte
set_option maxRecDepth 20000 in
theorem ggX6_pins_X6_lessTimer2 : GoodIn wsX6_pins wsX6_lessTimer2 := goodIn_r _ [12, 13, 14, 15, 16, 17, 18, 7, 19, 20, 21, 22, 23, 24, 25, 26, 27, 28, 29, 30, 31, 32, 33, 34, 35, 36, 37, 38, 39, 40, 41, 42, 43, 44, 45, 46, 47, 48, 49, 50, 51] (by decide +kernel) (by decide +kernel)
set_option maxRecDepth 20000 in
theorem gX6_pins_X6_lessTimer2 : GoodIn wsX6_pins (wsV RX6 150 RX6 yX6_lessTimer2 wsX6_lessTimer2) := goodIn_app (goodIn_of _ (by decide +kernel)) ggX6_pins_X6_lessTimer2
theorem dX6_pins_0 : decode cX6_pins 0 = .ok (.aload_n 0, 1) := by decide +kernel
theorem dX6_pins_1 : decode cX6_pins 1 = .ok (.iload_n 1, 1) := by decide +kernel
theorem dX6_pins_2 : decode cX6_pins 2 = .ok (.invokestatic 123, 3) := by decide +kernel
theorem dX6_pins_5 : decode cX6_pins 5 = .ok (.ifCond .ne 10, 3) := by decide +kernel
theorem dX6_pins_8 : decode cX6_pins 8 = .ok (.iload_n 2, 1) := by decide +kernel
theorem dX6_pins_9 : decode cX6_pins 9 = .ok (.invokestatic 123, 3) := by decide +kernel
theorem dX6_pins_12 : decode cX6_pins 12 = .ok (.ifCond .eq 7, 3) := by decide +kernel
theorem dX6_pins_15 : decode cX6_pins 15 = .ok (.iconst 1, 1) := by decide +kernel
theorem dX6_pins_16 : decode cX6_pins 16 = .ok (.goto 4, 3) := by decide +kernel
theorem dX6_pins_19 : decode cX6_pins 19 = .ok (.iconst 0, 1) := by decide +kernel
theorem dX6_pins_20 : decode cX6_pins 20 = .ok (.putfield 16, 3) := by decide +kernel
theorem dX6_pins_23 : decode cX6_pins 23 = .ok (.aload_n 0, 1) := by decide +kernel
theorem dX6_pins_24 : decode cX6_pins 24 = .ok (.getfield 16, 3) := by decide +kernel
theorem dX6_pins_27 : decode cX6_pins 27 = .ok (.ifCond .le 4, 3) := by decide +kernel
theorem dX6_pins_30 : decode cX6_pins 30 = .ok (.return_, 1) := by decide +kernel
theorem dX6_pins_31 : decode cX6_pins 31 = .ok (.aload_n 0, 1) := by decide +kernel
theorem dX6_pins_32 : decode cX6_pins 32 = .ok (.getfield 120, 3) := by decide +kernel
theorem dX6_pins_35 : decode cX6_pins 35 = .ok (.bipush 64, 2) := by decide +kernel
theorem dX6_pins_37 : decode cX6_pins 37 = .ok (.iand, 1) := by decide +kernel
theorem dX6_pins_38 : decode cX6_pins 38 = .ok (.ifCond .eq 14, 3) := by decide +kernel
theorem dX6_pins_41 : decode cX6_pins 41 = .ok (.iload_n 2, 1) := by decide +kernel
theorem dX6_pins_42 : decode cX6_pins 42 = .ok (.bipush 64, 2) := by decide +kernel
theorem dX6_pins_44 : decode cX6_pins 44 = .ok (.iand, 1) := by decide +kernel
theorem dX6_pins_45 : decode cX6_pins 45 = .ok (.ifCond .ne 7, 3) := by decide +kernel
theorem dX6_pins_48 : decode cX6_pins 48 = .ok (.iconst 1, 1) := by decide +kernel
theorem dX6_pins_49 : decode cX6_pins 49 = .ok (.goto 4, 3) := by decide +kernel
theorem dX6_pins_52 : decode cX6_pins 52 = .ok (.iconst 0, 1) := by decide +kernel
theorem dX6_pins_53 : decode cX6_pins 53 = .ok (.istore_n 3, 1) := by decide +kernel
theorem dX6_pins_54 : decode cX6_pins 54 = .ok (.aload_n 0, 1) := by decide +kernel
theorem dX6_pins_55 : decode cX6_pins 55 = .ok (.iload_n 1, 1) := by decide +kernel
theorem dX6_pins_56 : decode cX6_pins 56 = .ok (.putfield 117, 3) := by decide +kernel
theorem dX6_pins_59 : decode cX6_pins 59 = .ok (.aload_n 0, 1) := by decide +kernel
theorem dX6_pins_60 : decode cX6_pins 60 = .ok (.iload_n 2, 1) := by decide +kernel
theorem dX6_pins_61 : decode cX6_pins 61 = .ok (.putfield 120, 3) := by decide +kernel
theorem dX6_pins_64 : decode cX6_pins 64 = .ok (.iload_n 3, 1) := by decide +kernel
theorem dX6_pins_65 : decode cX6_pins 65 = .ok (.ifCond .eq 17, 3) := by decide +kernel
theorem dX6_pins_68 : decode cX6_pins 68 = .ok (.aload_n 0, 1) := by decide +kernel
theorem dX6_pins_69 : decode cX6_pins 69 = .ok (.getfield 32, 3) := by decide +kernel
theorem dX6_pins_72 : decode cX6_pins 72 = .ok (.bipush 32, 2) := by decide +kernel
theorem dX6_pins_74 : decode cX6_pins 74 = .ok (.iand, 1) := by decide +kernel
theorem dX6_pins_75 : decode cX6_pins 75 = .ok (.ifCond .eq 7, 3) := by decide +kernel
theorem dX6_pins_78 : decode cX6_pins 78 = .ok (.aload_n 0, 1) := by decide +kernel
theorem dX6_pins_79 : decode cX6_pins 79 = .ok (.invokevirtual 150, 3) := by decide +kernel
theorem dX6_pins_82 : decode cX6_pins 82 = .ok (.return_, 1) := by decide +kernel
set_option maxRecDepth 20000 in
theorem ggX6_line_X6_wayA : GoodIn wsX6_line wsX6_wayA := goodIn_r _ [14, 3, 24, 25, 26, 27, 28, 29, 30, 31, 32, 33, 34, 35, 36, 37, 38, 39, 40, 41, 42, 43, 44, 45, 46, 47, 48, 49, 50, 51, 52, 53, 54] (by decide +kernel) (by decide +kernel)
set_option maxRecDepth 20000 in
theorem gX6_line_X6_wayA : GoodIn wsX6_line (wsV RX6 106 RX6 yX6_wayA wsX6_wayA) := goodIn_app (goodIn_of _ (by decide +kernel)) ggX6_line_X6_wayA
set_option maxRecDepth 20000 in
theorem ggX6_line_X6_wayB : GoodIn wsX6_line wsX6_wayB := goodIn_r _ [18, 3, 24, 25, 26, 27, 28, 29, 30, 31, 32, 33, 34, 35, 36, 37, 38, 39, 40, 41, 42, 43, 44, 45, 46, 47, 48, 49, 50, 51, 52, 53, 54] (by decide +kernel) (by decide +kernel)
set_option maxRecDepth 20000 in
theorem gX6_line_X6_wayB : GoodIn wsX6_line (wsV RX6 110 RX6 yX6_wayB wsX6_wayB) := goodIn_app (goodIn_of _ (by decide +kernel)) ggX6_line_X6_wayB
set_option maxRecDepth 20000 in
theorem ggX6_line_X6_set : GoodIn wsX6_line wsX6_set := goodIn_r _ [22, 23, 24, 25, 26, 27, 28, 29, 30, 31, 32, 33, 34, 35, 36, 37, 38, 39, 40, 41, 42, 43, 44, 45, 46, 47, 48, 49, 50, 51, 52, 53, 54] (by decide +kernel) (by decide +kernel)
set_option maxRecDepth 20000 in
theorem gX6_line_X6_set : GoodIn wsX6_line (wsV RX6 147 RX6 yX6_set wsX6_set) := goodIn_app (goodIn_of _ (by decide +kernel)) ggX6_line_X6_set
theorem dX6_line_0 : decode cX6_line 0 = .ok (.aload_n 0, 1) := by decide +kernel
theorem dX6_line_1 : decode cX6_line 1 = .ok (.iload_n 1, 1) := by decide +kernel
theorem dX6_line_2 : decode cX6_line 2 = .ok (.ifCond .lt 8, 3) := by decide +kernel
theorem dX6_line_5 : decode cX6_line 5 = .ok (.iload_n 1, 1) := by decide +kernel
theorem dX6_line_6 : decode cX6_line 6 = .ok (.iconst 3, 1) := by decide +kernel
theorem dX6_line_7 : decode cX6_line 7 = .ok (.if_icmp .le 7, 3) := by decide +kernel
theorem dX6_line_10 : decode cX6_line 10 = .ok (.iconst 1, 1) := by decide +kernel
theorem dX6_line_11 : decode cX6_line 11 = .ok (.goto 4, 3) := by decide +kernel
theorem dX6_line_14 : decode cX6_line 14 = .ok (.iconst 0, 1) := by decide +kernel
theorem dX6_line_15 : decode cX6_line 15 = .ok (.putfield 16, 3) := by decide +kernel
theorem dX6_line_18 : decode cX6_line 18 = .ok (.aload_n 0, 1) := by decide +kernel
theorem dX6_line_19 : decode cX6_line 19 = .ok (.getfield 16, 3) := by decide +kernel
theorem dX6_line_22 : decode cX6_line 22 = .ok (.ifCond .le 5, 3) := by decide +kernel
theorem dX6_line_25 : decode cX6_line 25 = .ok (.iconst 0, 1) := by decide +kernel
theorem dX6_line_26 : decode cX6_line 26 = .ok (.ireturn, 1) := by decide +kernel
theorem dX6_line_27 : decode cX6_line 27 = .ok (.aload_n 0, 1) := by decide +kernel
theorem dX6_line_28 : decode cX6_line 28 = .ok (.getfield 7, 3) := by decide +kernel
theorem dX6_line_31 : decode cX6_line 31 = .ok (.iload_n 1, 1) := by decide +kernel
theorem dX6_line_32 : decode cX6_line 32 = .ok (.baload, 1) := by decide +kernel
theorem dX6_line_33 : decode cX6_line 33 = .ok (.iload_n 2, 1) := by decide +kernel
theorem dX6_line_34 : decode cX6_line 34 = .ok (.if_icmp .eq 7, 3) := by decide +kernel
theorem dX6_line_37 : decode cX6_line 37 = .ok (.iconst 1, 1) := by decide +kernel
theorem dX6_line_38 : decode cX6_line 38 = .ok (.goto 4, 3) := by decide +kernel
theorem dX6_line_41 : decode cX6_line 41 = .ok (.iconst 0, 1) := by decide +kernel
theorem dX6_line_42 : decode cX6_line 42 = .ok (.istore_n 3, 1) := by decide +kernel
theorem dX6_line_43 : decode cX6_line 43 = .ok (.aload_n 0, 1) := by decide +kernel
theorem dX6_line_44 : decode cX6_line 44 = .ok (.getfield 7, 3) := by decide +kernel
theorem dX6_line_47 : decode cX6_line 47 = .ok (.iload_n 1, 1) := by decide +kernel
theorem dX6_line_48 : decode cX6_line 48 = .ok (.iload_n 2, 1) := by decide +kernel
theorem dX6_line_49 : decode cX6_line 49 = .ok (.bastore, 1) := by decide +kernel
theorem dX6_line_50 : decode cX6_line 50 = .ok (.iload_n 1, 1) := by decide +kernel
theorem dX6_line_51 : decode cX6_line 51 = .ok (.ifCond .ne 21, 3) := by decide +kernel
theorem dX6_line_54 : decode cX6_line 54 = .ok (.aload_n 0, 1) := by decide +kernel
theorem dX6_line_55 : decode cX6_line 55 = .ok (.getfield 35, 3) := by decide +kernel
theorem dX6_line_58 : decode cX6_line 58 = .ok (.iconst 1, 1) := by decide +kernel
theorem dX6_line_59 : decode cX6_line 59 = .ok (.iand, 1) := by decide +kernel
theorem dX6_line_60 : decode cX6_line 60 = .ok (.iconst 1, 1) := by decide +kernel
theorem dX6_line_61 : decode cX6_line 61 = .ok (.if_icmp .ne 7, 3) := by decide +kernel
theorem dX6_line_64 : decode cX6_line 64 = .ok (.iconst 1, 1) := by decide +kernel
theorem dX6_line_65 : decode cX6_line 65 = .ok (.goto 66, 3) := by decide +kernel
theorem dX6_line_68 : decode cX6_line 68 = .ok (.iconst 0, 1) := by decide +kernel
theorem dX6_line_69 : decode cX6_line 69 = .ok (.goto 62, 3) := by decide +kernel
theorem dX6_line_72 : decode cX6_line 72 = .ok (.iload_n 1, 1) := by decide +kernel
theorem dX6_line_73 : decode cX6_line 73 = .ok (.iconst 1, 1) := by decide +kernel
theorem dX6_line_74 : decode cX6_line 74 = .ok (.if_icmp .ne 19, 3) := by decide +kernel
theorem dX6_line_77 : decode cX6_line 77 = .ok (.aload_n 0, 1) := by decide +kernel
theorem dX6_line_78 : decode cX6_line 78 = .ok (.invokevirtual 106, 3) := by decide +kernel
theorem dX6_line_81 : decode cX6_line 81 = .ok (.iconst 1, 1) := by decide +kernel
theorem dX6_line_82 : decode cX6_line 82 = .ok (.if_icmp .le 7, 3) := by decide +kernel
theorem dX6_line_85 : decode cX6_line 85 = .ok (.iconst 1, 1) := by decide +kernel
theorem dX6_line_86 : decode cX6_line 86 = .ok (.goto 45, 3) := by decide +kernel
theorem dX6_line_89 : decode cX6_line 89 = .ok (.iconst 0, 1) := by decide +kernel
theorem dX6_line_90 : decode cX6_line 90 = .ok (.goto 41, 3) := by decide +kernel
theorem dX6_line_93 : decode cX6_line 93 = .ok (.iload_n 1, 1) := by decide +kernel
theorem dX6_line_94 : decode cX6_line 94 = .ok (.iconst 2, 1) := by decide +kernel
theorem dX6_line_95 : decode cX6_line 95 = .ok (.if_icmp .ne 23, 3) := by decide +kernel
theorem dX6_line_98 : decode cX6_line 98 = .ok (.aload_n 0, 1) := by decide +kernel
theorem dX6_line_99 : decode cX6_line 99 = .ok (.getfield 35, 3) := by decide +kernel
theorem dX6_line_102 : decode cX6_line 102 = .ok (.bipush 16, 2) := by decide +kernel
theorem dX6_line_104 : decode cX6_line 104 = .ok (.iand, 1) := by decide +kernel
theorem dX6_line_105 : decode cX6_line 105 = .ok (.bipush 16, 2) := by decide +kernel
theorem dX6_line_107 : decode cX6_line 107 = .ok (.if_icmp .ne 7, 3) := by decide +kernel
theorem dX6_line_110 : decode cX6_line 110 = .ok (.iconst 1, 1) := by decide +kernel
theorem dX6_line_111 : decode cX6_line 111 = .ok (.goto 20, 3) := by decide +kernel
theorem dX6_line_114 : decode cX6_line 114 = .ok (.iconst 0, 1) := by decide +kernel
theorem dX6_line_115 : decode cX6_line 115 = .ok (.goto 16, 3) := by decide +kernel
theorem dX6_line_118 : decode cX6_line 118 = .ok (.aload_n 0, 1) := by decide +kernel
theorem dX6_line_119 : decode cX6_line 119 = .ok (.invokevirtual 110, 3) := by decide +kernel
theorem dX6_line_122 : decode cX6_line 122 = .ok (.iconst 1, 1) := by decide +kernel
theorem dX6_line_123 : decode cX6_line 123 = .ok (.if_icmp .le 7, 3) := by decide +kernel
theorem dX6_line_126 : decode cX6_line 126 = .ok (.iconst 1, 1) := by decide +kernel
theorem dX6_line_127 : decode cX6_line 127 = .ok (.goto 4, 3) := by decide +kernel
theorem dX6_line_130 : decode cX6_line 130 = .ok (.iconst 0, 1) := by decide +kernel
theorem dX6_line_131 : decode cX6_line 131 = .ok (.istore 4, 2) := by decide +kernel
theorem dX6_line_133 : decode cX6_line 133 = .ok (.iload_n 1, 1) := by decide +kernel
theorem dX6_line_134 : decode cX6_line 134 = .ok (.iconst 1, 1) := by decide +kernel
theorem dX6_line_135 : decode cX6_line 135 = .ok (.if_icmp .ne 19, 3) := by decide +kernel
theorem dX6_line_138 : decode cX6_line 138 = .ok (.aload_n 0, 1) := by decide +kernel
theorem dX6_line_139 : decode cX6_line 139 = .ok (.invokevirtual 106, 3) := by decide +kernel
theorem dX6_line_142 : decode cX6_line 142 = .ok (.iconst 4, 1) := by decide +kernel
theorem dX6_line_143 : decode cX6_line 143 = .ok (.if_icmp .ge 7, 3) := by decide +kernel
theorem dX6_line_146 : decode cX6_line 146 = .ok (.iconst 1, 1) := by decide +kernel
theorem dX6_line_147 : decode cX6_line 147 = .ok (.goto 29, 3) := by decide +kernel
theorem dX6_line_150 : decode cX6_line 150 = .ok (.iconst 0, 1) := by decide +kernel
theorem dX6_line_151 : decode cX6_line 151 = .ok (.goto 25, 3) := by decide +kernel
theorem dX6_line_154 : decode cX6_line 154 = .ok (.iload_n 1, 1) := by decide +kernel
theorem dX6_line_155 : decode cX6_line 155 = .ok (.iconst 3, 1) := by decide +kernel
theorem dX6_line_156 : decode cX6_line 156 = .ok (.if_icmp .ne 19, 3) := by decide +kernel
theorem dX6_line_159 : decode cX6_line 159 = .ok (.aload_n 0, 1) := by decide +kernel
theorem dX6_line_160 : decode cX6_line 160 = .ok (.invokevirtual 110, 3) := by decide +kernel
theorem dX6_line_163 : decode cX6_line 163 = .ok (.iconst 4, 1) := by decide +kernel
theorem dX6_line_164 : decode cX6_line 164 = .ok (.if_icmp .ge 7, 3) := by decide +kernel
theorem dX6_line_167 : decode cX6_line 167 = .ok (.iconst 1, 1) := by decide +kernel
theorem dX6_line_168 : decode cX6_line 168 = .ok (.goto 8, 3) := by decide +kernel
theorem dX6_line_171 : decode cX6_line 171 = .ok (.iconst 0, 1) := by decide +kernel
theorem dX6_line_172 : decode cX6_line 172 = .ok (.goto 4, 3) := by decide +kernel
theorem dX6_line_175 : decode cX6_line 175 = .ok (.iconst 1, 1) := by decide +kernel
theorem dX6_line_176 : decode cX6_line 176 = .ok (.istore 5, 2) := by decide +kernel
theorem dX6_line_178 : decode cX6_line 178 = .ok (.iload_n 3, 1) := by decide +kernel
theorem dX6_line_179 : decode cX6_line 179 = .ok (.ifCond .eq 14, 3) := by decide +kernel
theorem dX6_line_182 : decode cX6_line 182 = .ok (.iload 5, 2) := by decide +kernel
theorem dX6_line_184 : decode cX6_line 184 = .ok (.ifCond .eq 9, 3) := by decide +kernel
theorem dX6_line_187 : decode cX6_line 187 = .ok (.iload 4, 2) := by decide +kernel
theorem dX6_line_189 : decode cX6_line 189 = .ok (.iload_n 2, 1) := by decide +kernel
theorem dX6_line_190 : decode cX6_line 190 = .ok (.if_icmp .eq 5, 3) := by decide +kernel
theorem dX6_line_193 : decode cX6_line 193 = .ok (.iconst 0, 1) := by decide +kernel
theorem dX6_line_194 : decode cX6_line 194 = .ok (.ireturn, 1) := by decide +kernel
theorem dX6_line_195 : decode cX6_line 195 = .ok (.iload_n 1, 1) := by decide +kernel
theorem dX6_line_196 : decode cX6_line 196 = .ok (.ifCond .ne 24, 3) := by decide +kernel
theorem dX6_line_199 : decode cX6_line 199 = .ok (.aload_n 0, 1) := by decide +kernel
theorem dX6_line_200 : decode cX6_line 200 = .ok (.iconst 1, 1) := by decide +kernel
theorem dX6_line_201 : decode cX6_line 201 = .ok (.invokevirtual 147, 3) := by decide +kernel
theorem dX6_line_204 : decode cX6_line 204 = .ok (.aload_n 0, 1) := by decide +kernel
theorem dX6_line_205 : decode cX6_line 205 = .ok (.aload_n 0, 1) := by decide +kernel
theorem dX6_line_206 : decode cX6_line 206 = .ok (.getfield 117, 3) := by decide +kernel
theorem dX6_line_209 : decode cX6_line 209 = .ok (.putfield 44, 3) := by decide +kernel
theorem dX6_line_212 : decode cX6_line 212 = .ok (.aload_n 0, 1) := by decide +kernel
theorem dX6_line_213 : decode cX6_line 213 = .ok (.iconst 0, 1) := by decide +kernel
theorem dX6_line_214 : decode cX6_line 214 = .ok (.putfield 50, 3) := by decide +kernel
theorem dX6_line_217 : decode cX6_line 217 = .ok (.goto 47, 3) := by decide +kernel
theorem dX6_line_220 : decode cX6_line 220 = .ok (.iload_n 1, 1) := by decide +kernel
theorem dX6_line_221 : decode cX6_line 221 = .ok (.iconst 1, 1) := by decide +kernel
theorem dX6_line_222 : decode cX6_line 222 = .ok (.if_icmp .ne 11, 3) := by decide +kernel
theorem dX6_line_225 : decode cX6_line 225 = .ok (.aload_n 0, 1) := by decide +kernel
theorem dX6_line_226 : decode cX6_line 226 = .ok (.iconst 0, 1) := by decide +kernel
theorem dX6_line_227 : decode cX6_line 227 = .ok (.invokevirtual 147, 3) := by decide +kernel
theorem dX6_line_230 : decode cX6_line 230 = .ok (.goto 34, 3) := by decide +kernel
theorem dX6_line_233 : decode cX6_line 233 = .ok (.iload_n 1, 1) := by decide +kernel
theorem dX6_line_234 : decode cX6_line 234 = .ok (.iconst 2, 1) := by decide +kernel
theorem dX6_line_235 : decode cX6_line 235 = .ok (.if_icmp .ne 24, 3) := by decide +kernel
theorem dX6_line_238 : decode cX6_line 238 = .ok (.aload_n 0, 1) := by decide +kernel
theorem dX6_line_239 : decode cX6_line 239 = .ok (.iconst 4, 1) := by decide +kernel
theorem dX6_line_240 : decode cX6_line 240 = .ok (.invokevirtual 147, 3) := by decide +kernel
theorem dX6_line_243 : decode cX6_line 243 = .ok (.aload_n 0, 1) := by decide +kernel
theorem dX6_line_244 : decode cX6_line 244 = .ok (.aload_n 0, 1) := by decide +kernel
theorem dX6_line_245 : decode cX6_line 245 = .ok (.getfield 120, 3) := by decide +kernel
theorem dX6_line_248 : decode cX6_line 248 = .ok (.putfield 47, 3) := by decide +kernel
theorem dX6_line_251 : decode cX6_line 251 = .ok (.aload_n 0, 1) := by decide +kernel
theorem dX6_line_252 : decode cX6_line 252 = .ok (.iconst 0, 1) := by decide +kernel
theorem dX6_line_253 : decode cX6_line 253 = .ok (.putfield 57, 3) := by decide +kernel
theorem dX6_line_256 : decode cX6_line 256 = .ok (.goto 8, 3) := by decide +kernel
theorem dX6_line_259 : decode cX6_line 259 = .ok (.aload_n 0, 1) := by decide +kernel
theorem dX6_line_260 : decode cX6_line 260 = .ok (.iconst 3, 1) := by decide +kernel
theorem dX6_line_261 : decode cX6_line 261 = .ok (.invokevirtual 147, 3) := by decide +kernel
theorem dX6_line_264 : decode cX6_line 264 = .ok (.iconst 1, 1) := by decide +kernel
theorem dX6_line_265 : decode cX6_line 265 = .ok (.ireturn, 1) := by decide +kernel
set_option maxRecDepth 20000 in
theorem ggX6_cycleOfTimer1_X6_set : GoodIn wsX6_cycleOfTimer1 wsX6_set := goodIn_r _ [12, 13, 14, 15, 16, 17, 18, 19, 20, 21, 22, 23, 24, 25, 26, 27, 28, 29, 30, 31, 32, 33, 34, 35, 36, 37, 38, 39, 40, 41, 42, 43, 44] (by decide +kernel) (by decide +kernel)
set_option maxRecDepth 20000 in
theorem gX6_cycleOfTimer1_X6_set : GoodIn wsX6_cycleOfTimer1 (wsV RX6 147 RX6 yX6_set wsX6_set) := goodIn_app (goodIn_of _ (by decide +kernel)) ggX6_cycleOfTimer1_X6_set
theorem dX6_cycleOfTimer1_0 : decode cX6_cycleOfTimer1 0 = .ok (.aload_n 0, 1) := by decide +kernel
theorem dX6_cycleOfTimer1_1 : decode cX6_cycleOfTimer1 1 = .ok (.getfield 32, 3) := by decide +kernel
theorem dX6_cycleOfTimer1_4 : decode cX6_cycleOfTimer1 4 = .ok (.bipush 64, 2) := by decide +kernel
theorem dX6_cycleOfTimer1_6 : decode cX6_cycleOfTimer1 6 = .ok (.iand, 1) := by decide +kernel
theorem dX6_cycleOfTimer1_7 : decode cX6_cycleOfTimer1 7 = .ok (.ifCond .eq 7, 3) := by decide +kernel
theorem dX6_cycleOfTimer1_10 : decode cX6_cycleOfTimer1 10 = .ok (.iconst 1, 1) := by decide +kernel
theorem dX6_cycleOfTimer1_11 : decode cX6_cycleOfTimer1 11 = .ok (.goto 4, 3) := by decide +kernel
theorem dX6_cycleOfTimer1_14 : decode cX6_cycleOfTimer1 14 = .ok (.iconst 0, 1) := by decide +kernel
theorem dX6_cycleOfTimer1_15 : decode cX6_cycleOfTimer1 15 = .ok (.istore_n 1, 1) := by decide +kernel
theorem dX6_cycleOfTimer1_16 : decode cX6_cycleOfTimer1 16 = .ok (.aload_n 0, 1) := by decide +kernel
theorem dX6_cycleOfTimer1_17 : decode cX6_cycleOfTimer1 17 = .ok (.getfield 72, 3) := by decide +kernel
theorem dX6_cycleOfTimer1_20 : decode cX6_cycleOfTimer1 20 = .ok (.ifCond .eq 21, 3) := by decide +kernel
theorem dX6_cycleOfTimer1_23 : decode cX6_cycleOfTimer1 23 = .ok (.iload_n 1, 1) := by decide +kernel
theorem dX6_cycleOfTimer1_24 : decode cX6_cycleOfTimer1 24 = .ok (.ifCond .eq 17, 3) := by decide +kernel
theorem dX6_cycleOfTimer1_27 : decode cX6_cycleOfTimer1 27 = .ok (.aload_n 0, 1) := by decide +kernel
theorem dX6_cycleOfTimer1_28 : decode cX6_cycleOfTimer1 28 = .ok (.aload_n 0, 1) := by decide +kernel
theorem dX6_cycleOfTimer1_29 : decode cX6_cycleOfTimer1 29 = .ok (.getfield 66, 3) := by decide +kernel
theorem dX6_cycleOfTimer1_32 : decode cX6_cycleOfTimer1 32 = .ok (.putfield 63, 3) := by decide +kernel
theorem dX6_cycleOfTimer1_35 : decode cX6_cycleOfTimer1 35 = .ok (.aload_n 0, 1) := by decide +kernel
theorem dX6_cycleOfTimer1_36 : decode cX6_cycleOfTimer1 36 = .ok (.iconst 0, 1) := by decide +kernel
theorem dX6_cycleOfTimer1_37 : decode cX6_cycleOfTimer1 37 = .ok (.putfield 72, 3) := by decide +kernel
theorem dX6_cycleOfTimer1_40 : decode cX6_cycleOfTimer1 40 = .ok (.return_, 1) := by decide +kernel
theorem dX6_cycleOfTimer1_41 : decode cX6_cycleOfTimer1 41 = .ok (.aload_n 0, 1) := by decide +kernel
theorem dX6_cycleOfTimer1_42 : decode cX6_cycleOfTimer1 42 = .ok (.iconst 0, 1) := by decide +kernel
theorem dX6_cycleOfTimer1_43 : decode cX6_cycleOfTimer1 43 = .ok (.putfield 72, 3) := by decide +kernel
theorem dX6_cycleOfTimer1_46 : decode cX6_cycleOfTimer1 46 = .ok (.aload_n 0, 1) := by decide +kernel
theorem dX6_cycleOfTimer1_47 : decode cX6_cycleOfTimer1 47 = .ok (.aload_n 0, 1) := by decide +kernel
theorem dX6_cycleOfTimer1_48 : decode cX6_cycleOfTimer1 48 = .ok (.getfield 63, 3) := by decide +kernel
theorem dX6_cycleOfTimer1_51 : decode cX6_cycleOfTimer1 51 = .ok (.iconst 1, 1) := by decide +kernel
theorem dX6_cycleOfTimer1_52 : decode cX6_cycleOfTimer1 52 = .ok (.isub, 1) := by decide +kernel
theorem dX6_cycleOfTimer1_53 : decode cX6_cycleOfTimer1 53 = .ok (.ldc 146, 2) := by decide +kernel
theorem dX6_cycleOfTimer1_55 : decode cX6_cycleOfTimer1 55 = .ok (.iand, 1) := by decide +kernel
theorem dX6_cycleOfTimer1_56 : decode cX6_cycleOfTimer1 56 = .ok (.putfield 63, 3) := by decide +kernel
theorem dX6_cycleOfTimer1_59 : decode cX6_cycleOfTimer1 59 = .ok (.aload_n 0, 1) := by decide +kernel
theorem dX6_cycleOfTimer1_60 : decode cX6_cycleOfTimer1 60 = .ok (.getfield 63, 3) := by decide +kernel
theorem dX6_cycleOfTimer1_63 : decode cX6_cycleOfTimer1 63 = .ok (.ldc 146, 2) := by decide +kernel
theorem dX6_cycleOfTimer1_65 : decode cX6_cycleOfTimer1 65 = .ok (.if_icmp .eq 4, 3) := by decide +kernel
theorem dX6_cycleOfTimer1_68 : decode cX6_cycleOfTimer1 68 = .ok (.return_, 1) := by decide +kernel
theorem dX6_cycleOfTimer1_69 : decode cX6_cycleOfTimer1 69 = .ok (.iload_n 1, 1) := by decide +kernel
theorem dX6_cycleOfTimer1_70 : decode cX6_cycleOfTimer1 70 = .ok (.ifCond .eq 33, 3) := by decide +kernel
theorem dX6_cycleOfTimer1_73 : decode cX6_cycleOfTimer1 73 = .ok (.aload_n 0, 1) := by decide +kernel
theorem dX6_cycleOfTimer1_74 : decode cX6_cycleOfTimer1 74 = .ok (.bipush 6, 2) := by decide +kernel
theorem dX6_cycleOfTimer1_76 : decode cX6_cycleOfTimer1 76 = .ok (.invokevirtual 147, 3) := by decide +kernel
theorem dX6_cycleOfTimer1_79 : decode cX6_cycleOfTimer1 79 = .ok (.aload_n 0, 1) := by decide +kernel
theorem dX6_cycleOfTimer1_80 : decode cX6_cycleOfTimer1 80 = .ok (.aload_n 0, 1) := by decide +kernel
theorem dX6_cycleOfTimer1_81 : decode cX6_cycleOfTimer1 81 = .ok (.getfield 75, 3) := by decide +kernel
theorem dX6_cycleOfTimer1_84 : decode cX6_cycleOfTimer1 84 = .ok (.ifCond .ne 7, 3) := by decide +kernel
theorem dX6_cycleOfTimer1_87 : decode cX6_cycleOfTimer1 87 = .ok (.iconst 1, 1) := by decide +kernel
theorem dX6_cycleOfTimer1_88 : decode cX6_cycleOfTimer1 88 = .ok (.goto 4, 3) := by decide +kernel
theorem dX6_cycleOfTimer1_91 : decode cX6_cycleOfTimer1 91 = .ok (.iconst 0, 1) := by decide +kernel
theorem dX6_cycleOfTimer1_92 : decode cX6_cycleOfTimer1 92 = .ok (.putfield 75, 3) := by decide +kernel
theorem dX6_cycleOfTimer1_95 : decode cX6_cycleOfTimer1 95 = .ok (.aload_n 0, 1) := by decide +kernel
theorem dX6_cycleOfTimer1_96 : decode cX6_cycleOfTimer1 96 = .ok (.iconst 1, 1) := by decide +kernel
theorem dX6_cycleOfTimer1_97 : decode cX6_cycleOfTimer1 97 = .ok (.putfield 72, 3) := by decide +kernel
theorem dX6_cycleOfTimer1_100 : decode cX6_cycleOfTimer1 100 = .ok (.goto 26, 3) := by decide +kernel
theorem dX6_cycleOfTimer1_103 : decode cX6_cycleOfTimer1 103 = .ok (.aload_n 0, 1) := by decide +kernel
theorem dX6_cycleOfTimer1_104 : decode cX6_cycleOfTimer1 104 = .ok (.getfield 69, 3) := by decide +kernel
theorem dX6_cycleOfTimer1_107 : decode cX6_cycleOfTimer1 107 = .ok (.ifCond .eq 19, 3) := by decide +kernel
theorem dX6_cycleOfTimer1_110 : decode cX6_cycleOfTimer1 110 = .ok (.aload_n 0, 1) := by decide +kernel
theorem dX6_cycleOfTimer1_111 : decode cX6_cycleOfTimer1 111 = .ok (.bipush 6, 2) := by decide +kernel
theorem dX6_cycleOfTimer1_113 : decode cX6_cycleOfTimer1 113 = .ok (.invokevirtual 147, 3) := by decide +kernel
theorem dX6_cycleOfTimer1_116 : decode cX6_cycleOfTimer1 116 = .ok (.aload_n 0, 1) := by decide +kernel
theorem dX6_cycleOfTimer1_117 : decode cX6_cycleOfTimer1 117 = .ok (.iconst 1, 1) := by decide +kernel
theorem dX6_cycleOfTimer1_118 : decode cX6_cycleOfTimer1 118 = .ok (.putfield 75, 3) := by decide +kernel
theorem dX6_cycleOfTimer1_121 : decode cX6_cycleOfTimer1 121 = .ok (.aload_n 0, 1) := by decide +kernel
theorem dX6_cycleOfTimer1_122 : decode cX6_cycleOfTimer1 122 = .ok (.iconst 0, 1) := by decide +kernel
theorem dX6_cycleOfTimer1_123 : decode cX6_cycleOfTimer1 123 = .ok (.putfield 69, 3) := by decide +kernel
theorem dX6_cycleOfTimer1_126 : decode cX6_cycleOfTimer1 126 = .ok (.return_, 1) := by decide +kernel
set_option maxRecDepth 20000 in
theorem ggX6_cycleOfShifter_X6_mode : GoodIn wsX6_cycleOfShifter wsX6_mode := goodIn_r _ [10, 11, 17, 18, 19, 20, 21, 22, 23, 24, 25, 26, 27, 28, 29, 30, 31, 32, 33, 34, 35, 36, 37, 38, 39, 40, 41, 42, 43, 44, 45, 46, 47] (by decide +kernel) (by decide +kernel)
set_option maxRecDepth 20000 in
theorem gX6_cycleOfShifter_X6_mode : GoodIn wsX6_cycleOfShifter (wsV RX6 153 RX6 yX6_mode wsX6_mode) := goodIn_app (goodIn_of _ (by decide +kernel)) ggX6_cycleOfShifter_X6_mode
set_option maxRecDepth 20000 in
theorem ggX6_cycleOfShifter_X6_set : GoodIn wsX6_cycleOfShifter wsX6_set := goodIn_r _ [15, 16, 17, 18, 19, 20, 21, 22, 23, 24, 25, 26, 27, 28, 29, 30, 31, 32, 33, 34, 35, 36, 37, 38, 39, 40, 41, 42, 43, 44, 45, 46, 47] (by decide +kernel) (by decide +kernel)
set_option maxRecDepth 20000 in
theorem gX6_cycleOfShifter_X6_set : GoodIn wsX6_cycleOfShifter (wsV RX6 147 RX6 yX6_set wsX6_set) := goodIn_app (goodIn_of _ (by decide +kernel)) ggX6_cycleOfShifter_X6_set
theorem dX6_cycleOfShifter_0 : decode cX6_cycleOfShifter 0 = .ok (.aload_n 0, 1) := by decide +kernel
theorem dX6_cycleOfShifter_1 : decode cX6_cycleOfShifter 1 = .ok (.getfield 90, 3) := by decide +kernel
theorem dX6_cycleOfShifter_4 : decode cX6_cycleOfShifter 4 = .ok (.ifCond .eq 20, 3) := by decide +kernel
theorem dX6_cycleOfShifter_7 : decode cX6_cycleOfShifter 7 = .ok (.aload_n 0, 1) := by decide +kernel
theorem dX6_cycleOfShifter_8 : decode cX6_cycleOfShifter 8 = .ok (.invokevirtual 153, 3) := by decide +kernel
theorem dX6_cycleOfShifter_11 : decode cX6_cycleOfShifter 11 = .ok (.iconst 2, 1) := by decide +kernel
theorem dX6_cycleOfShifter_12 : decode cX6_cycleOfShifter 12 = .ok (.if_icmp .eq 13, 3) := by decide +kernel
theorem dX6_cycleOfShifter_15 : decode cX6_cycleOfShifter 15 = .ok (.aload_n 0, 1) := by decide +kernel
theorem dX6_cycleOfShifter_16 : decode cX6_cycleOfShifter 16 = .ok (.invokevirtual 153, 3) := by decide +kernel
theorem dX6_cycleOfShifter_19 : decode cX6_cycleOfShifter 19 = .ok (.bipush 6, 2) := by decide +kernel
theorem dX6_cycleOfShifter_21 : decode cX6_cycleOfShifter 21 = .ok (.if_icmp .eq 4, 3) := by decide +kernel
theorem dX6_cycleOfShifter_24 : decode cX6_cycleOfShifter 24 = .ok (.return_, 1) := by decide +kernel
theorem dX6_cycleOfShifter_25 : decode cX6_cycleOfShifter 25 = .ok (.aload_n 0, 1) := by decide +kernel
theorem dX6_cycleOfShifter_26 : decode cX6_cycleOfShifter 26 = .ok (.dup, 1) := by decide +kernel
theorem dX6_cycleOfShifter_27 : decode cX6_cycleOfShifter 27 = .ok (.getfield 93, 3) := by decide +kernel
theorem dX6_cycleOfShifter_30 : decode cX6_cycleOfShifter 30 = .ok (.iconst 1, 1) := by decide +kernel
theorem dX6_cycleOfShifter_31 : decode cX6_cycleOfShifter 31 = .ok (.isub, 1) := by decide +kernel
theorem dX6_cycleOfShifter_32 : decode cX6_cycleOfShifter 32 = .ok (.putfield 93, 3) := by decide +kernel
theorem dX6_cycleOfShifter_35 : decode cX6_cycleOfShifter 35 = .ok (.aload_n 0, 1) := by decide +kernel
theorem dX6_cycleOfShifter_36 : decode cX6_cycleOfShifter 36 = .ok (.getfield 93, 3) := by decide +kernel
theorem dX6_cycleOfShifter_39 : decode cX6_cycleOfShifter 39 = .ok (.ifCond .le 4, 3) := by decide +kernel
theorem dX6_cycleOfShifter_42 : decode cX6_cycleOfShifter 42 = .ok (.return_, 1) := by decide +kernel
theorem dX6_cycleOfShifter_43 : decode cX6_cycleOfShifter 43 = .ok (.aload_n 0, 1) := by decide +kernel
theorem dX6_cycleOfShifter_44 : decode cX6_cycleOfShifter 44 = .ok (.iconst 2, 1) := by decide +kernel
theorem dX6_cycleOfShifter_45 : decode cX6_cycleOfShifter 45 = .ok (.putfield 93, 3) := by decide +kernel
theorem dX6_cycleOfShifter_48 : decode cX6_cycleOfShifter 48 = .ok (.aload_n 0, 1) := by decide +kernel
theorem dX6_cycleOfShifter_49 : decode cX6_cycleOfShifter 49 = .ok (.getfield 87, 3) := by decide +kernel
theorem dX6_cycleOfShifter_52 : decode cX6_cycleOfShifter 52 = .ok (.bipush 7, 2) := by decide +kernel
theorem dX6_cycleOfShifter_54 : decode cX6_cycleOfShifter 54 = .ok (.ishr, 1) := by decide +kernel
theorem dX6_cycleOfShifter_55 : decode cX6_cycleOfShifter 55 = .ok (.istore_n 1, 1) := by decide +kernel
theorem dX6_cycleOfShifter_56 : decode cX6_cycleOfShifter 56 = .ok (.aload_n 0, 1) := by decide +kernel
theorem dX6_cycleOfShifter_57 : decode cX6_cycleOfShifter 57 = .ok (.invokevirtual 153, 3) := by decide +kernel
theorem dX6_cycleOfShifter_60 : decode cX6_cycleOfShifter 60 = .ok (.iconst 2, 1) := by decide +kernel
theorem dX6_cycleOfShifter_61 : decode cX6_cycleOfShifter 61 = .ok (.if_icmp .ne 20, 3) := by decide +kernel
theorem dX6_cycleOfShifter_64 : decode cX6_cycleOfShifter 64 = .ok (.aload_n 0, 1) := by decide +kernel
theorem dX6_cycleOfShifter_65 : decode cX6_cycleOfShifter 65 = .ok (.getfield 7, 3) := by decide +kernel
theorem dX6_cycleOfShifter_68 : decode cX6_cycleOfShifter 68 = .ok (.iconst 3, 1) := by decide +kernel
theorem dX6_cycleOfShifter_69 : decode cX6_cycleOfShifter 69 = .ok (.baload, 1) := by decide +kernel
theorem dX6_cycleOfShifter_70 : decode cX6_cycleOfShifter 70 = .ok (.ifCond .eq 7, 3) := by decide +kernel
theorem dX6_cycleOfShifter_73 : decode cX6_cycleOfShifter 73 = .ok (.iconst 1, 1) := by decide +kernel
theorem dX6_cycleOfShifter_74 : decode cX6_cycleOfShifter 74 = .ok (.goto 8, 3) := by decide +kernel
theorem dX6_cycleOfShifter_77 : decode cX6_cycleOfShifter 77 = .ok (.iconst 0, 1) := by decide +kernel
theorem dX6_cycleOfShifter_78 : decode cX6_cycleOfShifter 78 = .ok (.goto 4, 3) := by decide +kernel
theorem dX6_cycleOfShifter_81 : decode cX6_cycleOfShifter 81 = .ok (.iload_n 1, 1) := by decide +kernel
theorem dX6_cycleOfShifter_82 : decode cX6_cycleOfShifter 82 = .ok (.istore_n 2, 1) := by decide +kernel
theorem dX6_cycleOfShifter_83 : decode cX6_cycleOfShifter 83 = .ok (.aload_n 0, 1) := by decide +kernel
theorem dX6_cycleOfShifter_84 : decode cX6_cycleOfShifter 84 = .ok (.invokevirtual 153, 3) := by decide +kernel
theorem dX6_cycleOfShifter_87 : decode cX6_cycleOfShifter 87 = .ok (.bipush 6, 2) := by decide +kernel
theorem dX6_cycleOfShifter_89 : decode cX6_cycleOfShifter 89 = .ok (.if_icmp .ne 8, 3) := by decide +kernel
theorem dX6_cycleOfShifter_92 : decode cX6_cycleOfShifter 92 = .ok (.aload_n 0, 1) := by decide +kernel
theorem dX6_cycleOfShifter_93 : decode cX6_cycleOfShifter 93 = .ok (.iload_n 1, 1) := by decide +kernel
theorem dX6_cycleOfShifter_94 : decode cX6_cycleOfShifter 94 = .ok (.putfield 96, 3) := by decide +kernel
theorem dX6_cycleOfShifter_97 : decode cX6_cycleOfShifter 97 = .ok (.aload_n 0, 1) := by decide +kernel
theorem dX6_cycleOfShifter_98 : decode cX6_cycleOfShifter 98 = .ok (.aload_n 0, 1) := by decide +kernel
theorem dX6_cycleOfShifter_99 : decode cX6_cycleOfShifter 99 = .ok (.getfield 87, 3) := by decide +kernel
theorem dX6_cycleOfShifter_102 : decode cX6_cycleOfShifter 102 = .ok (.iconst 1, 1) := by decide +kernel
theorem dX6_cycleOfShifter_103 : decode cX6_cycleOfShifter 103 = .ok (.ishl, 1) := by decide +kernel
theorem dX6_cycleOfShifter_104 : decode cX6_cycleOfShifter 104 = .ok (.sipush 255, 3) := by decide +kernel
theorem dX6_cycleOfShifter_107 : decode cX6_cycleOfShifter 107 = .ok (.iand, 1) := by decide +kernel
theorem dX6_cycleOfShifter_108 : decode cX6_cycleOfShifter 108 = .ok (.iload_n 2, 1) := by decide +kernel
theorem dX6_cycleOfShifter_109 : decode cX6_cycleOfShifter 109 = .ok (.ior, 1) := by decide +kernel
theorem dX6_cycleOfShifter_110 : decode cX6_cycleOfShifter 110 = .ok (.putfield 87, 3) := by decide +kernel
theorem dX6_cycleOfShifter_113 : decode cX6_cycleOfShifter 113 = .ok (.aload_n 0, 1) := by decide +kernel
theorem dX6_cycleOfShifter_114 : decode cX6_cycleOfShifter 114 = .ok (.dup, 1) := by decide +kernel
theorem dX6_cycleOfShifter_115 : decode cX6_cycleOfShifter 115 = .ok (.getfield 90, 3) := by decide +kernel
theorem dX6_cycleOfShifter_118 : decode cX6_cycleOfShifter 118 = .ok (.iconst 1, 1) := by decide +kernel
theorem dX6_cycleOfShifter_119 : decode cX6_cycleOfShifter 119 = .ok (.isub, 1) := by decide +kernel
theorem dX6_cycleOfShifter_120 : decode cX6_cycleOfShifter 120 = .ok (.putfield 90, 3) := by decide +kernel
theorem dX6_cycleOfShifter_123 : decode cX6_cycleOfShifter 123 = .ok (.aload_n 0, 1) := by decide +kernel
theorem dX6_cycleOfShifter_124 : decode cX6_cycleOfShifter 124 = .ok (.getfield 90, 3) := by decide +kernel
theorem dX6_cycleOfShifter_127 : decode cX6_cycleOfShifter 127 = .ok (.ifCond .ne 8, 3) := by decide +kernel
theorem dX6_cycleOfShifter_130 : decode cX6_cycleOfShifter 130 = .ok (.aload_n 0, 1) := by decide +kernel
theorem dX6_cycleOfShifter_131 : decode cX6_cycleOfShifter 131 = .ok (.iconst 2, 1) := by decide +kernel
theorem dX6_cycleOfShifter_132 : decode cX6_cycleOfShifter 132 = .ok (.invokevirtual 147, 3) := by decide +kernel
theorem dX6_cycleOfShifter_135 : decode cX6_cycleOfShifter 135 = .ok (.return_, 1) := by decide +kernel
set_option maxRecDepth 20000 in
theorem ggX6_step_X6_cycleOfTimer1 : GoodIn wsX6_step wsX6_cycleOfTimer1 := goodIn_r _ [11, 3, 12, 13, 14, 15, 16, 17, 18, 19, 20, 10, 21, 22, 47, 48, 49, 50, 51, 52, 53, 54, 55, 56, 57, 58, 59, 60, 61, 62, 63, 64, 65, 66, 67, 68, 69, 70, 71, 72, 73, 74, 75, 76, 77] (by decide +kernel) (by decide +kernel)
set_option maxRecDepth 20000 in
theorem gX6_step_X6_cycleOfTimer1 : GoodIn wsX6_step (wsV RX6 157 RX6 yX6_cycleOfTimer1 wsX6_cycleOfTimer1) := goodIn_app (goodIn_of _ (by decide +kernel)) ggX6_step_X6_cycleOfTimer1
set_option maxRecDepth 20000 in
theorem ggX6_step_X6_lessTimer2 : GoodIn wsX6_step wsX6_lessTimer2 := goodIn_r _ [26, 27, 15, 28, 18, 19, 20, 10, 21, 22, 47, 48, 49, 50, 51, 52, 53, 54, 55, 56, 57, 58, 59, 60, 61, 62, 63, 64, 65, 66, 67, 68, 69, 70, 71, 72, 73, 74, 75, 76, 77] (by decide +kernel) (by decide +kernel)
set_option maxRecDepth 20000 in
theorem gX6_step_X6_lessTimer2 : GoodIn wsX6_step (wsV RX6 150 RX6 yX6_lessTimer2 wsX6_lessTimer2) := goodIn_app (goodIn_of _ (by decide +kernel)) ggX6_step_X6_lessTimer2
set_option maxRecDepth 20000 in
theorem ggX6_step_X6_cycleOfShifter : GoodIn wsX6_step wsX6_cycleOfShifter := goodIn_r _ [32, 33, 34, 35, 36, 37, 38, 39, 40, 10, 41, 3, 18, 19, 20, 21, 22, 47, 48, 49, 50, 51, 52, 53, 54, 55, 56, 57, 58, 59, 60, 61, 62, 63, 64, 65, 66, 67, 68, 69, 70, 71, 72, 73, 74, 75, 76, 77] (by decide +kernel) (by decide +kernel)
set_option maxRecDepth 20000 in
theorem gX6_step_X6_cycleOfShifter : GoodIn wsX6_step (wsV RX6 160 RX6 yX6_cycleOfShifter wsX6_cycleOfShifter) := goodIn_app (goodIn_of _ (by decide +kernel)) ggX6_step_X6_cycleOfShifter
set_option maxRecDepth 20000 in
theorem ggX6_step_X6_allFlags : GoodIn wsX6_step wsX6_allFlags := goodIn_r _ [45, 22, 46, 47, 48, 49, 50, 51, 52, 53, 54, 55, 56, 57, 58, 59, 60, 61, 62, 63, 64, 65, 66, 67, 68, 69, 70, 71, 72, 73, 74, 75, 76, 77] (by decide +kernel) (by decide +kernel)
set_option maxRecDepth 20000 in
theorem gX6_step_X6_allFlags : GoodIn wsX6_step (wsV RX6 143 RX6 yX6_allFlags wsX6_allFlags) := goodIn_app (goodIn_of _ (by decide +kernel)) ggX6_step_X6_allFlags
theorem dX6_step_0 : decode cX6_step 0 = .ok (.aload_n 0, 1) := by decide +kernel
theorem dX6_step_1 : decode cX6_step 1 = .ok (.iload_n 1, 1) := by decide +kernel
theorem dX6_step_2 : decode cX6_step 2 = .ok (.ifCond .lt 9, 3) := by decide +kernel
theorem dX6_step_5 : decode cX6_step 5 = .ok (.iload_n 1, 1) := by decide +kernel
theorem dX6_step_6 : decode cX6_step 6 = .ok (.ldc 156, 2) := by decide +kernel
theorem dX6_step_8 : decode cX6_step 8 = .ok (.if_icmp .le 7, 3) := by decide +kernel
theorem dX6_step_11 : decode cX6_step 11 = .ok (.iconst 1, 1) := by decide +kernel
theorem dX6_step_12 : decode cX6_step 12 = .ok (.goto 4, 3) := by decide +kernel
theorem dX6_step_15 : decode cX6_step 15 = .ok (.iconst 0, 1) := by decide +kernel
theorem dX6_step_16 : decode cX6_step 16 = .ok (.putfield 16, 3) := by decide +kernel
theorem dX6_step_19 : decode cX6_step 19 = .ok (.iconst 0, 1) := by decide +kernel
theorem dX6_step_20 : decode cX6_step 20 = .ok (.istore_n 2, 1) := by decide +kernel
theorem dX6_step_21 : decode cX6_step 21 = .ok (.iload_n 2, 1) := by decide +kernel
theorem dX6_step_22 : decode cX6_step 22 = .ok (.iload_n 1, 1) := by decide +kernel
theorem dX6_step_23 : decode cX6_step 23 = .ok (.if_icmp .ge 58, 3) := by decide +kernel
theorem dX6_step_26 : decode cX6_step 26 = .ok (.aload_n 0, 1) := by decide +kernel
theorem dX6_step_27 : decode cX6_step 27 = .ok (.getfield 16, 3) := by decide +kernel
theorem dX6_step_30 : decode cX6_step 30 = .ok (.ifCond .ne 51, 3) := by decide +kernel
theorem dX6_step_33 : decode cX6_step 33 = .ok (.aload_n 0, 1) := by decide +kernel
theorem dX6_step_34 : decode cX6_step 34 = .ok (.invokevirtual 157, 3) := by decide +kernel
theorem dX6_step_37 : decode cX6_step 37 = .ok (.aload_n 0, 1) := by decide +kernel
theorem dX6_step_38 : decode cX6_step 38 = .ok (.getfield 32, 3) := by decide +kernel
theorem dX6_step_41 : decode cX6_step 41 = .ok (.bipush 32, 2) := by decide +kernel
theorem dX6_step_43 : decode cX6_step 43 = .ok (.iand, 1) := by decide +kernel
theorem dX6_step_44 : decode cX6_step 44 = .ok (.ifCond .ne 7, 3) := by decide +kernel
theorem dX6_step_47 : decode cX6_step 47 = .ok (.aload_n 0, 1) := by decide +kernel
theorem dX6_step_48 : decode cX6_step 48 = .ok (.invokevirtual 150, 3) := by decide +kernel
theorem dX6_step_51 : decode cX6_step 51 = .ok (.aload_n 0, 1) := by decide +kernel
theorem dX6_step_52 : decode cX6_step 52 = .ok (.invokevirtual 160, 3) := by decide +kernel
theorem dX6_step_55 : decode cX6_step 55 = .ok (.aload_n 0, 1) := by decide +kernel
theorem dX6_step_56 : decode cX6_step 56 = .ok (.iconst 0, 1) := by decide +kernel
theorem dX6_step_57 : decode cX6_step 57 = .ok (.putfield 54, 3) := by decide +kernel
theorem dX6_step_60 : decode cX6_step 60 = .ok (.aload_n 0, 1) := by decide +kernel
theorem dX6_step_61 : decode cX6_step 61 = .ok (.iconst 0, 1) := by decide +kernel
theorem dX6_step_62 : decode cX6_step 62 = .ok (.putfield 60, 3) := by decide +kernel
theorem dX6_step_65 : decode cX6_step 65 = .ok (.aload_n 0, 1) := by decide +kernel
theorem dX6_step_66 : decode cX6_step 66 = .ok (.dup, 1) := by decide +kernel
theorem dX6_step_67 : decode cX6_step 67 = .ok (.getfield 99, 3) := by decide +kernel
theorem dX6_step_70 : decode cX6_step 70 = .ok (.iconst 1, 1) := by decide +kernel
theorem dX6_step_71 : decode cX6_step 71 = .ok (.iadd, 1) := by decide +kernel
theorem dX6_step_72 : decode cX6_step 72 = .ok (.putfield 99, 3) := by decide +kernel
theorem dX6_step_75 : decode cX6_step 75 = .ok (.iinc 2 1, 3) := by decide +kernel
theorem dX6_step_78 : decode cX6_step 78 = .ok (.goto (-57), 3) := by decide +kernel
theorem dX6_step_81 : decode cX6_step 81 = .ok (.aload_n 0, 1) := by decide +kernel
theorem dX6_step_82 : decode cX6_step 82 = .ok (.getfield 16, 3) := by decide +kernel
theorem dX6_step_85 : decode cX6_step 85 = .ok (.ifCond .le 7, 3) := by decide +kernel
theorem dX6_step_88 : decode cX6_step 88 = .ok (.iconst 0, 1) := by decide +kernel
theorem dX6_step_89 : decode cX6_step 89 = .ok (.goto 7, 3) := by decide +kernel
theorem dX6_step_92 : decode cX6_step 92 = .ok (.aload_n 0, 1) := by decide +kernel
theorem dX6_step_93 : decode cX6_step 93 = .ok (.invokevirtual 143, 3) := by decide +kernel
theorem dX6_step_96 : decode cX6_step 96 = .ok (.ireturn, 1) := by decide +kernel
theorem dX6_given_0 : decode cX6_given 0 = .ok (.iload_n 0, 1) := by decide +kernel
theorem dX6_given_1 : decode cX6_given 1 = .ok (.bipush 6, 2) := by decide +kernel
theorem dX6_given_3 : decode cX6_given 3 = .ok (.if_icmp .eq 21, 3) := by decide +kernel
theorem dX6_given_6 : decode cX6_given 6 = .ok (.iload_n 0, 1) := by decide +kernel
theorem dX6_given_7 : decode cX6_given 7 = .ok (.iconst 4, 1) := by decide +kernel
theorem dX6_given_8 : decode cX6_given 8 = .ok (.if_icmp .ne 7, 3) := by decide +kernel
theorem dX6_given_11 : decode cX6_given 11 = .ok (.iload_n 1, 1) := by decide +kernel
theorem dX6_given_12 : decode cX6_given 12 = .ok (.ifCond .ne 12, 3) := by decide +kernel
theorem dX6_given_15 : decode cX6_given 15 = .ok (.iload_n 0, 1) := by decide +kernel
theorem dX6_given_16 : decode cX6_given 16 = .ok (.iconst 5, 1) := by decide +kernel
theorem dX6_given_17 : decode cX6_given 17 = .ok (.if_icmp .ne 11, 3) := by decide +kernel
theorem dX6_given_20 : decode cX6_given 20 = .ok (.iload_n 2, 1) := by decide +kernel
theorem dX6_given_21 : decode cX6_given 21 = .ok (.ifCond .eq 7, 3) := by decide +kernel
theorem dX6_given_24 : decode cX6_given 24 = .ok (.iconst 1, 1) := by decide +kernel
theorem dX6_given_25 : decode cX6_given 25 = .ok (.goto 4, 3) := by decide +kernel
theorem dX6_given_28 : decode cX6_given 28 = .ok (.iconst 0, 1) := by decide +kernel
theorem dX6_given_29 : decode cX6_given 29 = .ok (.istore_n 3, 1) := by decide +kernel
theorem dX6_given_30 : decode cX6_given 30 = .ok (.iload_n 3, 1) := by decide +kernel
theorem dX6_given_31 : decode cX6_given 31 = .ok (.ifCond .eq 7, 3) := by decide +kernel
theorem dX6_given_34 : decode cX6_given 34 = .ok (.iconst 0, 1) := by decide +kernel
theorem dX6_given_35 : decode cX6_given 35 = .ok (.goto 4, 3) := by decide +kernel
theorem dX6_given_38 : decode cX6_given 38 = .ok (.iconst 1, 1) := by decide +kernel
theorem dX6_given_39 : decode cX6_given 39 = .ok (.ireturn, 1) := by decide +kernel
set_option maxRecDepth 20000 in
theorem ggX6_out_X6_wayA : GoodIn wsX6_out wsX6_wayA := goodIn_r _ [19, 20, 32, 33, 34, 35, 36, 37, 38, 39, 40, 41, 42, 43, 44, 45, 46, 47, 48, 49, 50, 51, 52, 53, 54, 55, 56, 57, 58, 59, 60, 61, 62] (by decide +kernel) (by decide +kernel)
set_option maxRecDepth 20000 in
theorem gX6_out_X6_wayA : GoodIn wsX6_out (wsV RX6 106 RX6 yX6_wayA wsX6_wayA) := goodIn_app (goodIn_of _ (by decide +kernel)) ggX6_out_X6_wayA
set_option maxRecDepth 20000 in
theorem ggX6_out_X6_given : GoodIn wsX6_out wsX6_given := goodIn_r _ [23] (by decide +kernel) (by decide +kernel)
set_option maxRecDepth 20000 in
theorem gX6_out_X6_given : GoodIn wsX6_out (va_wsS RX6 163 yX6_given wsX6_given) := goodIn_app (goodIn_of _ (by decide +kernel)) ggX6_out_X6_given
set_option maxRecDepth 20000 in
theorem ggX6_out_X6_wayB : GoodIn wsX6_out wsX6_wayB := goodIn_r _ [27, 20, 32, 33, 34, 35, 36, 37, 38, 39, 40, 41, 42, 43, 44, 45, 46, 47, 48, 49, 50, 51, 52, 53, 54, 55, 56, 57, 58, 59, 60, 61, 62] (by decide +kernel) (by decide +kernel)
set_option maxRecDepth 20000 in
theorem gX6_out_X6_wayB : GoodIn wsX6_out (wsV RX6 110 RX6 yX6_wayB wsX6_wayB) := goodIn_app (goodIn_of _ (by decide +kernel)) ggX6_out_X6_wayB
set_option maxRecDepth 20000 in
theorem ggX6_out_X6_mode : GoodIn wsX6_out wsX6_mode := goodIn_r _ [31, 6, 32, 33, 34, 35, 36, 37, 38, 39, 40, 41, 42, 43, 44, 45, 46, 47, 48, 49, 50, 51, 52, 53, 54, 55, 56, 57, 58, 59, 60, 61, 62] (by decide +kernel) (by decide +kernel)
set_option maxRecDepth 20000 in
theorem gX6_out_X6_mode : GoodIn wsX6_out (wsV RX6 153 RX6 yX6_mode wsX6_mode) := goodIn_app (goodIn_of _ (by decide +kernel)) ggX6_out_X6_mode
theorem dX6_out_0 : decode cX6_out 0 = .ok (.aload_n 0, 1) := by decide +kernel
theorem dX6_out_1 : decode cX6_out 1 = .ok (.iload_n 1, 1) := by decide +kernel
theorem dX6_out_2 : decode cX6_out 2 = .ok (.ifCond .lt 8, 3) := by decide +kernel
theorem dX6_out_5 : decode cX6_out 5 = .ok (.iload_n 1, 1) := by decide +kernel
theorem dX6_out_6 : decode cX6_out 6 = .ok (.iconst 4, 1) := by decide +kernel
theorem dX6_out_7 : decode cX6_out 7 = .ok (.if_icmp .le 7, 3) := by decide +kernel
theorem dX6_out_10 : decode cX6_out 10 = .ok (.iconst 1, 1) := by decide +kernel
theorem dX6_out_11 : decode cX6_out 11 = .ok (.goto 4, 3) := by decide +kernel
theorem dX6_out_14 : decode cX6_out 14 = .ok (.iconst 0, 1) := by decide +kernel
theorem dX6_out_15 : decode cX6_out 15 = .ok (.putfield 16, 3) := by decide +kernel
theorem dX6_out_18 : decode cX6_out 18 = .ok (.aload_n 0, 1) := by decide +kernel
theorem dX6_out_19 : decode cX6_out 19 = .ok (.getfield 16, 3) := by decide +kernel
theorem dX6_out_22 : decode cX6_out 22 = .ok (.ifCond .le 5, 3) := by decide +kernel
theorem dX6_out_25 : decode cX6_out 25 = .ok (.iconst 0, 1) := by decide +kernel
theorem dX6_out_26 : decode cX6_out 26 = .ok (.ireturn, 1) := by decide +kernel
theorem dX6_out_27 : decode cX6_out 27 = .ok (.iload_n 1, 1) := by decide +kernel
theorem dX6_out_28 : decode cX6_out 28 = .ok (.tableswitch 164 0 3 #[32, 42, 92, 120], 32) := by decide +kernel
theorem dX6_out_60 : decode cX6_out 60 = .ok (.aload_n 0, 1) := by decide +kernel
theorem dX6_out_61 : decode cX6_out 61 = .ok (.getfield 20, 3) := by decide +kernel
theorem dX6_out_64 : decode cX6_out 64 = .ok (.aload_n 0, 1) := by decide +kernel
theorem dX6_out_65 : decode cX6_out 65 = .ok (.getfield 26, 3) := by decide +kernel
theorem dX6_out_68 : decode cX6_out 68 = .ok (.iand, 1) := by decide +kernel
theorem dX6_out_69 : decode cX6_out 69 = .ok (.ireturn, 1) := by decide +kernel
theorem dX6_out_70 : decode cX6_out 70 = .ok (.aload_n 0, 1) := by decide +kernel
theorem dX6_out_71 : decode cX6_out 71 = .ok (.getfield 23, 3) := by decide +kernel
theorem dX6_out_74 : decode cX6_out 74 = .ok (.aload_n 0, 1) := by decide +kernel
theorem dX6_out_75 : decode cX6_out 75 = .ok (.getfield 29, 3) := by decide +kernel
theorem dX6_out_78 : decode cX6_out 78 = .ok (.iand, 1) := by decide +kernel
theorem dX6_out_79 : decode cX6_out 79 = .ok (.istore_n 2, 1) := by decide +kernel
theorem dX6_out_80 : decode cX6_out 80 = .ok (.aload_n 0, 1) := by decide +kernel
theorem dX6_out_81 : decode cX6_out 81 = .ok (.getfield 32, 3) := by decide +kernel
theorem dX6_out_84 : decode cX6_out 84 = .ok (.sipush 128, 3) := by decide +kernel
theorem dX6_out_87 : decode cX6_out 87 = .ok (.iand, 1) := by decide +kernel
theorem dX6_out_88 : decode cX6_out 88 = .ok (.ifCond .ne 7, 3) := by decide +kernel
theorem dX6_out_91 : decode cX6_out 91 = .ok (.iload_n 2, 1) := by decide +kernel
theorem dX6_out_92 : decode cX6_out 92 = .ok (.goto 27, 3) := by decide +kernel
theorem dX6_out_95 : decode cX6_out 95 = .ok (.iload_n 2, 1) := by decide +kernel
theorem dX6_out_96 : decode cX6_out 96 = .ok (.bipush 127, 2) := by decide +kernel
theorem dX6_out_98 : decode cX6_out 98 = .ok (.iand, 1) := by decide +kernel
theorem dX6_out_99 : decode cX6_out 99 = .ok (.aload_n 0, 1) := by decide +kernel
theorem dX6_out_100 : decode cX6_out 100 = .ok (.getfield 75, 3) := by decide +kernel
theorem dX6_out_103 : decode cX6_out 103 = .ok (.ifCond .eq 14, 3) := by decide +kernel
theorem dX6_out_106 : decode cX6_out 106 = .ok (.aload_n 0, 1) := by decide +kernel
theorem dX6_out_107 : decode cX6_out 107 = .ok (.getfield 29, 3) := by decide +kernel
theorem dX6_out_110 : decode cX6_out 110 = .ok (.sipush 128, 3) := by decide +kernel
theorem dX6_out_113 : decode cX6_out 113 = .ok (.iand, 1) := by decide +kernel
theorem dX6_out_114 : decode cX6_out 114 = .ok (.goto 4, 3) := by decide +kernel
theorem dX6_out_117 : decode cX6_out 117 = .ok (.iconst 0, 1) := by decide +kernel
theorem dX6_out_118 : decode cX6_out 118 = .ok (.ior, 1) := by decide +kernel
theorem dX6_out_119 : decode cX6_out 119 = .ok (.ireturn, 1) := by decide +kernel
theorem dX6_out_120 : decode cX6_out 120 = .ok (.aload_n 0, 1) := by decide +kernel
theorem dX6_out_121 : decode cX6_out 121 = .ok (.invokevirtual 106, 3) := by decide +kernel
theorem dX6_out_124 : decode cX6_out 124 = .ok (.iconst 4, 1) := by decide +kernel
theorem dX6_out_125 : decode cX6_out 125 = .ok (.if_icmp .ge 7, 3) := by decide +kernel
theorem dX6_out_128 : decode cX6_out 128 = .ok (.iconst 2, 1) := by decide +kernel
theorem dX6_out_129 : decode cX6_out 129 = .ok (.goto 18, 3) := by decide +kernel
theorem dX6_out_132 : decode cX6_out 132 = .ok (.aload_n 0, 1) := by decide +kernel
theorem dX6_out_133 : decode cX6_out 133 = .ok (.invokevirtual 106, 3) := by decide +kernel
theorem dX6_out_136 : decode cX6_out 136 = .ok (.aload_n 0, 1) := by decide +kernel
theorem dX6_out_137 : decode cX6_out 137 = .ok (.getfield 50, 3) := by decide +kernel
theorem dX6_out_140 : decode cX6_out 140 = .ok (.aload_n 0, 1) := by decide +kernel
theorem dX6_out_141 : decode cX6_out 141 = .ok (.getfield 54, 3) := by decide +kernel
theorem dX6_out_144 : decode cX6_out 144 = .ok (.invokestatic 163, 3) := by decide +kernel
theorem dX6_out_147 : decode cX6_out 147 = .ok (.ireturn, 1) := by decide +kernel
theorem dX6_out_148 : decode cX6_out 148 = .ok (.aload_n 0, 1) := by decide +kernel
theorem dX6_out_149 : decode cX6_out 149 = .ok (.invokevirtual 110, 3) := by decide +kernel
theorem dX6_out_152 : decode cX6_out 152 = .ok (.iconst 3, 1) := by decide +kernel
theorem dX6_out_153 : decode cX6_out 153 = .ok (.if_icmp .le 21, 3) := by decide +kernel
theorem dX6_out_156 : decode cX6_out 156 = .ok (.aload_n 0, 1) := by decide +kernel
theorem dX6_out_157 : decode cX6_out 157 = .ok (.invokevirtual 110, 3) := by decide +kernel
theorem dX6_out_160 : decode cX6_out 160 = .ok (.aload_n 0, 1) := by decide +kernel
theorem dX6_out_161 : decode cX6_out 161 = .ok (.getfield 57, 3) := by decide +kernel
theorem dX6_out_164 : decode cX6_out 164 = .ok (.aload_n 0, 1) := by decide +kernel
theorem dX6_out_165 : decode cX6_out 165 = .ok (.getfield 60, 3) := by decide +kernel
theorem dX6_out_168 : decode cX6_out 168 = .ok (.invokestatic 163, 3) := by decide +kernel
theorem dX6_out_171 : decode cX6_out 171 = .ok (.goto 20, 3) := by decide +kernel
theorem dX6_out_174 : decode cX6_out 174 = .ok (.aload_n 0, 1) := by decide +kernel
theorem dX6_out_175 : decode cX6_out 175 = .ok (.invokevirtual 153, 3) := by decide +kernel
theorem dX6_out_178 : decode cX6_out 178 = .ok (.bipush 6, 2) := by decide +kernel
theorem dX6_out_180 : decode cX6_out 180 = .ok (.if_icmp .ne 10, 3) := by decide +kernel
theorem dX6_out_183 : decode cX6_out 183 = .ok (.aload_n 0, 1) := by decide +kernel
theorem dX6_out_184 : decode cX6_out 184 = .ok (.getfield 96, 3) := by decide +kernel
theorem dX6_out_187 : decode cX6_out 187 = .ok (.goto 4, 3) := by decide +kernel
theorem dX6_out_190 : decode cX6_out 190 = .ok (.iconst 2, 1) := by decide +kernel
theorem dX6_out_191 : decode cX6_out 191 = .ok (.ireturn, 1) := by decide +kernel
theorem dX6_out_192 : decode cX6_out 192 = .ok (.aload_n 0, 1) := by decide +kernel
theorem dX6_out_193 : decode cX6_out 193 = .ok (.getfield 38, 3) := by decide +kernel
theorem dX6_out_196 : decode cX6_out 196 = .ok (.aload_n 0, 1) := by decide +kernel
theorem dX6_out_197 : decode cX6_out 197 = .ok (.getfield 41, 3) := by decide +kernel
theorem dX6_out_200 : decode cX6_out 200 = .ok (.iand, 1) := by decide +kernel
theorem dX6_out_201 : decode cX6_out 201 = .ok (.ifCond .eq 7, 3) := by decide +kernel
theorem dX6_out_204 : decode cX6_out 204 = .ok (.iconst 1, 1) := by decide +kernel
theorem dX6_out_205 : decode cX6_out 205 = .ok (.goto 4, 3) := by decide +kernel
theorem dX6_out_208 : decode cX6_out 208 = .ok (.iconst 0, 1) := by decide +kernel
theorem dX6_out_209 : decode cX6_out 209 = .ok (.ireturn, 1) := by decide +kernel
theorem dX6_told_0 : decode cX6_told 0 = .ok (.aload_n 0, 1) := by decide +kernel
theorem dX6_told_1 : decode cX6_told 1 = .ok (.iload_n 1, 1) := by decide +kernel
theorem dX6_told_2 : decode cX6_told 2 = .ok (.ifCond .lt 9, 3) := by decide +kernel
theorem dX6_told_5 : decode cX6_told 5 = .ok (.iload_n 1, 1) := by decide +kernel
theorem dX6_told_6 : decode cX6_told 6 = .ok (.bipush 6, 2) := by decide +kernel
theorem dX6_told_8 : decode cX6_told 8 = .ok (.if_icmp .le 7, 3) := by decide +kernel
theorem dX6_told_11 : decode cX6_told 11 = .ok (.iconst 1, 1) := by decide +kernel
theorem dX6_told_12 : decode cX6_told 12 = .ok (.goto 4, 3) := by decide +kernel
theorem dX6_told_15 : decode cX6_told 15 = .ok (.iconst 0, 1) := by decide +kernel
theorem dX6_told_16 : decode cX6_told 16 = .ok (.putfield 16, 3) := by decide +kernel
theorem dX6_told_19 : decode cX6_told 19 = .ok (.aload_n 0, 1) := by decide +kernel
theorem dX6_told_20 : decode cX6_told 20 = .ok (.getfield 16, 3) := by decide +kernel
theorem dX6_told_23 : decode cX6_told 23 = .ok (.ifCond .le 5, 3) := by decide +kernel
theorem dX6_told_26 : decode cX6_told 26 = .ok (.iconst 0, 1) := by decide +kernel
theorem dX6_told_27 : decode cX6_told 27 = .ok (.ireturn, 1) := by decide +kernel
theorem dX6_told_28 : decode cX6_told 28 = .ok (.iload_n 1, 1) := by decide +kernel
theorem dX6_told_29 : decode cX6_told 29 = .ok (.tableswitch 98 0 5 #[39, 44, 49, 54, 59, 72], 39) := by decide +kernel
theorem dX6_told_68 : decode cX6_told 68 = .ok (.aload_n 0, 1) := by decide +kernel
theorem dX6_told_69 : decode cX6_told 69 = .ok (.getfield 63, 3) := by decide +kernel
theorem dX6_told_72 : decode cX6_told 72 = .ok (.ireturn, 1) := by decide +kernel
theorem dX6_told_73 : decode cX6_told 73 = .ok (.aload_n 0, 1) := by decide +kernel
theorem dX6_told_74 : decode cX6_told 74 = .ok (.getfield 78, 3) := by decide +kernel
theorem dX6_told_77 : decode cX6_told 77 = .ok (.ireturn, 1) := by decide +kernel
theorem dX6_told_78 : decode cX6_told 78 = .ok (.aload_n 0, 1) := by decide +kernel
theorem dX6_told_79 : decode cX6_told 79 = .ok (.getfield 66, 3) := by decide +kernel
theorem dX6_told_82 : decode cX6_told 82 = .ok (.ireturn, 1) := by decide +kernel
theorem dX6_told_83 : decode cX6_told 83 = .ok (.aload_n 0, 1) := by decide +kernel
theorem dX6_told_84 : decode cX6_told 84 = .ok (.getfield 90, 3) := by decide +kernel
theorem dX6_told_87 : decode cX6_told 87 = .ok (.ireturn, 1) := by decide +kernel
theorem dX6_told_88 : decode cX6_told 88 = .ok (.aload_n 0, 1) := by decide +kernel
theorem dX6_told_89 : decode cX6_told 89 = .ok (.getfield 75, 3) := by decide +kernel
theorem dX6_told_92 : decode cX6_told 92 = .ok (.ifCond .eq 7, 3) := by decide +kernel
theorem dX6_told_95 : decode cX6_told 95 = .ok (.iconst 1, 1) := by decide +kernel
theorem dX6_told_96 : decode cX6_told 96 = .ok (.goto 4, 3) := by decide +kernel
theorem dX6_told_99 : decode cX6_told 99 = .ok (.iconst 0, 1) := by decide +kernel
theorem dX6_told_100 : decode cX6_told 100 = .ok (.ireturn, 1) := by decide +kernel
theorem dX6_told_101 : decode cX6_told 101 = .ok (.aload_n 0, 1) := by decide +kernel
theorem dX6_told_102 : decode cX6_told 102 = .ok (.getfield 69, 3) := by decide +kernel
theorem dX6_told_105 : decode cX6_told 105 = .ok (.ifCond .eq 7, 3) := by decide +kernel
theorem dX6_told_108 : decode cX6_told 108 = .ok (.iconst 1, 1) := by decide +kernel
theorem dX6_told_109 : decode cX6_told 109 = .ok (.goto 4, 3) := by decide +kernel
theorem dX6_told_112 : decode cX6_told 112 = .ok (.iconst 0, 1) := by decide +kernel
theorem dX6_told_113 : decode cX6_told 113 = .ok (.aload_n 0, 1) := by decide +kernel
theorem dX6_told_114 : decode cX6_told 114 = .ok (.getfield 84, 3) := by decide +kernel
theorem dX6_told_117 : decode cX6_told 117 = .ok (.ifCond .eq 7, 3) := by decide +kernel
theorem dX6_told_120 : decode cX6_told 120 = .ok (.iconst 2, 1) := by decide +kernel
theorem dX6_told_121 : decode cX6_told 121 = .ok (.goto 4, 3) := by decide +kernel
theorem dX6_told_124 : decode cX6_told 124 = .ok (.iconst 0, 1) := by decide +kernel
theorem dX6_told_125 : decode cX6_told 125 = .ok (.ior, 1) := by decide +kernel
theorem dX6_told_126 : decode cX6_told 126 = .ok (.ireturn, 1) := by decide +kernel
theorem dX6_told_127 : decode cX6_told 127 = .ok (.aload_n 0, 1) := by decide +kernel
theorem dX6_told_128 : decode cX6_told 128 = .ok (.getfield 99, 3) := by decide +kernel
theorem dX6_told_131 : decode cX6_told 131 = .ok (.ireturn, 1) := by decide +kernel
end
section
set_option maxRecDepth 20000 in
theorem ggL_write_X5_write : GoodIn wsL_write wsX5_write := goodIn_ca (goodIn_r _ [6, 7, 8, 9, 10, 11, 12, 13, 14, 15, 16, 17, 5, 18, 19, 20, 21, 22, 23, 24, 25, 26, 27, 28, 29, 30, 31, 32, 33, 34, 35, 36, 37, 38, 39, 40, 41, 42, 43, 44, 45, 46, 47, 48, 49, 50, 51, 52, 53, 54, 55, 56, 57, 58, 59, 60, 61, 62, 63, 64, 65, 66, 67, 68, 69, 70, 71, 72, 73, 74, 75, 76, 77, 78, 79, 80, 81, 82, 83, 84, 85, 86, 87, 88, 89, 90, 91, 92, 93, 94, 95, 96, 97, 98, 99, 100, 101, 102, 103, 104, 105, 106, 107, 108, 109, 110, 111, 112, 113, 114, 115, 116, 117, 118, 119, 120, 121, 122, 123, 124, 125] (by decide +kernel) (by decide +kernel)) (goodIn_sub (fun _ h => List.mem_cons_of_mem _ (List.mem_append_right _ h)) (by decide +kernel))
set_option maxRecDepth 20000 in
theorem gL_write_X5_write : GoodIn wsL_write (wsV RL 7 RX5 yX5_write wsX5_write) := goodIn_app (goodIn_of _ (by decide +kernel)) ggL_write_X5_write
theorem dL_write_0 : decode cL_write 0 = .ok (.aload_n 0, 1) := by decide +kernel
theorem dL_write_1 : decode cL_write 1 = .ok (.iload_n 1, 1) := by decide +kernel
theorem dL_write_2 : decode cL_write 2 = .ok (.iload_n 2, 1) := by decide +kernel
theorem dL_write_3 : decode cL_write 3 = .ok (.invokevirtual 7, 3) := by decide +kernel
theorem dL_write_6 : decode cL_write 6 = .ok (.goto 6, 3) := by decide +kernel
theorem dL_write_9 : decode cL_write 9 = .ok (.astore_n 3, 1) := by decide +kernel
theorem dL_write_10 : decode cL_write 10 = .ok (.iconst 1, 1) := by decide +kernel
theorem dL_write_11 : decode cL_write 11 = .ok (.ireturn, 1) := by decide +kernel
theorem dL_write_12 : decode cL_write 12 = .ok (.iconst 0, 1) := by decide +kernel
theorem dL_write_13 : decode cL_write 13 = .ok (.ireturn, 1) := by decide +kernel
set_option maxRecDepth 20000 in
theorem ggL_read_X5_read : GoodIn wsL_read wsX5_read := goodIn_ca (goodIn_r _ [6, 7, 8, 9, 10, 11, 12, 13, 14, 15, 16, 17, 18, 5, 19, 20, 21, 22, 23, 24, 25, 26, 27, 28, 29, 30, 31, 32, 33, 34, 35, 36, 37, 38, 39, 40, 41, 42, 43, 44, 45, 46, 47, 48, 49, 50, 51, 52, 53, 54, 55, 56, 57, 58, 59, 60, 61, 62, 63, 64, 65, 66, 67, 68, 69, 70, 71, 72, 73, 74, 75, 76, 77, 78, 79, 80, 81, 82, 83, 84, 85, 86, 87, 88, 89, 90, 91, 92, 93, 94, 95, 96, 97, 98, 99, 100, 101, 102, 103, 104, 105, 106, 107, 108, 109, 110, 111, 112, 113, 114, 115, 116, 117, 118, 119, 120, 121, 122, 123, 124, 125, 126, 127, 128, 129, 130, 131, 132, 133, 134] (by decide +kernel) (by decide +kernel)) (goodIn_sub (fun _ h => List.mem_cons_of_mem _ (List.mem_append_right _ h)) (by decide +kernel))
set_option maxRecDepth 20000 in
theorem gL_read_X5_read : GoodIn wsL_read (wsV RL 15 RX5 yX5_read wsX5_read) := goodIn_app (goodIn_of _ (by decide +kernel)) ggL_read_X5_read
theorem dL_read_0 : decode cL_read 0 = .ok (.aload_n 2, 1) := by decide +kernel
theorem dL_read_1 : decode cL_read 1 = .ok (.iconst 0, 1) := by decide +kernel
theorem dL_read_2 : decode cL_read 2 = .ok (.aload_n 0, 1) := by decide +kernel
theorem dL_read_3 : decode cL_read 3 = .ok (.iload_n 1, 1) := by decide +kernel
theorem dL_read_4 : decode cL_read 4 = .ok (.invokevirtual 15, 3) := by decide +kernel
theorem dL_read_7 : decode cL_read 7 = .ok (.i2l, 1) := by decide +kernel
theorem dL_read_8 : decode cL_read 8 = .ok (.lastore, 1) := by decide +kernel
theorem dL_read_9 : decode cL_read 9 = .ok (.goto 6, 3) := by decide +kernel
theorem dL_read_12 : decode cL_read 12 = .ok (.astore_n 3, 1) := by decide +kernel
theorem dL_read_13 : decode cL_read 13 = .ok (.iconst 1, 1) := by decide +kernel
theorem dL_read_14 : decode cL_read 14 = .ok (.ireturn, 1) := by decide +kernel
theorem dL_read_15 : decode cL_read 15 = .ok (.iconst 0, 1) := by decide +kernel
theorem dL_read_16 : decode cL_read 16 = .ok (.ireturn, 1) := by decide +kernel
set_option maxRecDepth 20000 in
theorem ggL_pins_X5_pins : GoodIn wsL_pins wsX5_pins := goodIn_ca (goodIn_r _ [6, 7, 8, 9, 10, 11, 12, 13, 5, 14, 15, 16, 17, 18, 19, 20, 21, 22, 23, 24, 25, 26, 27, 28, 29, 30, 31, 32, 33, 34, 35, 36, 37, 38, 39, 40, 41, 42, 43, 44, 45, 46, 47, 48, 49, 50, 51, 52, 53, 54, 55, 56, 57, 58, 59, 60] (by decide +kernel) (by decide +kernel)) (goodIn_sub (fun _ h => List.mem_cons_of_mem _ (List.mem_append_right _ h)) (by decide +kernel))
set_option maxRecDepth 20000 in
theorem gL_pins_X5_pins : GoodIn wsL_pins (wsV RL 19 RX5 yX5_pins wsX5_pins) := goodIn_app (goodIn_of _ (by decide +kernel)) ggL_pins_X5_pins
theorem dL_pins_0 : decode cL_pins 0 = .ok (.aload_n 0, 1) := by decide +kernel
theorem dL_pins_1 : decode cL_pins 1 = .ok (.iload_n 1, 1) := by decide +kernel
theorem dL_pins_2 : decode cL_pins 2 = .ok (.iload_n 2, 1) := by decide +kernel
theorem dL_pins_3 : decode cL_pins 3 = .ok (.invokevirtual 19, 3) := by decide +kernel
theorem dL_pins_6 : decode cL_pins 6 = .ok (.goto 6, 3) := by decide +kernel
theorem dL_pins_9 : decode cL_pins 9 = .ok (.astore_n 3, 1) := by decide +kernel
theorem dL_pins_10 : decode cL_pins 10 = .ok (.iconst 1, 1) := by decide +kernel
theorem dL_pins_11 : decode cL_pins 11 = .ok (.ireturn, 1) := by decide +kernel
theorem dL_pins_12 : decode cL_pins 12 = .ok (.iconst 0, 1) := by decide +kernel
theorem dL_pins_13 : decode cL_pins 13 = .ok (.ireturn, 1) := by decide +kernel
set_option maxRecDepth 20000 in
theorem ggL_line_X5_line : GoodIn wsL_line wsX5_line := goodIn_ca (goodIn_r _ [6, 7, 8, 9, 10, 11, 12, 13, 14, 15, 16, 17, 18, 19, 20, 21, 22, 23, 24, 25, 26, 27, 28, 29, 30, 31, 32, 33, 34, 35, 36, 37, 38, 39, 40, 41, 42, 43, 44, 45, 46, 47, 48, 49, 50, 51, 52, 53, 54, 55, 56, 57, 58, 59, 60] (by decide +kernel) (by decide +kernel)) (goodIn_sub (fun _ h => List.mem_cons_of_mem _ (List.mem_append_right _ h)) (by decide +kernel))
set_option maxRecDepth 20000 in
theorem gL_line_X5_line : GoodIn wsL_line (wsV RL 22 RX5 yX5_line wsX5_line) := goodIn_app (goodIn_of _ (by decide +kernel)) ggL_line_X5_line
theorem dL_line_0 : decode cL_line 0 = .ok (.aload_n 3, 1) := by decide +kernel
theorem dL_line_1 : decode cL_line 1 = .ok (.iconst 0, 1) := by decide +kernel
theorem dL_line_2 : decode cL_line 2 = .ok (.aload_n 0, 1) := by decide +kernel
theorem dL_line_3 : decode cL_line 3 = .ok (.iload_n 1, 1) := by decide +kernel
theorem dL_line_4 : decode cL_line 4 = .ok (.iload_n 2, 1) := by decide +kernel
theorem dL_line_5 : decode cL_line 5 = .ok (.invokevirtual 22, 3) := by decide +kernel
theorem dL_line_8 : decode cL_line 8 = .ok (.ifCond .eq 7, 3) := by decide +kernel
theorem dL_line_11 : decode cL_line 11 = .ok (.lconst 1, 1) := by decide +kernel
theorem dL_line_12 : decode cL_line 12 = .ok (.goto 4, 3) := by decide +kernel
theorem dL_line_15 : decode cL_line 15 = .ok (.lconst 0, 1) := by decide +kernel
theorem dL_line_16 : decode cL_line 16 = .ok (.lastore, 1) := by decide +kernel
theorem dL_line_17 : decode cL_line 17 = .ok (.goto 7, 3) := by decide +kernel
theorem dL_line_20 : decode cL_line 20 = .ok (.astore 4, 2) := by decide +kernel
theorem dL_line_22 : decode cL_line 22 = .ok (.iconst 1, 1) := by decide +kernel
theorem dL_line_23 : decode cL_line 23 = .ok (.ireturn, 1) := by decide +kernel
theorem dL_line_24 : decode cL_line 24 = .ok (.iconst 0, 1) := by decide +kernel
theorem dL_line_25 : decode cL_line 25 = .ok (.ireturn, 1) := by decide +kernel
set_option maxRecDepth 20000 in
theorem ggL_step_X5_step : GoodIn wsL_step wsX5_step := goodIn_ca (goodIn_r _ [6, 7, 8, 9, 10, 11, 12, 13, 5, 14, 15, 16, 17, 18, 19, 20, 21, 22, 23, 24, 25, 26, 27, 28, 29, 30, 31, 32, 33, 34, 35, 36, 37, 38, 39, 40, 41, 42, 43, 44, 45, 46, 47, 48, 49, 50, 51, 52, 53, 54, 55, 56, 57, 58, 59, 60, 61, 62, 63, 64, 65, 66, 67, 68, 69, 70, 71, 72, 73, 74, 75, 76, 77, 78, 79, 80, 81, 82, 83, 84, 85, 86, 87, 88, 89, 90, 91, 92, 93, 94, 95, 96, 97, 98, 99, 100, 101, 102, 103, 104, 105, 106, 107, 108, 109, 110, 111, 112, 113, 114, 115, 116, 117, 118, 119, 120, 121, 122, 123, 124, 125, 126, 127, 128, 129, 130, 131, 132, 133, 134, 135, 136] (by decide +kernel) (by decide +kernel)) (goodIn_sub (fun _ h => List.mem_cons_of_mem _ (List.mem_append_right _ h)) (by decide +kernel))
set_option maxRecDepth 20000 in
theorem gL_step_X5_step : GoodIn wsL_step (wsV RL 26 RX5 yX5_step wsX5_step) := goodIn_app (goodIn_of _ (by decide +kernel)) ggL_step_X5_step
theorem dL_step_0 : decode cL_step 0 = .ok (.aload_n 2, 1) := by decide +kernel
theorem dL_step_1 : decode cL_step 1 = .ok (.iconst 0, 1) := by decide +kernel
theorem dL_step_2 : decode cL_step 2 = .ok (.aload_n 0, 1) := by decide +kernel
theorem dL_step_3 : decode cL_step 3 = .ok (.iload_n 1, 1) := by decide +kernel
theorem dL_step_4 : decode cL_step 4 = .ok (.invokevirtual 26, 3) := by decide +kernel
theorem dL_step_7 : decode cL_step 7 = .ok (.i2l, 1) := by decide +kernel
theorem dL_step_8 : decode cL_step 8 = .ok (.lastore, 1) := by decide +kernel
theorem dL_step_9 : decode cL_step 9 = .ok (.goto 6, 3) := by decide +kernel
theorem dL_step_12 : decode cL_step 12 = .ok (.astore_n 3, 1) := by decide +kernel
theorem dL_step_13 : decode cL_step 13 = .ok (.iconst 1, 1) := by decide +kernel
theorem dL_step_14 : decode cL_step 14 = .ok (.ireturn, 1) := by decide +kernel
theorem dL_step_15 : decode cL_step 15 = .ok (.iconst 0, 1) := by decide +kernel
theorem dL_step_16 : decode cL_step 16 = .ok (.ireturn, 1) := by decide +kernel
set_option maxRecDepth 20000 in
theorem ggL_out_X5_out : GoodIn wsL_out wsX5_out := goodIn_ca (goodIn_r _ [6, 7, 8, 9, 10, 11, 12, 13, 14, 5, 15, 16, 17, 18, 19, 20, 21, 22, 23, 24, 25, 26, 27, 28, 29, 30, 31, 32, 33, 34, 35, 36, 37, 38, 39, 40, 41, 42, 43, 44, 45, 46, 47, 48, 49, 50, 51, 52, 53, 54, 55, 56, 57, 58, 59, 60, 61, 62, 63, 64, 65, 66, 67, 68, 69, 70, 71, 72, 73, 74, 75, 76, 77, 78, 79, 80, 81, 82, 83] (by decide +kernel) (by decide +kernel)) (goodIn_sub (fun _ h => List.mem_cons_of_mem _ (List.mem_append_right _ h)) (by decide +kernel))
set_option maxRecDepth 20000 in
theorem gL_out_X5_out : GoodIn wsL_out (wsV RL 29 RX5 yX5_out wsX5_out) := goodIn_app (goodIn_of _ (by decide +kernel)) ggL_out_X5_out
theorem dL_out_0 : decode cL_out 0 = .ok (.aload_n 2, 1) := by decide +kernel
theorem dL_out_1 : decode cL_out 1 = .ok (.iconst 0, 1) := by decide +kernel
theorem dL_out_2 : decode cL_out 2 = .ok (.aload_n 0, 1) := by decide +kernel
theorem dL_out_3 : decode cL_out 3 = .ok (.iload_n 1, 1) := by decide +kernel
theorem dL_out_4 : decode cL_out 4 = .ok (.invokevirtual 29, 3) := by decide +kernel
theorem dL_out_7 : decode cL_out 7 = .ok (.i2l, 1) := by decide +kernel
theorem dL_out_8 : decode cL_out 8 = .ok (.lastore, 1) := by decide +kernel
theorem dL_out_9 : decode cL_out 9 = .ok (.goto 6, 3) := by decide +kernel
theorem dL_out_12 : decode cL_out 12 = .ok (.astore_n 3, 1) := by decide +kernel
theorem dL_out_13 : decode cL_out 13 = .ok (.iconst 1, 1) := by decide +kernel
theorem dL_out_14 : decode cL_out 14 = .ok (.ireturn, 1) := by decide +kernel
theorem dL_out_15 : decode cL_out 15 = .ok (.iconst 0, 1) := by decide +kernel
theorem dL_out_16 : decode cL_out 16 = .ok (.ireturn, 1) := by decide +kernel
set_option maxRecDepth 20000 in
theorem ggL_told_X5_told : GoodIn wsL_told wsX5_told := goodIn_ca (goodIn_r _ [6, 7, 8, 9, 10, 11, 12, 13, 14, 15, 16, 17, 18, 19, 20, 21, 22, 23, 24, 25, 26, 27, 28, 29, 30, 31, 32, 33, 34, 35] (by decide +kernel) (by decide +kernel)) (goodIn_sub (fun _ h => List.mem_cons_of_mem _ (List.mem_append_right _ h)) (by decide +kernel))
set_option maxRecDepth 20000 in
theorem gL_told_X5_told : GoodIn wsL_told (wsV RL 32 RX5 yX5_told wsX5_told) := goodIn_app (goodIn_of _ (by decide +kernel)) ggL_told_X5_told
theorem dL_told_0 : decode cL_told 0 = .ok (.aload_n 2, 1) := by decide +kernel
theorem dL_told_1 : decode cL_told 1 = .ok (.iconst 0, 1) := by decide +kernel
theorem dL_told_2 : decode cL_told 2 = .ok (.aload_n 0, 1) := by decide +kernel
theorem dL_told_3 : decode cL_told 3 = .ok (.iload_n 1, 1) := by decide +kernel
theorem dL_told_4 : decode cL_told 4 = .ok (.invokevirtual 32, 3) := by decide +kernel
theorem dL_told_7 : decode cL_told 7 = .ok (.i2l, 1) := by decide +kernel
theorem dL_told_8 : decode cL_told 8 = .ok (.lastore, 1) := by decide +kernel
theorem dL_told_9 : decode cL_told 9 = .ok (.goto 6, 3) := by decide +kernel
theorem dL_told_12 : decode cL_told 12 = .ok (.astore_n 3, 1) := by decide +kernel
theorem dL_told_13 : decode cL_told 13 = .ok (.iconst 1, 1) := by decide +kernel
theorem dL_told_14 : decode cL_told 14 = .ok (.ireturn, 1) := by decide +kernel
theorem dL_told_15 : decode cL_told 15 = .ok (.iconst 0, 1) := by decide +kernel
theorem dL_told_16 : decode cL_told 16 = .ok (.ireturn, 1) := by decide +kernel
set_option maxRecDepth 20000 in
theorem ggL_law_X5_init : GoodIn wsL_law wsX5_init := goodIn_r _ [9, 10, 11, 12, 13, 14, 15, 16, 17, 18, 19, 20, 21, 22, 23, 24, 25, 26, 27, 28, 29, 30, 31, 32, 33, 34, 35, 36, 37, 38, 39, 40, 41, 42, 43, 44, 45, 46, 47, 48, 49, 50, 51, 52, 53, 54, 55, 56, 57, 58, 59, 60, 502, 503, 463, 464, 465, 466, 467, 468, 469, 470, 504, 505, 506, 507, 508, 509, 510, 511, 512, 513, 514, 515, 516, 517, 518, 519, 520, 521, 522, 523, 524, 525, 526, 527, 528, 529, 530] (by decide +kernel) (by decide +kernel)
set_option maxRecDepth 20000 in
theorem gL_law_X5_init : GoodIn wsL_law (wsX5_init) := ggL_law_X5_init
set_option maxRecDepth 20000 in
theorem ggL_law_X6_init : GoodIn wsL_law wsX6_init := goodIn_r _ [63, 64, 11, 12, 65, 66, 67, 68, 69, 5, 70, 71, 72, 73, 74, 75, 76, 77, 78, 79, 80, 81, 82, 83, 84, 85, 86, 87, 88, 89, 90, 91, 92, 93, 94, 95, 96, 97, 471, 472, 473, 474, 475, 476, 477, 478, 479, 480, 481, 482, 483, 484, 485, 486, 487, 488, 489, 490, 491, 492, 493, 494, 495, 496, 497, 498, 499, 500, 501] (by decide +kernel) (by decide +kernel)
set_option maxRecDepth 20000 in
theorem gL_law_X6_init : GoodIn wsL_law (wsX6_init) := ggL_law_X6_init
set_option maxRecDepth 20000 in
theorem ggL_law_L_write : GoodIn wsL_law wsL_write := goodIn_ca (goodIn_r _ [101, 102, 103, 104, 105, 2, 106, 107, 108, 21, 20, 25, 29, 33, 109, 16, 110, 111, 112, 113, 114, 115, 19, 116, 41, 42, 43, 117, 118, 119, 15, 120, 121, 122, 123, 124, 125, 126, 127, 128, 129, 130, 131, 132, 133, 134, 135, 24, 136, 137, 138, 139, 140, 141, 49, 142, 143, 144, 145, 146, 147, 148, 48, 149, 150, 151, 152, 28, 153, 154, 155, 156, 54, 157, 158, 159, 160, 32, 161, 60, 162, 163, 164, 165, 166, 167, 168, 169, 170, 463, 464, 465, 466, 467, 468, 469, 470, 504, 505, 506, 507, 508, 509, 510, 511, 512, 513, 514, 515, 522, 523, 524, 525, 526, 527, 528, 529, 530, 502, 503, 516, 517, 518, 519, 520, 521] (by decide +kernel) (by decide +kernel)) (goodIn_sub (fun _ h => List.mem_append_right _ h) (by decide +kernel))
set_option maxRecDepth 20000 in
theorem gL_law_L_write : GoodIn wsL_law (va_wsS RL 39 yL_write wsL_write) := goodIn_app (goodIn_of _ (by decide +kernel)) ggL_law_L_write
set_option maxRecDepth 20000 in
theorem ggL_law_X6_write : GoodIn wsL_law wsX6_write := goodIn_r _ [174, 175, 72, 71, 74, 73, 86, 176, 85, 87, 88, 89, 91, 90, 92, 93, 75, 76, 77, 78, 177, 178, 5, 179, 180, 181, 182, 183, 83, 84, 184, 185, 186, 187, 188, 189, 190, 191, 192, 193, 194, 195, 81, 82, 196, 197, 198, 199, 200, 201, 202, 203, 94, 95, 471, 472, 473, 474, 475, 476, 477, 478, 479, 480, 481, 482, 483, 484, 485, 486, 487, 488, 489, 490, 491, 492, 493, 494, 495, 496, 497, 498, 499, 500, 501] (by decide +kernel) (by decide +kernel)
set_option maxRecDepth 20000 in
theorem gL_law_X6_write : GoodIn wsL_law (wsV RL 44 RX6 yX6_write wsX6_write) := goodIn_app (goodIn_of _ (by decide +kernel)) ggL_law_X6_write
set_option maxRecDepth 20000 in
theorem ggL_law_X6_thrown : GoodIn wsL_law wsX6_thrown := goodIn_r _ [207, 175, 471, 472, 473, 474, 475, 476, 477, 478, 479, 480, 481, 482, 483, 484, 485, 486, 487, 488, 489, 490, 491, 492, 493, 494, 495, 496, 497, 498, 499, 500, 501] (by decide +kernel) (by decide +kernel)
set_option maxRecDepth 20000 in
theorem gL_law_X6_thrown : GoodIn wsL_law (wsV RL 45 RX6 yX6_thrown wsX6_thrown) := goodIn_app (goodIn_of _ (by decide +kernel)) ggL_law_X6_thrown
set_option maxRecDepth 20000 in
theorem ggL_law_L_read : GoodIn wsL_law wsL_read := goodIn_ca (goodIn_r _ [210, 102, 211, 212, 213, 2, 214, 107, 108, 21, 20, 16, 25, 29, 33, 109, 215, 216, 217, 218, 219, 220, 221, 222, 223, 224, 225, 19, 226, 41, 42, 227, 228, 229, 230, 231, 232, 233, 15, 234, 121, 235, 236, 237, 238, 113, 114, 115, 116, 43, 117, 118, 119, 120, 122, 123, 124, 125, 126, 239, 240, 241, 242, 243, 244, 245, 246, 127, 128, 129, 130, 131, 132, 165, 247, 248, 249, 250, 251, 252, 158, 159, 160, 32, 161, 60, 162, 163, 164, 253, 254, 255, 256, 257, 258, 259, 260, 170, 463, 464, 465, 466, 467, 468, 469, 470, 504, 505, 506, 507, 508, 509, 510, 511, 512, 513, 514, 515, 516, 517, 518, 519, 520, 521, 522, 523, 524, 525, 526, 527, 528, 529, 530, 502, 503] (by decide +kernel) (by decide +kernel)) (goodIn_sub (fun _ h => List.mem_append_right _ h) (by decide +kernel))
set_option maxRecDepth 20000 in
theorem gL_law_L_read : GoodIn wsL_law (va_wsS RL 49 yL_read wsL_read) := goodIn_app (goodIn_of _ (by decide +kernel)) ggL_law_L_read
set_option maxRecDepth 20000 in
theorem ggL_law_X6_read : GoodIn wsL_law wsX6_read := goodIn_r _ [264, 175, 74, 73, 85, 86, 90, 93, 75, 76, 78, 265, 266, 267, 5, 268, 80, 269, 72, 89, 270, 271, 272, 273, 77, 180, 181, 182, 183, 83, 84, 184, 185, 186, 187, 188, 189, 190, 191, 274, 275, 276, 277, 79, 278, 71, 192, 193, 194, 195, 81, 82, 196, 197, 198, 199, 200, 201, 202, 203, 94, 95, 279, 280, 281, 282, 471, 472, 473, 474, 475, 476, 477, 478, 479, 480, 481, 482, 483, 484, 485, 486, 487, 488, 489, 490, 491, 492, 493, 494, 495, 496, 497, 498, 499, 500, 501] (by decide +kernel) (by decide +kernel)
set_option maxRecDepth 20000 in
theorem gL_law_X6_read : GoodIn wsL_law (wsV RL 52 RX6 yX6_read wsX6_read) := goodIn_app (goodIn_of _ (by decide +kernel)) ggL_law_X6_read
set_option maxRecDepth 20000 in
theorem ggL_law_L_pins : GoodIn wsL_law wsL_pins := goodIn_ca (goodIn_r _ [285, 102, 286, 287, 288, 2, 289, 107, 108, 21, 20, 29, 110, 111, 112, 219, 220, 221, 222, 109, 290, 291, 292, 28, 293, 155, 156, 54, 294, 295, 296, 297, 15, 298, 121, 463, 464, 465, 466, 467, 468, 469, 470, 504, 505, 506, 507, 508, 509, 510, 511, 512, 513, 514, 515, 522, 523, 524, 525, 502, 503] (by decide +kernel) (by decide +kernel)) (goodIn_sub (fun _ h => List.mem_append_right _ h) (by decide +kernel))
set_option maxRecDepth 20000 in
theorem gL_law_L_pins : GoodIn wsL_law (va_wsS RL 53 yL_pins wsL_pins) := goodIn_app (goodIn_of _ (by decide +kernel)) ggL_law_L_pins
set_option maxRecDepth 20000 in
theorem ggL_law_X6_pins : GoodIn wsL_law wsX6_pins := goodIn_r _ [302, 175, 269, 278, 75, 177, 178, 5, 179, 303, 304, 305, 306, 90, 307, 92, 308, 309, 310, 311, 77, 471, 472, 473, 474, 475, 476, 477, 478, 479, 480, 481, 482, 483, 484, 485, 486, 487, 488, 489, 490, 491, 492, 493, 494, 495, 496, 497, 498, 499, 500, 501] (by decide +kernel) (by decide +kernel)
set_option maxRecDepth 20000 in
theorem gL_law_X6_pins : GoodIn wsL_law (wsV RL 55 RX6 yX6_pins wsX6_pins) := goodIn_app (goodIn_of _ (by decide +kernel)) ggL_law_X6_pins
set_option maxRecDepth 20000 in
theorem ggL_law_L_line : GoodIn wsL_law wsL_line := goodIn_ca (goodIn_r _ [314, 102, 315, 316, 317, 2, 318, 107, 108, 20, 21, 319, 320, 321, 19, 322, 126, 323, 41, 42, 228, 227, 131, 324, 296, 297, 15, 298, 121, 325, 326, 327, 328, 329, 43, 122, 123, 124, 125, 463, 464, 465, 466, 467, 468, 469, 470, 504, 505, 506, 507, 508, 509, 510, 511, 512, 513, 514, 515, 502, 503] (by decide +kernel) (by decide +kernel)) (goodIn_sub (fun _ h => List.mem_append_right _ h) (by decide +kernel))
set_option maxRecDepth 20000 in
theorem gL_law_L_line : GoodIn wsL_law (va_wsS RL 56 yL_line wsL_line) := goodIn_app (goodIn_of _ (by decide +kernel)) ggL_law_L_line
set_option maxRecDepth 20000 in
theorem ggL_law_X6_line : GoodIn wsL_law wsX6_line := goodIn_r _ [333, 175, 66, 76, 278, 79, 81, 269, 80, 83, 196, 197, 198, 5, 199, 188, 189, 190, 191, 308, 309, 310, 311, 77, 471, 472, 473, 474, 475, 476, 477, 478, 479, 480, 481, 482, 483, 484, 485, 486, 487, 488, 489, 490, 491, 492, 493, 494, 495, 496, 497, 498, 499, 500, 501] (by decide +kernel) (by decide +kernel)
set_option maxRecDepth 20000 in
theorem gL_law_X6_line : GoodIn wsL_law (wsV RL 59 RX6 yX6_line wsX6_line) := goodIn_app (goodIn_of _ (by decide +kernel)) ggL_law_X6_line
set_option maxRecDepth 20000 in
theorem ggL_law_L_step : GoodIn wsL_law wsL_step := goodIn_ca (goodIn_r _ [336, 102, 337, 338, 339, 2, 340, 107, 108, 341, 16, 342, 343, 344, 345, 25, 29, 33, 21, 20, 346, 219, 220, 221, 222, 109, 347, 348, 349, 24, 350, 351, 352, 353, 354, 149, 137, 147, 355, 356, 357, 358, 49, 48, 359, 360, 296, 297, 15, 298, 121, 361, 362, 363, 364, 148, 290, 291, 292, 28, 293, 155, 156, 54, 294, 295, 365, 366, 367, 368, 369, 370, 371, 32, 372, 162, 163, 373, 374, 375, 376, 377, 59, 60, 378, 379, 380, 381, 19, 382, 132, 253, 254, 255, 256, 257, 258, 259, 260, 170, 463, 464, 465, 466, 467, 468, 469, 470, 504, 505, 506, 507, 508, 509, 510, 511, 512, 513, 514, 515, 516, 517, 518, 519, 520, 521, 502, 503, 522, 523, 524, 525, 526, 527, 528, 529, 530] (by decide +kernel) (by decide +kernel)) (goodIn_sub (fun _ h => List.mem_append_right _ h) (by decide +kernel))
set_option maxRecDepth 20000 in
theorem gL_law_L_step : GoodIn wsL_law (va_wsS RL 60 yL_step wsL_step) := goodIn_app (goodIn_of _ (by decide +kernel)) ggL_law_L_step
set_option maxRecDepth 20000 in
theorem ggL_law_X6_step : GoodIn wsL_law wsX6_step := goodIn_r _ [386, 387, 175, 75, 82, 84, 97, 388, 389, 390, 5, 391, 88, 86, 85, 307, 89, 87, 308, 309, 310, 311, 77, 303, 304, 305, 306, 90, 92, 392, 393, 394, 395, 94, 95, 93, 66, 96, 396, 397, 398, 399, 279, 280, 281, 282, 78, 471, 472, 473, 474, 475, 476, 477, 478, 479, 480, 481, 482, 483, 484, 485, 486, 487, 488, 489, 490, 491, 492, 493, 494, 495, 496, 497, 498, 499, 500, 501] (by decide +kernel) (by decide +kernel)
set_option maxRecDepth 20000 in
theorem gL_law_X6_step : GoodIn wsL_law (wsV RL 62 RX6 yX6_step wsX6_step) := goodIn_app (goodIn_of _ (by decide +kernel)) ggL_law_X6_step
set_option maxRecDepth 20000 in
theorem ggL_law_L_out : GoodIn wsL_law wsL_out := goodIn_ca (goodIn_r _ [402, 102, 403, 404, 405, 2, 406, 107, 108, 20, 21, 16, 235, 236, 237, 238, 25, 219, 220, 221, 222, 109, 407, 408, 409, 19, 410, 131, 132, 122, 123, 124, 125, 126, 411, 412, 413, 414, 33, 415, 365, 366, 367, 368, 416, 258, 259, 15, 260, 121, 170, 463, 464, 465, 466, 467, 468, 469, 470, 504, 505, 506, 507, 508, 509, 510, 511, 512, 513, 514, 515, 516, 517, 518, 519, 520, 521, 526, 527, 528, 529, 530, 502, 503] (by decide +kernel) (by decide +kernel)) (goodIn_sub (fun _ h => List.mem_append_right _ h) (by decide +kernel))
set_option maxRecDepth 20000 in
theorem gL_law_L_out : GoodIn wsL_law (va_wsS RL 63 yL_out wsL_out) := goodIn_app (goodIn_of _ (by decide +kernel)) ggL_law_L_out
set_option maxRecDepth 20000 in
theorem ggL_law_X6_out : GoodIn wsL_law wsX6_out := goodIn_r _ [420, 175, 71, 73, 72, 74, 75, 89, 81, 82, 83, 84, 96, 77, 78, 196, 197, 198, 5, 199, 76, 421, 422, 423, 188, 189, 190, 191, 396, 397, 398, 399, 471, 472, 473, 474, 475, 476, 477, 478, 479, 480, 481, 482, 483, 484, 485, 486, 487, 488, 489, 490, 491, 492, 493, 494, 495, 496, 497, 498, 499, 500, 501] (by decide +kernel) (by decide +kernel)
set_option maxRecDepth 20000 in
theorem gL_law_X6_out : GoodIn wsL_law (wsV RL 65 RX6 yX6_out wsX6_out) := goodIn_app (goodIn_of _ (by decide +kernel)) ggL_law_X6_out
set_option maxRecDepth 20000 in
theorem ggL_law_L_told : GoodIn wsL_law wsL_told := goodIn_ca (goodIn_r _ [426, 102, 427, 428, 429, 2, 430, 107, 108, 25, 29, 33, 346, 463, 464, 465, 466, 467, 468, 469, 470, 516, 517, 518, 519, 520, 521, 522, 523, 524, 525, 526, 527, 528, 529, 530] (by decide +kernel) (by decide +kernel)) (goodIn_sub (fun _ h => List.mem_append_right _ h) (by decide +kernel))
set_option maxRecDepth 20000 in
theorem gL_law_L_told : GoodIn wsL_law (va_wsS RL 66 yL_told wsL_told) := goodIn_app (goodIn_of _ (by decide +kernel)) ggL_law_L_told
set_option maxRecDepth 20000 in
theorem ggL_law_X6_told : GoodIn wsL_law wsX6_told := goodIn_r _ [434, 175, 85, 90, 86, 94, 89, 87, 92, 97, 471, 472, 473, 474, 475, 476, 477, 478, 479, 480, 481, 482, 483, 484, 485, 486, 487, 488, 489, 490, 491, 492, 493, 494, 495, 496, 497, 498, 499, 500, 501] (by decide +kernel) (by decide +kernel)
set_option maxRecDepth 20000 in
theorem gL_law_X6_told : GoodIn wsL_law (wsV RL 68 RX6 yX6_told wsX6_told) := goodIn_app (goodIn_of _ (by decide +kernel)) ggL_law_X6_told
set_option maxRecDepth 20000 in
theorem ggL_law_X5_reset : GoodIn wsL_law wsX5_reset := goodIn_r _ [438, 16, 20, 21, 25, 29, 33, 109, 346, 439, 440, 441, 15, 442, 121, 170, 443, 444, 445, 19, 446, 229, 230, 126, 227, 131, 132, 447, 448, 449, 24, 450, 147, 137, 48, 148, 149, 451, 452, 453, 28, 454, 155, 154, 156, 455, 456, 457, 32, 458, 377, 162, 59, 163, 463, 464, 465, 466, 467, 468, 469, 470, 502, 503, 504, 505, 506, 507, 508, 509, 510, 511, 512, 513, 514, 515, 516, 517, 518, 519, 520, 521, 522, 523, 524, 525, 526, 527, 528, 529, 530] (by decide +kernel) (by decide +kernel)
set_option maxRecDepth 20000 in
theorem gL_law_X5_reset : GoodIn wsL_law (wsV RL 69 RX5 yX5_reset wsX5_reset) := goodIn_app (goodIn_of _ (by decide +kernel)) ggL_law_X5_reset
set_option maxRecDepth 20000 in
theorem ggL_law_X6_reset : GoodIn wsL_law wsX6_reset := goodIn_r _ [462, 175, 67, 68, 69, 5, 70, 71, 72, 73, 74, 75, 76, 77, 78, 79, 80, 81, 82, 83, 84, 85, 86, 87, 88, 89, 90, 91, 92, 93, 94, 95, 96, 97, 471, 472, 473, 474, 475, 476, 477, 478, 479, 480, 481, 482, 483, 484, 485, 486, 487, 488, 489, 490, 491, 492, 493, 494, 495, 496, 497, 498, 499, 500, 501] (by decide +kernel) (by decide +kernel)
set_option maxRecDepth 20000 in
theorem gL_law_X6_reset : GoodIn wsL_law (wsV RL 72 RX6 yX6_reset wsX6_reset) := goodIn_app (goodIn_of _ (by decide +kernel)) ggL_law_X6_reset
theorem dL_law_0 : decode cL_law 0 = .ok (.new 8, 3) := by decide +kernel
theorem dL_law_3 : decode cL_law 3 = .ok (.dup, 1) := by decide +kernel
theorem dL_law_4 : decode cL_law 4 = .ok (.invokespecial 35, 3) := by decide +kernel
theorem dL_law_7 : decode cL_law 7 = .ok (.astore_n 1, 1) := by decide +kernel
theorem dL_law_8 : decode cL_law 8 = .ok (.new 36, 3) := by decide +kernel
theorem dL_law_11 : decode cL_law 11 = .ok (.dup, 1) := by decide +kernel
theorem dL_law_12 : decode cL_law 12 = .ok (.invokespecial 38, 3) := by decide +kernel
theorem dL_law_15 : decode cL_law 15 = .ok (.astore_n 2, 1) := by decide +kernel
theorem dL_law_16 : decode cL_law 16 = .ok (.iconst 1, 1) := by decide +kernel
theorem dL_law_17 : decode cL_law 17 = .ok (.newarray .long, 2) := by decide +kernel
theorem dL_law_19 : decode cL_law 19 = .ok (.astore_n 3, 1) := by decide +kernel
theorem dL_law_20 : decode cL_law 20 = .ok (.iconst 0, 1) := by decide +kernel
theorem dL_law_21 : decode cL_law 21 = .ok (.istore 4, 2) := by decide +kernel
theorem dL_law_23 : decode cL_law 23 = .ok (.iload 4, 2) := by decide +kernel
theorem dL_law_25 : decode cL_law 25 = .ok (.aload_n 0, 1) := by decide +kernel
theorem dL_law_26 : decode cL_law 26 = .ok (.arraylength, 1) := by decide +kernel
theorem dL_law_27 : decode cL_law 27 = .ok (.iconst 3, 1) := by decide +kernel
theorem dL_law_28 : decode cL_law 28 = .ok (.isub, 1) := by decide +kernel
theorem dL_law_29 : decode cL_law 29 = .ok (.if_icmp .gt 483, 3) := by decide +kernel
theorem dL_law_32 : decode cL_law 32 = .ok (.aload_n 0, 1) := by decide +kernel
theorem dL_law_33 : decode cL_law 33 = .ok (.iload 4, 2) := by decide +kernel
theorem dL_law_35 : decode cL_law 35 = .ok (.iaload, 1) := by decide +kernel
theorem dL_law_36 : decode cL_law 36 = .ok (.bipush 7, 2) := by decide +kernel
theorem dL_law_38 : decode cL_law 38 = .ok (.iand, 1) := by decide +kernel
theorem dL_law_39 : decode cL_law 39 = .ok (.tableswitch 467 0 7 #[45, 93, 149, 197, 288, 344, 400, 456], 45) := by decide +kernel
theorem dL_law_84 : decode cL_law 84 = .ok (.aload_n 1, 1) := by decide +kernel
theorem dL_law_85 : decode cL_law 85 = .ok (.aload_n 0, 1) := by decide +kernel
theorem dL_law_86 : decode cL_law 86 = .ok (.iload 4, 2) := by decide +kernel
theorem dL_law_88 : decode cL_law 88 = .ok (.iconst 1, 1) := by decide +kernel
theorem dL_law_89 : decode cL_law 89 = .ok (.iadd, 1) := by decide +kernel
theorem dL_law_90 : decode cL_law 90 = .ok (.iaload, 1) := by decide +kernel
theorem dL_law_91 : decode cL_law 91 = .ok (.aload_n 0, 1) := by decide +kernel
theorem dL_law_92 : decode cL_law 92 = .ok (.iload 4, 2) := by decide +kernel
theorem dL_law_94 : decode cL_law 94 = .ok (.iconst 2, 1) := by decide +kernel
theorem dL_law_95 : decode cL_law 95 = .ok (.iadd, 1) := by decide +kernel
theorem dL_law_96 : decode cL_law 96 = .ok (.iaload, 1) := by decide +kernel
theorem dL_law_97 : decode cL_law 97 = .ok (.invokestatic 39, 3) := by decide +kernel
theorem dL_law_100 : decode cL_law 100 = .ok (.istore 5, 2) := by decide +kernel
theorem dL_law_102 : decode cL_law 102 = .ok (.aload_n 2, 1) := by decide +kernel
theorem dL_law_103 : decode cL_law 103 = .ok (.aload_n 0, 1) := by decide +kernel
theorem dL_law_104 : decode cL_law 104 = .ok (.iload 4, 2) := by decide +kernel
theorem dL_law_106 : decode cL_law 106 = .ok (.iconst 1, 1) := by decide +kernel
theorem dL_law_107 : decode cL_law 107 = .ok (.iadd, 1) := by decide +kernel
theorem dL_law_108 : decode cL_law 108 = .ok (.iaload, 1) := by decide +kernel
theorem dL_law_109 : decode cL_law 109 = .ok (.aload_n 0, 1) := by decide +kernel
theorem dL_law_110 : decode cL_law 110 = .ok (.iload 4, 2) := by decide +kernel
theorem dL_law_112 : decode cL_law 112 = .ok (.iconst 2, 1) := by decide +kernel
theorem dL_law_113 : decode cL_law 113 = .ok (.iadd, 1) := by decide +kernel
theorem dL_law_114 : decode cL_law 114 = .ok (.iaload, 1) := by decide +kernel
theorem dL_law_115 : decode cL_law 115 = .ok (.invokevirtual 44, 3) := by decide +kernel
theorem dL_law_118 : decode cL_law 118 = .ok (.aload_n 2, 1) := by decide +kernel
theorem dL_law_119 : decode cL_law 119 = .ok (.invokevirtual 45, 3) := by decide +kernel
theorem dL_law_122 : decode cL_law 122 = .ok (.iload 5, 2) := by decide +kernel
theorem dL_law_124 : decode cL_law 124 = .ok (.if_icmp .eq 5, 3) := by decide +kernel
theorem dL_law_127 : decode cL_law 127 = .ok (.iconst 0, 1) := by decide +kernel
theorem dL_law_128 : decode cL_law 128 = .ok (.ireturn, 1) := by decide +kernel
theorem dL_law_129 : decode cL_law 129 = .ok (.goto 377, 3) := by decide +kernel
theorem dL_law_132 : decode cL_law 132 = .ok (.aload_n 1, 1) := by decide +kernel
theorem dL_law_133 : decode cL_law 133 = .ok (.aload_n 0, 1) := by decide +kernel
theorem dL_law_134 : decode cL_law 134 = .ok (.iload 4, 2) := by decide +kernel
theorem dL_law_136 : decode cL_law 136 = .ok (.iconst 1, 1) := by decide +kernel
theorem dL_law_137 : decode cL_law 137 = .ok (.iadd, 1) := by decide +kernel
theorem dL_law_138 : decode cL_law 138 = .ok (.iaload, 1) := by decide +kernel
theorem dL_law_139 : decode cL_law 139 = .ok (.aload_n 3, 1) := by decide +kernel
theorem dL_law_140 : decode cL_law 140 = .ok (.invokestatic 49, 3) := by decide +kernel
theorem dL_law_143 : decode cL_law 143 = .ok (.istore 5, 2) := by decide +kernel
theorem dL_law_145 : decode cL_law 145 = .ok (.aload_n 2, 1) := by decide +kernel
theorem dL_law_146 : decode cL_law 146 = .ok (.aload_n 0, 1) := by decide +kernel
theorem dL_law_147 : decode cL_law 147 = .ok (.iload 4, 2) := by decide +kernel
theorem dL_law_149 : decode cL_law 149 = .ok (.iconst 1, 1) := by decide +kernel
theorem dL_law_150 : decode cL_law 150 = .ok (.iadd, 1) := by decide +kernel
theorem dL_law_151 : decode cL_law 151 = .ok (.iaload, 1) := by decide +kernel
theorem dL_law_152 : decode cL_law 152 = .ok (.invokevirtual 52, 3) := by decide +kernel
theorem dL_law_155 : decode cL_law 155 = .ok (.istore 6, 2) := by decide +kernel
theorem dL_law_157 : decode cL_law 157 = .ok (.aload_n 2, 1) := by decide +kernel
theorem dL_law_158 : decode cL_law 158 = .ok (.invokevirtual 45, 3) := by decide +kernel
theorem dL_law_161 : decode cL_law 161 = .ok (.iload 5, 2) := by decide +kernel
theorem dL_law_163 : decode cL_law 163 = .ok (.if_icmp .eq 5, 3) := by decide +kernel
theorem dL_law_166 : decode cL_law 166 = .ok (.iconst 0, 1) := by decide +kernel
theorem dL_law_167 : decode cL_law 167 = .ok (.ireturn, 1) := by decide +kernel
theorem dL_law_168 : decode cL_law 168 = .ok (.iload 5, 2) := by decide +kernel
theorem dL_law_170 : decode cL_law 170 = .ok (.ifCond .ne 15, 3) := by decide +kernel
theorem dL_law_173 : decode cL_law 173 = .ok (.aload_n 3, 1) := by decide +kernel
theorem dL_law_174 : decode cL_law 174 = .ok (.iconst 0, 1) := by decide +kernel
theorem dL_law_175 : decode cL_law 175 = .ok (.laload, 1) := by decide +kernel
theorem dL_law_176 : decode cL_law 176 = .ok (.iload 6, 2) := by decide +kernel
theorem dL_law_178 : decode cL_law 178 = .ok (.i2l, 1) := by decide +kernel
theorem dL_law_179 : decode cL_law 179 = .ok (.lcmp, 1) := by decide +kernel
theorem dL_law_180 : decode cL_law 180 = .ok (.ifCond .eq 5, 3) := by decide +kernel
theorem dL_law_183 : decode cL_law 183 = .ok (.iconst 0, 1) := by decide +kernel
theorem dL_law_184 : decode cL_law 184 = .ok (.ireturn, 1) := by decide +kernel
theorem dL_law_185 : decode cL_law 185 = .ok (.goto 321, 3) := by decide +kernel
theorem dL_law_188 : decode cL_law 188 = .ok (.aload_n 1, 1) := by decide +kernel
theorem dL_law_189 : decode cL_law 189 = .ok (.aload_n 0, 1) := by decide +kernel
theorem dL_law_190 : decode cL_law 190 = .ok (.iload 4, 2) := by decide +kernel
theorem dL_law_192 : decode cL_law 192 = .ok (.iconst 1, 1) := by decide +kernel
theorem dL_law_193 : decode cL_law 193 = .ok (.iadd, 1) := by decide +kernel
theorem dL_law_194 : decode cL_law 194 = .ok (.iaload, 1) := by decide +kernel
theorem dL_law_195 : decode cL_law 195 = .ok (.aload_n 0, 1) := by decide +kernel
theorem dL_law_196 : decode cL_law 196 = .ok (.iload 4, 2) := by decide +kernel
theorem dL_law_198 : decode cL_law 198 = .ok (.iconst 2, 1) := by decide +kernel
theorem dL_law_199 : decode cL_law 199 = .ok (.iadd, 1) := by decide +kernel
theorem dL_law_200 : decode cL_law 200 = .ok (.iaload, 1) := by decide +kernel
theorem dL_law_201 : decode cL_law 201 = .ok (.invokestatic 53, 3) := by decide +kernel
theorem dL_law_204 : decode cL_law 204 = .ok (.istore 5, 2) := by decide +kernel
theorem dL_law_206 : decode cL_law 206 = .ok (.aload_n 2, 1) := by decide +kernel
theorem dL_law_207 : decode cL_law 207 = .ok (.aload_n 0, 1) := by decide +kernel
theorem dL_law_208 : decode cL_law 208 = .ok (.iload 4, 2) := by decide +kernel
theorem dL_law_210 : decode cL_law 210 = .ok (.iconst 1, 1) := by decide +kernel
theorem dL_law_211 : decode cL_law 211 = .ok (.iadd, 1) := by decide +kernel
theorem dL_law_212 : decode cL_law 212 = .ok (.iaload, 1) := by decide +kernel
theorem dL_law_213 : decode cL_law 213 = .ok (.aload_n 0, 1) := by decide +kernel
theorem dL_law_214 : decode cL_law 214 = .ok (.iload 4, 2) := by decide +kernel
theorem dL_law_216 : decode cL_law 216 = .ok (.iconst 2, 1) := by decide +kernel
theorem dL_law_217 : decode cL_law 217 = .ok (.iadd, 1) := by decide +kernel
theorem dL_law_218 : decode cL_law 218 = .ok (.iaload, 1) := by decide +kernel
theorem dL_law_219 : decode cL_law 219 = .ok (.invokevirtual 55, 3) := by decide +kernel
theorem dL_law_222 : decode cL_law 222 = .ok (.aload_n 2, 1) := by decide +kernel
theorem dL_law_223 : decode cL_law 223 = .ok (.invokevirtual 45, 3) := by decide +kernel
theorem dL_law_226 : decode cL_law 226 = .ok (.iload 5, 2) := by decide +kernel
theorem dL_law_228 : decode cL_law 228 = .ok (.if_icmp .eq 5, 3) := by decide +kernel
theorem dL_law_231 : decode cL_law 231 = .ok (.iconst 0, 1) := by decide +kernel
theorem dL_law_232 : decode cL_law 232 = .ok (.ireturn, 1) := by decide +kernel
theorem dL_law_233 : decode cL_law 233 = .ok (.goto 273, 3) := by decide +kernel
theorem dL_law_236 : decode cL_law 236 = .ok (.aload_n 1, 1) := by decide +kernel
theorem dL_law_237 : decode cL_law 237 = .ok (.aload_n 0, 1) := by decide +kernel
theorem dL_law_238 : decode cL_law 238 = .ok (.iload 4, 2) := by decide +kernel
theorem dL_law_240 : decode cL_law 240 = .ok (.iconst 1, 1) := by decide +kernel
theorem dL_law_241 : decode cL_law 241 = .ok (.iadd, 1) := by decide +kernel
theorem dL_law_242 : decode cL_law 242 = .ok (.iaload, 1) := by decide +kernel
theorem dL_law_243 : decode cL_law 243 = .ok (.aload_n 0, 1) := by decide +kernel
theorem dL_law_244 : decode cL_law 244 = .ok (.iload 4, 2) := by decide +kernel
theorem dL_law_246 : decode cL_law 246 = .ok (.iconst 2, 1) := by decide +kernel
theorem dL_law_247 : decode cL_law 247 = .ok (.iadd, 1) := by decide +kernel
theorem dL_law_248 : decode cL_law 248 = .ok (.iaload, 1) := by decide +kernel
theorem dL_law_249 : decode cL_law 249 = .ok (.ifCond .eq 7, 3) := by decide +kernel
theorem dL_law_252 : decode cL_law 252 = .ok (.iconst 1, 1) := by decide +kernel
theorem dL_law_253 : decode cL_law 253 = .ok (.goto 4, 3) := by decide +kernel
theorem dL_law_256 : decode cL_law 256 = .ok (.iconst 0, 1) := by decide +kernel
theorem dL_law_257 : decode cL_law 257 = .ok (.aload_n 3, 1) := by decide +kernel
theorem dL_law_258 : decode cL_law 258 = .ok (.invokestatic 56, 3) := by decide +kernel
theorem dL_law_261 : decode cL_law 261 = .ok (.istore 5, 2) := by decide +kernel
theorem dL_law_263 : decode cL_law 263 = .ok (.aload_n 2, 1) := by decide +kernel
theorem dL_law_264 : decode cL_law 264 = .ok (.aload_n 0, 1) := by decide +kernel
theorem dL_law_265 : decode cL_law 265 = .ok (.iload 4, 2) := by decide +kernel
theorem dL_law_267 : decode cL_law 267 = .ok (.iconst 1, 1) := by decide +kernel
theorem dL_law_268 : decode cL_law 268 = .ok (.iadd, 1) := by decide +kernel
theorem dL_law_269 : decode cL_law 269 = .ok (.iaload, 1) := by decide +kernel
theorem dL_law_270 : decode cL_law 270 = .ok (.aload_n 0, 1) := by decide +kernel
theorem dL_law_271 : decode cL_law 271 = .ok (.iload 4, 2) := by decide +kernel
theorem dL_law_273 : decode cL_law 273 = .ok (.iconst 2, 1) := by decide +kernel
theorem dL_law_274 : decode cL_law 274 = .ok (.iadd, 1) := by decide +kernel
theorem dL_law_275 : decode cL_law 275 = .ok (.iaload, 1) := by decide +kernel
theorem dL_law_276 : decode cL_law 276 = .ok (.ifCond .eq 7, 3) := by decide +kernel
theorem dL_law_279 : decode cL_law 279 = .ok (.iconst 1, 1) := by decide +kernel
theorem dL_law_280 : decode cL_law 280 = .ok (.goto 4, 3) := by decide +kernel
theorem dL_law_283 : decode cL_law 283 = .ok (.iconst 0, 1) := by decide +kernel
theorem dL_law_284 : decode cL_law 284 = .ok (.invokevirtual 59, 3) := by decide +kernel
theorem dL_law_287 : decode cL_law 287 = .ok (.istore 6, 2) := by decide +kernel
theorem dL_law_289 : decode cL_law 289 = .ok (.aload_n 2, 1) := by decide +kernel
theorem dL_law_290 : decode cL_law 290 = .ok (.invokevirtual 45, 3) := by decide +kernel
theorem dL_law_293 : decode cL_law 293 = .ok (.iload 5, 2) := by decide +kernel
theorem dL_law_295 : decode cL_law 295 = .ok (.if_icmp .eq 5, 3) := by decide +kernel
theorem dL_law_298 : decode cL_law 298 = .ok (.iconst 0, 1) := by decide +kernel
theorem dL_law_299 : decode cL_law 299 = .ok (.ireturn, 1) := by decide +kernel
theorem dL_law_300 : decode cL_law 300 = .ok (.iload 5, 2) := by decide +kernel
theorem dL_law_302 : decode cL_law 302 = .ok (.ifCond .ne 22, 3) := by decide +kernel
theorem dL_law_305 : decode cL_law 305 = .ok (.aload_n 3, 1) := by decide +kernel
theorem dL_law_306 : decode cL_law 306 = .ok (.iconst 0, 1) := by decide +kernel
theorem dL_law_307 : decode cL_law 307 = .ok (.laload, 1) := by decide +kernel
theorem dL_law_308 : decode cL_law 308 = .ok (.iload 6, 2) := by decide +kernel
theorem dL_law_310 : decode cL_law 310 = .ok (.ifCond .eq 7, 3) := by decide +kernel
theorem dL_law_313 : decode cL_law 313 = .ok (.lconst 1, 1) := by decide +kernel
theorem dL_law_314 : decode cL_law 314 = .ok (.goto 4, 3) := by decide +kernel
theorem dL_law_317 : decode cL_law 317 = .ok (.lconst 0, 1) := by decide +kernel
theorem dL_law_318 : decode cL_law 318 = .ok (.lcmp, 1) := by decide +kernel
theorem dL_law_319 : decode cL_law 319 = .ok (.ifCond .eq 5, 3) := by decide +kernel
theorem dL_law_322 : decode cL_law 322 = .ok (.iconst 0, 1) := by decide +kernel
theorem dL_law_323 : decode cL_law 323 = .ok (.ireturn, 1) := by decide +kernel
theorem dL_law_324 : decode cL_law 324 = .ok (.goto 182, 3) := by decide +kernel
theorem dL_law_327 : decode cL_law 327 = .ok (.aload_n 1, 1) := by decide +kernel
theorem dL_law_328 : decode cL_law 328 = .ok (.aload_n 0, 1) := by decide +kernel
theorem dL_law_329 : decode cL_law 329 = .ok (.iload 4, 2) := by decide +kernel
theorem dL_law_331 : decode cL_law 331 = .ok (.iconst 1, 1) := by decide +kernel
theorem dL_law_332 : decode cL_law 332 = .ok (.iadd, 1) := by decide +kernel
theorem dL_law_333 : decode cL_law 333 = .ok (.iaload, 1) := by decide +kernel
theorem dL_law_334 : decode cL_law 334 = .ok (.aload_n 3, 1) := by decide +kernel
theorem dL_law_335 : decode cL_law 335 = .ok (.invokestatic 60, 3) := by decide +kernel
theorem dL_law_338 : decode cL_law 338 = .ok (.istore 5, 2) := by decide +kernel
theorem dL_law_340 : decode cL_law 340 = .ok (.aload_n 2, 1) := by decide +kernel
theorem dL_law_341 : decode cL_law 341 = .ok (.aload_n 0, 1) := by decide +kernel
theorem dL_law_342 : decode cL_law 342 = .ok (.iload 4, 2) := by decide +kernel
theorem dL_law_344 : decode cL_law 344 = .ok (.iconst 1, 1) := by decide +kernel
theorem dL_law_345 : decode cL_law 345 = .ok (.iadd, 1) := by decide +kernel
theorem dL_law_346 : decode cL_law 346 = .ok (.iaload, 1) := by decide +kernel
theorem dL_law_347 : decode cL_law 347 = .ok (.invokevirtual 62, 3) := by decide +kernel
theorem dL_law_350 : decode cL_law 350 = .ok (.istore 6, 2) := by decide +kernel
theorem dL_law_352 : decode cL_law 352 = .ok (.aload_n 2, 1) := by decide +kernel
theorem dL_law_353 : decode cL_law 353 = .ok (.invokevirtual 45, 3) := by decide +kernel
theorem dL_law_356 : decode cL_law 356 = .ok (.iload 5, 2) := by decide +kernel
theorem dL_law_358 : decode cL_law 358 = .ok (.if_icmp .eq 5, 3) := by decide +kernel
theorem dL_law_361 : decode cL_law 361 = .ok (.iconst 0, 1) := by decide +kernel
theorem dL_law_362 : decode cL_law 362 = .ok (.ireturn, 1) := by decide +kernel
theorem dL_law_363 : decode cL_law 363 = .ok (.iload 5, 2) := by decide +kernel
theorem dL_law_365 : decode cL_law 365 = .ok (.ifCond .ne 15, 3) := by decide +kernel
theorem dL_law_368 : decode cL_law 368 = .ok (.aload_n 3, 1) := by decide +kernel
theorem dL_law_369 : decode cL_law 369 = .ok (.iconst 0, 1) := by decide +kernel
theorem dL_law_370 : decode cL_law 370 = .ok (.laload, 1) := by decide +kernel
theorem dL_law_371 : decode cL_law 371 = .ok (.iload 6, 2) := by decide +kernel
theorem dL_law_373 : decode cL_law 373 = .ok (.i2l, 1) := by decide +kernel
theorem dL_law_374 : decode cL_law 374 = .ok (.lcmp, 1) := by decide +kernel
theorem dL_law_375 : decode cL_law 375 = .ok (.ifCond .eq 5, 3) := by decide +kernel
theorem dL_law_378 : decode cL_law 378 = .ok (.iconst 0, 1) := by decide +kernel
theorem dL_law_379 : decode cL_law 379 = .ok (.ireturn, 1) := by decide +kernel
theorem dL_law_380 : decode cL_law 380 = .ok (.goto 126, 3) := by decide +kernel
theorem dL_law_383 : decode cL_law 383 = .ok (.aload_n 1, 1) := by decide +kernel
theorem dL_law_384 : decode cL_law 384 = .ok (.aload_n 0, 1) := by decide +kernel
theorem dL_law_385 : decode cL_law 385 = .ok (.iload 4, 2) := by decide +kernel
theorem dL_law_387 : decode cL_law 387 = .ok (.iconst 1, 1) := by decide +kernel
theorem dL_law_388 : decode cL_law 388 = .ok (.iadd, 1) := by decide +kernel
theorem dL_law_389 : decode cL_law 389 = .ok (.iaload, 1) := by decide +kernel
theorem dL_law_390 : decode cL_law 390 = .ok (.aload_n 3, 1) := by decide +kernel
theorem dL_law_391 : decode cL_law 391 = .ok (.invokestatic 63, 3) := by decide +kernel
theorem dL_law_394 : decode cL_law 394 = .ok (.istore 5, 2) := by decide +kernel
theorem dL_law_396 : decode cL_law 396 = .ok (.aload_n 2, 1) := by decide +kernel
theorem dL_law_397 : decode cL_law 397 = .ok (.aload_n 0, 1) := by decide +kernel
theorem dL_law_398 : decode cL_law 398 = .ok (.iload 4, 2) := by decide +kernel
theorem dL_law_400 : decode cL_law 400 = .ok (.iconst 1, 1) := by decide +kernel
theorem dL_law_401 : decode cL_law 401 = .ok (.iadd, 1) := by decide +kernel
theorem dL_law_402 : decode cL_law 402 = .ok (.iaload, 1) := by decide +kernel
theorem dL_law_403 : decode cL_law 403 = .ok (.invokevirtual 65, 3) := by decide +kernel
theorem dL_law_406 : decode cL_law 406 = .ok (.istore 6, 2) := by decide +kernel
theorem dL_law_408 : decode cL_law 408 = .ok (.aload_n 2, 1) := by decide +kernel
theorem dL_law_409 : decode cL_law 409 = .ok (.invokevirtual 45, 3) := by decide +kernel
theorem dL_law_412 : decode cL_law 412 = .ok (.iload 5, 2) := by decide +kernel
theorem dL_law_414 : decode cL_law 414 = .ok (.if_icmp .eq 5, 3) := by decide +kernel
theorem dL_law_417 : decode cL_law 417 = .ok (.iconst 0, 1) := by decide +kernel
theorem dL_law_418 : decode cL_law 418 = .ok (.ireturn, 1) := by decide +kernel
theorem dL_law_419 : decode cL_law 419 = .ok (.iload 5, 2) := by decide +kernel
theorem dL_law_421 : decode cL_law 421 = .ok (.ifCond .ne 15, 3) := by decide +kernel
theorem dL_law_424 : decode cL_law 424 = .ok (.aload_n 3, 1) := by decide +kernel
theorem dL_law_425 : decode cL_law 425 = .ok (.iconst 0, 1) := by decide +kernel
theorem dL_law_426 : decode cL_law 426 = .ok (.laload, 1) := by decide +kernel
theorem dL_law_427 : decode cL_law 427 = .ok (.iload 6, 2) := by decide +kernel
theorem dL_law_429 : decode cL_law 429 = .ok (.i2l, 1) := by decide +kernel
theorem dL_law_430 : decode cL_law 430 = .ok (.lcmp, 1) := by decide +kernel
theorem dL_law_431 : decode cL_law 431 = .ok (.ifCond .eq 5, 3) := by decide +kernel
theorem dL_law_434 : decode cL_law 434 = .ok (.iconst 0, 1) := by decide +kernel
theorem dL_law_435 : decode cL_law 435 = .ok (.ireturn, 1) := by decide +kernel
theorem dL_law_436 : decode cL_law 436 = .ok (.goto 70, 3) := by decide +kernel
theorem dL_law_439 : decode cL_law 439 = .ok (.aload_n 1, 1) := by decide +kernel
theorem dL_law_440 : decode cL_law 440 = .ok (.aload_n 0, 1) := by decide +kernel
theorem dL_law_441 : decode cL_law 441 = .ok (.iload 4, 2) := by decide +kernel
theorem dL_law_443 : decode cL_law 443 = .ok (.iconst 1, 1) := by decide +kernel
theorem dL_law_444 : decode cL_law 444 = .ok (.iadd, 1) := by decide +kernel
theorem dL_law_445 : decode cL_law 445 = .ok (.iaload, 1) := by decide +kernel
theorem dL_law_446 : decode cL_law 446 = .ok (.aload_n 3, 1) := by decide +kernel
theorem dL_law_447 : decode cL_law 447 = .ok (.invokestatic 66, 3) := by decide +kernel
theorem dL_law_450 : decode cL_law 450 = .ok (.istore 5, 2) := by decide +kernel
theorem dL_law_452 : decode cL_law 452 = .ok (.aload_n 2, 1) := by decide +kernel
theorem dL_law_453 : decode cL_law 453 = .ok (.aload_n 0, 1) := by decide +kernel
theorem dL_law_454 : decode cL_law 454 = .ok (.iload 4, 2) := by decide +kernel
theorem dL_law_456 : decode cL_law 456 = .ok (.iconst 1, 1) := by decide +kernel
theorem dL_law_457 : decode cL_law 457 = .ok (.iadd, 1) := by decide +kernel
theorem dL_law_458 : decode cL_law 458 = .ok (.iaload, 1) := by decide +kernel
theorem dL_law_459 : decode cL_law 459 = .ok (.invokevirtual 68, 3) := by decide +kernel
theorem dL_law_462 : decode cL_law 462 = .ok (.istore 6, 2) := by decide +kernel
theorem dL_law_464 : decode cL_law 464 = .ok (.aload_n 2, 1) := by decide +kernel
theorem dL_law_465 : decode cL_law 465 = .ok (.invokevirtual 45, 3) := by decide +kernel
theorem dL_law_468 : decode cL_law 468 = .ok (.iload 5, 2) := by decide +kernel
theorem dL_law_470 : decode cL_law 470 = .ok (.if_icmp .eq 5, 3) := by decide +kernel
theorem dL_law_473 : decode cL_law 473 = .ok (.iconst 0, 1) := by decide +kernel
theorem dL_law_474 : decode cL_law 474 = .ok (.ireturn, 1) := by decide +kernel
theorem dL_law_475 : decode cL_law 475 = .ok (.iload 5, 2) := by decide +kernel
theorem dL_law_477 : decode cL_law 477 = .ok (.ifCond .ne 15, 3) := by decide +kernel
theorem dL_law_480 : decode cL_law 480 = .ok (.aload_n 3, 1) := by decide +kernel
theorem dL_law_481 : decode cL_law 481 = .ok (.iconst 0, 1) := by decide +kernel
theorem dL_law_482 : decode cL_law 482 = .ok (.laload, 1) := by decide +kernel
theorem dL_law_483 : decode cL_law 483 = .ok (.iload 6, 2) := by decide +kernel
theorem dL_law_485 : decode cL_law 485 = .ok (.i2l, 1) := by decide +kernel
theorem dL_law_486 : decode cL_law 486 = .ok (.lcmp, 1) := by decide +kernel
theorem dL_law_487 : decode cL_law 487 = .ok (.ifCond .eq 5, 3) := by decide +kernel
theorem dL_law_490 : decode cL_law 490 = .ok (.iconst 0, 1) := by decide +kernel
theorem dL_law_491 : decode cL_law 491 = .ok (.ireturn, 1) := by decide +kernel
theorem dL_law_492 : decode cL_law 492 = .ok (.goto 14, 3) := by decide +kernel
theorem dL_law_495 : decode cL_law 495 = .ok (.aload_n 1, 1) := by decide +kernel
theorem dL_law_496 : decode cL_law 496 = .ok (.invokevirtual 69, 3) := by decide +kernel
theorem dL_law_499 : decode cL_law 499 = .ok (.aload_n 2, 1) := by decide +kernel
theorem dL_law_500 : decode cL_law 500 = .ok (.invokevirtual 72, 3) := by decide +kernel
theorem dL_law_503 : decode cL_law 503 = .ok (.goto 3, 3) := by decide +kernel
theorem dL_law_506 : decode cL_law 506 = .ok (.iinc 4 3, 3) := by decide +kernel
theorem dL_law_509 : decode cL_law 509 = .ok (.goto (-486), 3) := by decide +kernel
theorem dL_law_512 : decode cL_law 512 = .ok (.iconst 1, 1) := by decide +kernel
theorem dL_law_513 : decode cL_law 513 = .ok (.ireturn, 1) := by decide +kernel
end
section
/-! THE CLAIM OUT OF ONE WALK OF THE LAW'S BODY. Your part is whole_start (and what it stands on); all else here is the same for every law, but numbers. -/
def R_law : String := "PortTimersLaw"
def lw_P (b : Addr) (xs : List Int32) (args : Array Value) (s : State) : Prop := args = #[.ref b] ∧ s.IntsAt b xs ∧ xs.length ≤ 1536 ∧ (Jvm.Cond.and given_1 narrow_1).before args s = true
def lw_Q (_ : Array Value) (s : State) (o : Outcome) (t : State) : Prop := o = .returned (some (.int 1)) ∧ Framed s o t [] 1042 8325
def lw_Z (below : List Frame) (a : Array Value) (s : State) : State → Prop := fun t => ∃ o, t.status = .running ∧ Ended t below o ∧ lw_Q a s o t
/-- the law's own end, with 1 on the stack, nothing written that was there before, its room as the claim has it -/
theorem lw_ret {p : Program} {l : Launch} {e : Env} {s : State} {m : MethodId} {below : List Frame} {meth : Method} {c : Code} {b : Nat} (hx : p.tables.exec = Jvm.exec) (hb : c.code = code) (hr : meth.sig.returnType = ret) (hlocks : meth.locks = false) {pc : Nat} {H : Heap} {ls : Array Slot} (hdg : decode code pc = .ok (.ireturn, 1)) : W p l e room_1 s m #[Value.ref b] below meth c H [] 1042 8325 (lw_Z below #[Value.ref b] s) (F0 m pc ls [.int 1]) := by
  intro T hT X
  obtain ⟨fs, hret, hrun, hended, hW, hframe⟩ := X.leave (v := some (.int 1)) (hlocks := hlocks) (fun h => by rw [hr] at h; cases h)
  have hmeth' : T.vm.method? m = some meth := X.method'
  refine ⟨T.setFrames fs, ?_, .returned (some (.int 1)), hrun, hended, rfl, ⟨_, rfl⟩, hW, hframe⟩
  jvm_step X.here [X.here.top, hx, hb, hdg, hmeth', hr, ret, narrow_b1]
  (try refine ⟨rfl, ?_⟩); (try refine ⟨rfl, ?_⟩)
  first | (intro acts; rw [hret _ acts rfl rfl rfl]) | rw [hret _ _ rfl rfl rfl]
  exact Steps.refl _
/-- what holds at the law's entry: the machine, the code, the tables' words (any of lw_tbl by 'hts w (by decide +kernel)'), the script of L ints xs at the cell b, what the Statement gives of the start (any of its parts by flat_of_before) -/
def lw_At (p : Program) (s : State) (m : MethodId) (meth : Method) (c : Code) (b L : Nat) (xs : Nat → Int32) : Prop :=
  p.tables.exec = Jvm.exec ∧ c.code = code ∧ meth.sig.returnType = ret ∧ c.maxLocals = 7 ∧ s.vm.findClass R_law = some m.cls ∧ (∀ w ∈ lw_tbl, w.before #[Value.ref b] s = true) ∧ va_X b L xs s s.heap ∧ b < s.heap.size ∧ meth.locks = false ∧ (Jvm.Cond.and given_1 narrow_1).before #[Value.ref b] s = true
end
section
/-! The standard form of a contract here, and its call: a method's world before and behind it, its answer; nothing else changes. -/
section STD
theorem st_fm {α β : Type} {f : α → Option β} : ∀ {l : List α} {w : List β}, l.map f = w.map some → l.filterMap f = w := by
  intro l
  induction l with
  | nil => intro w h; cases w with
    | nil => rfl
    | cons a t => cases h
  | cons a t ih => intro w h; cases w with
    | nil => cases h
    | cons b u =>
      simp only [List.map_cons, List.cons.injEq] at h
      rw [List.filterMap_cons, h.1, ih h.2]
def stP (D : va_G) (tys : List (ClassId × FieldType)) (E : State → Prop) (ws : va_W) (sz : Nat) : State → Prop := fun U => U.heap.size = sz ∧ va_P D vwCl ws U.heap ∧ va_K D vwCl tys U ∧ va_D (fun _ => True) ws ∧ E U
def stB (D : va_G) (A : Nat → Prop) (ws : va_W) : Unit → State → Prop := fun _ t => va_P D vwCl ws t.heap ∧ va_D A ws
def stV (l : Launch) (y : MethodName) (wy : List Cond) (rm : Room) (D : va_G) (tys : List (ClassId × FieldType)) (E : State → Prop) (av : List Value) (ws w1 : va_W) : Prop :=
  ∀ sz : Nat, Met l y wy rm (va_Pc av (stP D tys E ws sz)) (va_Qv (fun _ : Unit => True) (stB D (va_A ws sz) w1) (va_A ws sz)) 0 0 (va_A ws sz)
def stI (l : Launch) (y : MethodName) (wy : List Cond) (rm : Room) (D : va_G) (tys : List (ClassId × FieldType)) (E : State → Prop) (av : List Value) (ws w1 : va_W) (r : Int32) : Prop :=
  ∀ sz : Nat, Met l y wy rm (va_Pc av (stP D tys E ws sz)) (va_Qi (fun (x : Int32) (_ : Unit) => x = r) (stB D (va_A ws sz) w1) (va_A ws sz)) 0 0 (va_A ws sz)
/-- what is said of the tables alone -/
def stE (E : State → Prop) : Prop := ∀ s U : State, s.WarmedH U.vm → E s → E U
def stEv (E : State → Prop) : Prop := ∀ s U : State, s.vm = U.vm → E s → E U
def tE : State → Prop := fun _ => True
theorem tE_v : stEv tE := fun _ _ _ _ => trivial
theorem st_blind {D : va_G} {tys : List (ClassId × FieldType)} {E : State → Prop} {av : List Value} {ws : va_W} {sz : Nat} (hEv : stEv E) : FrameBlind (va_Pc av (stP D tys E ws sz)) := fun a U g mk q => by
  obtain ⟨q0, q1, qP, qK, qD, qE⟩ := q
  exact ⟨q0, q1, qP, va_K.moved (u := U) (U := U.calling g mk a) (Vm.Alike.refl U.vm) qK, qD, hEv U _ rfl qE⟩
section
variable {p : Program} {l : Launch} {e : Env} {R : Room} {s : State} {m : MethodId} {args : Array Value} {below : List Frame} {meth : Method} {c : Code} {H : Heap} {locs : List Loc} {cells slots : Nat} {Q : State → Prop}
variable {y : MethodName} {bytes cc : ByteArray} {maxL nL n index : Nat} {ret : Option FieldType} {wy : List Cond} {rm : Room} {Ts : List Cond} {own C : String} {b : Addr} {As rest st0 : List Value} {pc : Nat} {ls : Array Slot}
variable {D : va_G} {tys tysc : List (ClassId × FieldType)} {E : State → Prop} {A : Nat → Prop} {ws wc wr w1 wn : va_W} {r : Int32}
theorem st_pre (hE : ∀ U : State, s.WarmedH U.vm → E U) (hK : va_K D vwCl tysc s) (hP : va_P D vwCl wc H) (hD : va_D A wc) : ∀ U : State, U.heap = H → s.WarmedH U.vm → va_Pc As (stP D tysc E wc H.size) As.toArray U := fun U hU hW =>
  ⟨rfl, by rw [hU], by rw [hU]; exact hP, va_K.moved hW.alike hK, hD.weaken (fun _ _ _ _ => trivial), hE U hW⟩
theorem st_behind {H1 : Heap} {t : State} (hP : va_P D vwCl ws H) (hD : va_D A ws) (isC isR perm : List Nat) (hC : isC.map (fun i => ws[i]?) = wc.map some) (hR : isR.map (fun i => ws[i]?) = wr.map some) (hnd : va_nd isR = true) (hdis : ∀ i ∈ isR, i ∉ isC)
    (hp : perm.map (fun i => (wr ++ w1)[i]?) = wn.map some) (hpn : va_nd perm = true) (hF : ∀ q, va_A wc H.size q → A q) (ht : t.heap = H1) (hB : stB D (va_A wc H.size) w1 () t) (hk : ∀ q : Nat, q < H.size → ¬ va_A wc H.size q → H1[q]? = H[q]?) : va_P D vwCl wn H1 ∧ va_D A wn := by
  obtain ⟨hP1, hD1⟩ := hB
  rw [ht] at hP1
  obtain ⟨hP2, hD2⟩ := va_join hP hD isC isR hC hR hnd hdis hk hF hP1 hD1
  exact ⟨hP2.sub perm (st_fm hp), hD2.sub perm hpn hp⟩
theorem st_vV (S : CallFix p m c cc nL s args Ts own) (hM : stV l y wy rm D tysc E (Value.ref b :: As) wc w1) (cw : CallW R s args own C index y bytes maxL ret wy rm 0 0 n) (hEv : stEv E) (hE : ∀ U : State, s.WarmedH U.vm → E U) (hK : va_K D vwCl tysc s)
    (hP : va_P D vwCl ws H) (hD : va_D A ws) (hS : va_S A s.heap H locs) (hA : ∀ q, s.heap.size ≤ q → A q) (hrc : va_P D vwCl wc H → ∃ cellB : Cell, H[b]? = some cellB ∧ cellB.vm.isStatics = false ∧ s.vm.findClass C = some cellB.cls)
    (isC isR perm : List Nat) (hC : isC.map (fun i => ws[i]?) = wc.map some) (hR : isR.map (fun i => ws[i]?) = wr.map some) (hx : va_nd isC = true ∧ va_nd isR = true ∧ va_nd perm = true ∧ (∀ i ∈ isR, i ∉ isC)) (hp : perm.map (fun i => (wr ++ w1)[i]?) = wn.map some)
    (hst : st0 = As.reverse ++ .ref b :: rest) (hn : As.length = n) (hsz : ls.size = nL) (hW : (rest.map fun v => v.category).sum ≤ 8) (hdg : decode cc pc = .ok (.invokevirtual index, 3)) (hc : cells ≤ R.cells ∧ slots ≤ R.slots)
    (kk : ∀ (H1 : Heap) (locs1 : List Loc), va_P D vwCl wn H1 → va_D A wn → va_S A s.heap H1 locs1 → W p l e R s m args below meth c H1 locs1 cells slots Q (F0 m (pc + 3) ls rest)) : W p l e R s m args below meth c H locs cells slots Q (F0 m pc ls st0) := by
  have hPc : va_P D vwCl wc H := hP.sub isC (st_fm hC)
  have hDc : va_D A wc := hD.sub isC hx.1 hC
  have hF := va_free hD hS hA isC hC
  refine va_callv (va_runV (As := As) (rest := rest) S (hM H.size) cw ⟨st_blind hEv, hrc hPc, st_pre hE hK hPc hDc⟩ rfl hn hsz hst (lv_room hW) hdg hc) hS (fun q _ h => hF q h) hF (fun u t H1 locs ht hvm hw hB hz1 hk1 hS => ?_)
  obtain ⟨hP, hD⟩ := st_behind hP hD isC isR perm hC hR hx.2.1 hx.2.2.2 hp hx.2.2.1 hF ht hB hk1
  exact kk H1 locs hP hD hS
theorem st_iV (S : CallFix p m c cc nL s args Ts own) (hM : stI l y wy rm D tysc E (Value.ref b :: As) wc w1 r) (cw : CallW R s args own C index y bytes maxL ret wy rm 0 0 n) (hEv : stEv E) (hE : ∀ U : State, s.WarmedH U.vm → E U) (hK : va_K D vwCl tysc s)
    (hP : va_P D vwCl ws H) (hD : va_D A ws) (hS : va_S A s.heap H locs) (hA : ∀ q, s.heap.size ≤ q → A q) (hrc : va_P D vwCl wc H → ∃ cellB : Cell, H[b]? = some cellB ∧ cellB.vm.isStatics = false ∧ s.vm.findClass C = some cellB.cls)
    (isC isR perm : List Nat) (hC : isC.map (fun i => ws[i]?) = wc.map some) (hR : isR.map (fun i => ws[i]?) = wr.map some) (hx : va_nd isC = true ∧ va_nd isR = true ∧ va_nd perm = true ∧ (∀ i ∈ isR, i ∉ isC)) (hp : perm.map (fun i => (wr ++ w1)[i]?) = wn.map some)
    (hst : st0 = As.reverse ++ .ref b :: rest) (hn : As.length = n) (hsz : ls.size = nL) (hW : (rest.map fun v => v.category).sum ≤ 8) (hdg : decode cc pc = .ok (.invokevirtual index, 3)) (hc : cells ≤ R.cells ∧ slots ≤ R.slots)
    (kk : ∀ (H1 : Heap) (locs1 : List Loc), va_P D vwCl wn H1 → va_D A wn → va_S A s.heap H1 locs1 → W p l e R s m args below meth c H1 locs1 cells slots Q (F0 m (pc + 3) ls (.int r :: rest))) : W p l e R s m args below meth c H locs cells slots Q (F0 m pc ls st0) := by
  have hPc : va_P D vwCl wc H := hP.sub isC (st_fm hC)
  have hDc : va_D A wc := hD.sub isC hx.1 hC
  have hF := va_free hD hS hA isC hC
  refine va_calli (va_runV (As := As) (rest := rest) S (hM H.size) cw ⟨st_blind hEv, hrc hPc, st_pre hE hK hPc hDc⟩ rfl hn hsz hst (lv_room hW) hdg hc) hS (fun q _ h => hF q h) hF (fun x u t H1 locs ht hvm hw hB hz1 hk1 hS => ?_)
  obtain ⟨hP, hD⟩ := st_behind hP hD isC isR perm hC hR hx.2.1 hx.2.2.2 hp hx.2.2.1 hF ht hB hk1
  have hw : x = r := hw
  subst hw
  exact kk H1 locs hP hD hS
theorem st_iS (S : CallFix p m c cc nL s args Ts own) (hM : stI l y wy rm D tysc E As wc w1 r) (cw : CallB R s args own index y bytes maxL ret wy rm 0 0 n ∧ (Cond.static y).before args s = true) (hEv : stEv E) (hE : ∀ U : State, s.WarmedH U.vm → E U) (hK : va_K D vwCl tysc s)
    (hP : va_P D vwCl ws H) (hD : va_D A ws) (hS : va_S A s.heap H locs) (hA : ∀ q, s.heap.size ≤ q → A q)
    (isC isR perm : List Nat) (hC : isC.map (fun i => ws[i]?) = wc.map some) (hR : isR.map (fun i => ws[i]?) = wr.map some) (hx : va_nd isC = true ∧ va_nd isR = true ∧ va_nd perm = true ∧ (∀ i ∈ isR, i ∉ isC)) (hp : perm.map (fun i => (wr ++ w1)[i]?) = wn.map some)
    (hst : st0 = As.reverse ++ rest) (hn : As.length = n) (hsz : ls.size = nL) (hW : (rest.map fun v => v.category).sum ≤ 8) (hdg : decode cc pc = .ok (.invokestatic index, 3)) (hc : cells ≤ R.cells ∧ slots ≤ R.slots)
    (kk : ∀ (H1 : Heap) (locs1 : List Loc), va_P D vwCl wn H1 → va_D A wn → va_S A s.heap H1 locs1 → W p l e R s m args below meth c H1 locs1 cells slots Q (F0 m (pc + 3) ls (.int r :: rest))) : W p l e R s m args below meth c H locs cells slots Q (F0 m pc ls st0) := by
  have hPc : va_P D vwCl wc H := hP.sub isC (st_fm hC)
  have hDc : va_D A wc := hD.sub isC hx.1 hC
  have hF := va_free hD hS hA isC hC
  refine va_calli (va_runS (As := As) (rest := rest) S (hM H.size) cw ⟨st_blind hEv, st_pre hE hK hPc hDc⟩ rfl hn hsz hst (lv_room hW) hdg hc) hS (fun q _ h => hF q h) hF (fun x u t H1 locs ht hvm hw hB hz1 hk1 hS => ?_)
  obtain ⟨hP, hD⟩ := st_behind hP hD isC isR perm hC hR hx.2.1 hx.2.2.2 hp hx.2.2.1 hF ht hB hk1
  have hw : x = r := hw
  subst hw
  exact kk H1 locs hP hD hS
theorem st_retv (hx : p.tables.exec = Jvm.exec) (hb : c.code = cc) (hr : meth.sig.returnType = none) (hlocks : meth.locks = false) (hP : va_P D vwCl wn H) (hD : va_D A wn) (hS : va_S A s.heap H locs) (hd : decode cc pc = .ok (.return_, 1)) :
    W p l e R s m args below meth c H locs cells slots (MQ below (va_Qv (fun _ : Unit => True) (stB D A wn) A) args s cells slots A) (F0 m pc ls []) :=
  W.vret hx hb hr (fun t ht _ => ⟨⟨(), rfl, trivial, by rw [ht]; exact hP, hD⟩, hS.F ht⟩) hS.2.2 hd hlocks
theorem st_reti {v : Int32} (hx : p.tables.exec = Jvm.exec) (hb : c.code = cc) (hr : meth.sig.returnType = some .int) (hlocks : meth.locks = false) (hv : v = r) (hP : va_P D vwCl wn H) (hD : va_D A wn) (hS : va_S A s.heap H locs) (hd : decode cc pc = .ok (.ireturn, 1)) :
    W p l e R s m args below meth c H locs cells slots (MQ below (va_Qi (fun (x : Int32) (_ : Unit) => x = r) (stB D A wn) A) args s cells slots A) (F0 m pc ls [.int v]) :=
  W.iret hx hb hr (fun t ht _ => ⟨⟨v, (), rfl, hv, by rw [ht]; exact hP, hD⟩, hS.F ht⟩) hS.2.2 hd hlocks
theorem st_retz {v : Int32} (hx : p.tables.exec = Jvm.exec) (hb : c.code = cc) (hr : meth.sig.returnType = some .boolean) (hlocks : meth.locks = false) (hz : v = 0 ∨ v = 1) (hv : v = r) (hP : va_P D vwCl wn H) (hD : va_D A wn) (hS : va_S A s.heap H locs) (hd : decode cc pc = .ok (.ireturn, 1)) :
    W p l e R s m args below meth c H locs cells slots (MQ below (va_Qi (fun (x : Int32) (_ : Unit) => x = r) (stB D A wn) A) args s cells slots A) (F0 m pc ls [.int v]) :=
  W.zret hx hb hr (by rcases hz with rfl | rfl <;> rfl) (fun t ht _ => ⟨⟨v, (), rfl, hv, by rw [ht]; exact hP, hD⟩, hS.F ht⟩) hS.2.2 hd hlocks
/-- a method's body, from its entry -/
theorem st_open {tyl : List (ClassId × FieldType)} {av : List Value} {sz : Nat} (hv : va_Pc av (stP D tyl E ws sz) args s) : args = av.toArray ∧ s.heap.size = sz ∧ va_P D vwCl ws s.heap ∧ va_K D vwCl tyl s ∧ va_D (va_A ws s.heap.size) ws ∧ E s := by
  obtain ⟨h0, h1, h2, h3, h4, h5⟩ := hv
  exact ⟨h0, h1, h2, h3, h4.self, h5⟩
end
theorem sw_ne {x : Int32} {k : Int} (hk : -2147483648 ≤ k ∧ k ≤ 2147483647) (h : ¬ x = Int32.ofInt k) : x.toInt ≠ k := fun e => h (Int32.toInt_inj.mp (by rw [e, Int32.toInt_ofInt_of_le (by omega) (by omega)]))
end STD
end
section
theorem nX0_clear_X0 : ∀ w ∈ wsX00, w ∈ wsX0_clear := fun w h => List.mem_cons_of_mem _ (List.mem_append_right _ h)
set_option maxHeartbeats 4000000 in
set_option maxRecDepth 100000 in
theorem k_X0_clear (l : Launch) (D : va_G) (qF : Nat) (fr fe : Int32) : stV l yX0_clear wsX0_clear ({ frames := 0, cells := 0, slots := 0, locals := 0 } : Room) D [] tE [.ref qF] [(qF, .inr (0, [.int fr, .int fe]))] [(qF, .inr (0, [.int 0, .int 0]))] := by
  intro sz
  refine Met.ofW (cc := cX0_clear) (maxL := 1) (ret := none) (by decide) rfl ?_
  intro p e s m args below meth c s₁ B hml hv
  obtain ⟨rfl, rfl, hP, hK, hD, hE⟩ := st_open hv
  have hx := B.exec
  have hb := B.bytes
  have hr := B.returns
  have hts := atoms_spec (ws := wsX0_clear) B.pre
  have hown : s.vm.findClass RX0 = some m.cls := findClass_of_methodNamed B.named
  have hlocks := B.notSynchronized
  generalize hAe : va_A [(qF, .inr (0, [.int fr, .int fe]))] s.heap.size = A at hD ⊢
  have hA : ∀ q : Nat, s.heap.size ≤ q → A q := fun q h => by rw [← hAe]; exact Or.inr h
  have hS : va_S A s.heap s.heap [] := va_S.rf
  have k9 := hts (.fieldLink RX0 9 "PortTimers$Flags" "raised" "I") (by decide +kernel)
  have k15 := hts (.fieldLink RX0 15 "PortTimers$Flags" "enabled" "I") (by decide +kernel)
  have hl := lv_entry ([.ref qF]) (n := 1) (Nat.le_of_ble_eq_true rfl)
  rw [lg_entry_eq]
  generalize (lg_sl ([.ref qF]) ++ List.replicate (1 - (lg_sl ([.ref qF])).length) Slot.unset).toArray = ls at hl ⊢
  have hl : lv_has ls 1 [(0, .ref qF)] := hl
  refine lv_aload_n hx hb dX0_clear_0 rfl (lv_at hl 0 rfl) ?_
  refine lv_iconst (v := 0) hx hb dX0_clear_1 (by decide) ?_
  refine va_put (D := D) (ci := 0) (v := .int 0) (ty := .int) (C := RX0) (T := TX0) (N := 2) hx hb hts nX0_clear_X0 tyX0 tyX0_ok nmX0 hown hK hP hD hS 0 rfl rfl 0 (by decide) k9 (fun _ h9 => h9) rfl (by decide +kernel) rfl rfl (Nat.le_of_ble_eq_true rfl) dX0_clear_2 (fun H locs hP hD hS => ?_)
  have hP : va_P D vwCl [(qF, .inr (0, [.int 0, .int fe]))] H := hP
  have hD : va_D A [(qF, .inr (0, [.int 0, .int fe]))] := hD
  refine lv_aload_n hx hb dX0_clear_5 rfl (lv_at hl 0 rfl) ?_
  refine lv_iconst (v := 0) hx hb dX0_clear_6 (by decide) ?_
  refine va_put (D := D) (ci := 0) (v := .int 0) (ty := .int) (C := RX0) (T := TX0) (N := 2) hx hb hts nX0_clear_X0 tyX0 tyX0_ok nmX0 hown hK hP hD hS 0 rfl rfl 1 (by decide) k15 (fun _ h9 => h9) rfl (by decide +kernel) rfl rfl (Nat.le_of_ble_eq_true rfl) dX0_clear_7 (fun H locs hP hD hS => ?_)
  have hP : va_P D vwCl [(qF, .inr (0, [.int 0, .int 0]))] H := hP
  have hD : va_D A [(qF, .inr (0, [.int 0, .int 0]))] := hD
  exact st_retv hx hb hr hlocks hP hD hS dX0_clear_10
theorem nX0_raise_X0 : ∀ w ∈ wsX00, w ∈ wsX0_raise := fun w h => List.mem_cons_of_mem _ (List.mem_append_right _ h)
set_option maxHeartbeats 4000000 in
set_option maxRecDepth 100000 in
theorem k_X0_raise (l : Launch) (D : va_G) (qF : Nat) (fr fe p0 : Int32) : stV l yX0_raise wsX0_raise ({ frames := 0, cells := 0, slots := 0, locals := 0 } : Room) D [] tE [.ref qF, .int p0] [(qF, .inr (0, [.int fr, .int fe]))] [(qF, .inr (0, [.int (fr ||| p0), .int fe]))] := by
  intro sz
  refine Met.ofW (cc := cX0_raise) (maxL := 2) (ret := none) (by decide) rfl ?_
  intro p e s m args below meth c s₁ B hml hv
  obtain ⟨rfl, rfl, hP, hK, hD, hE⟩ := st_open hv
  have hx := B.exec
  have hb := B.bytes
  have hr := B.returns
  have hts := atoms_spec (ws := wsX0_raise) B.pre
  have hown : s.vm.findClass RX0 = some m.cls := findClass_of_methodNamed B.named
  have hlocks := B.notSynchronized
  generalize hAe : va_A [(qF, .inr (0, [.int fr, .int fe]))] s.heap.size = A at hD ⊢
  have hA : ∀ q : Nat, s.heap.size ≤ q → A q := fun q h => by rw [← hAe]; exact Or.inr h
  have hS : va_S A s.heap s.heap [] := va_S.rf
  have k9 := hts (.fieldLink RX0 9 "PortTimers$Flags" "raised" "I") (by decide +kernel)
  have hl := lv_entry ([.ref qF, .int p0]) (n := 2) (Nat.le_of_ble_eq_true rfl)
  rw [lg_entry_eq]
  generalize (lg_sl ([.ref qF, .int p0]) ++ List.replicate (2 - (lg_sl ([.ref qF, .int p0])).length) Slot.unset).toArray = ls at hl ⊢
  have hl : lv_has ls 2 [(0, .ref qF), (1, .int p0)] := hl
  refine lv_aload_n hx hb dX0_raise_0 rfl (lv_at hl 0 rfl) ?_
  refine lv_dup hx hb dX0_raise_1 rfl ?_
  refine va_get (D := D) (ci := 0) (v := .int fr) (C := RX0) (T := TX0) (N := 2) hx hb hts nX0_raise_X0 hown hK hP 0 rfl rfl 0 (by decide) k9 (fun _ h9 => h9) rfl dX0_raise_2 ?_
  refine lv_iload_n hx hb dX0_raise_5 rfl (lv_at hl 1 rfl) ?_
  refine lv_ior hx hb dX0_raise_6 ?_
  refine va_put (D := D) (ci := 0) (v := .int (fr ||| p0)) (ty := .int) (C := RX0) (T := TX0) (N := 2) hx hb hts nX0_raise_X0 tyX0 tyX0_ok nmX0 hown hK hP hD hS 0 rfl rfl 0 (by decide) k9 (fun _ h9 => h9) rfl (by decide +kernel) rfl rfl (Nat.le_of_ble_eq_true rfl) dX0_raise_7 (fun H locs hP hD hS => ?_)
  have hP : va_P D vwCl [(qF, .inr (0, [.int (fr ||| p0), .int fe]))] H := hP
  have hD : va_D A [(qF, .inr (0, [.int (fr ||| p0), .int fe]))] := hD
  exact st_retv hx hb hr hlocks hP hD hS dX0_raise_10
theorem nX0_lower_X0 : ∀ w ∈ wsX00, w ∈ wsX0_lower := fun w h => List.mem_cons_of_mem _ (List.mem_append_right _ h)
set_option maxHeartbeats 4000000 in
set_option maxRecDepth 100000 in
theorem k_X0_lower (l : Launch) (D : va_G) (qF : Nat) (fr fe p0 : Int32) : stV l yX0_lower wsX0_lower ({ frames := 0, cells := 0, slots := 0, locals := 0 } : Room) D [] tE [.ref qF, .int p0] [(qF, .inr (0, [.int fr, .int fe]))] [(qF, .inr (0, [.int (fr &&& (p0 ^^^ (-1))), .int fe]))] := by
  intro sz
  refine Met.ofW (cc := cX0_lower) (maxL := 2) (ret := none) (by decide) rfl ?_
  intro p e s m args below meth c s₁ B hml hv
  obtain ⟨rfl, rfl, hP, hK, hD, hE⟩ := st_open hv
  have hx := B.exec
  have hb := B.bytes
  have hr := B.returns
  have hts := atoms_spec (ws := wsX0_lower) B.pre
  have hown : s.vm.findClass RX0 = some m.cls := findClass_of_methodNamed B.named
  have hlocks := B.notSynchronized
  generalize hAe : va_A [(qF, .inr (0, [.int fr, .int fe]))] s.heap.size = A at hD ⊢
  have hA : ∀ q : Nat, s.heap.size ≤ q → A q := fun q h => by rw [← hAe]; exact Or.inr h
  have hS : va_S A s.heap s.heap [] := va_S.rf
  have k9 := hts (.fieldLink RX0 9 "PortTimers$Flags" "raised" "I") (by decide +kernel)
  have hl := lv_entry ([.ref qF, .int p0]) (n := 2) (Nat.le_of_ble_eq_true rfl)
  rw [lg_entry_eq]
  generalize (lg_sl ([.ref qF, .int p0]) ++ List.replicate (2 - (lg_sl ([.ref qF, .int p0])).length) Slot.unset).toArray = ls at hl ⊢
  have hl : lv_has ls 2 [(0, .ref qF), (1, .int p0)] := hl
  refine lv_aload_n hx hb dX0_lower_0 rfl (lv_at hl 0 rfl) ?_
  refine lv_dup hx hb dX0_lower_1 rfl ?_
  refine va_get (D := D) (ci := 0) (v := .int fr) (C := RX0) (T := TX0) (N := 2) hx hb hts nX0_lower_X0 hown hK hP 0 rfl rfl 0 (by decide) k9 (fun _ h9 => h9) rfl dX0_lower_2 ?_
  refine lv_iload_n hx hb dX0_lower_5 rfl (lv_at hl 1 rfl) ?_
  refine lv_iconst (v := (-1)) hx hb dX0_lower_6 (by decide) ?_
  refine lv_ixor hx hb dX0_lower_7 ?_
  refine lv_iand hx hb dX0_lower_8 ?_
  refine va_put (D := D) (ci := 0) (v := .int (fr &&& (p0 ^^^ (-1)))) (ty := .int) (C := RX0) (T := TX0) (N := 2) hx hb hts nX0_lower_X0 tyX0 tyX0_ok nmX0 hown hK hP hD hS 0 rfl rfl 0 (by decide) k9 (fun _ h9 => h9) rfl (by decide +kernel) rfl rfl (Nat.le_of_ble_eq_true rfl) dX0_lower_9 (fun H locs hP hD hS => ?_)
  have hP : va_P D vwCl [(qF, .inr (0, [.int (fr &&& (p0 ^^^ (-1))), .int fe]))] H := hP
  have hD : va_D A [(qF, .inr (0, [.int (fr &&& (p0 ^^^ (-1))), .int fe]))] := hD
  exact st_retv hx hb hr hlocks hP hD hS dX0_lower_12
def f_X0_has_ret (fr p0 : Int32) : Int32 := if (fr &&& p0) = 0 then 0 else 1
theorem z_X0_has (fr p0 : Int32) : f_X0_has_ret fr p0 = 0 ∨ f_X0_has_ret fr p0 = 1 := by
  unfold f_X0_has_ret
  (repeat' split) <;> decide
theorem nX0_has_X0 : ∀ w ∈ wsX00, w ∈ wsX0_has := fun w h => List.mem_cons_of_mem _ (List.mem_append_right _ h)
set_option maxHeartbeats 4000000 in
set_option maxRecDepth 100000 in
theorem k_X0_has (l : Launch) (D : va_G) (qF : Nat) (fr fe p0 : Int32) : stI l yX0_has wsX0_has ({ frames := 0, cells := 0, slots := 0, locals := 0 } : Room) D [] tE [.ref qF, .int p0] [(qF, .inr (0, [.int fr, .int fe]))] [(qF, .inr (0, [.int fr, .int fe]))] (f_X0_has_ret fr p0) := by
  intro sz
  refine Met.ofW (cc := cX0_has) (maxL := 2) (ret := (some .boolean)) (by decide) rfl ?_
  intro p e s m args below meth c s₁ B hml hv
  obtain ⟨rfl, rfl, hP, hK, hD, hE⟩ := st_open hv
  have hx := B.exec
  have hb := B.bytes
  have hr := B.returns
  have hts := atoms_spec (ws := wsX0_has) B.pre
  have hown : s.vm.findClass RX0 = some m.cls := findClass_of_methodNamed B.named
  have hlocks := B.notSynchronized
  generalize hAe : va_A [(qF, .inr (0, [.int fr, .int fe]))] s.heap.size = A at hD ⊢
  have hA : ∀ q : Nat, s.heap.size ≤ q → A q := fun q h => by rw [← hAe]; exact Or.inr h
  have hS : va_S A s.heap s.heap [] := va_S.rf
  have k9 := hts (.fieldLink RX0 9 "PortTimers$Flags" "raised" "I") (by decide +kernel)
  have hl := lv_entry ([.ref qF, .int p0]) (n := 2) (Nat.le_of_ble_eq_true rfl)
  rw [lg_entry_eq]
  generalize (lg_sl ([.ref qF, .int p0]) ++ List.replicate (2 - (lg_sl ([.ref qF, .int p0])).length) Slot.unset).toArray = ls at hl ⊢
  have hl : lv_has ls 2 [(0, .ref qF), (1, .int p0)] := hl
  refine lv_aload_n hx hb dX0_has_0 rfl (lv_at hl 0 rfl) ?_
  refine va_get (D := D) (ci := 0) (v := .int fr) (C := RX0) (T := TX0) (N := 2) hx hb hts nX0_has_X0 hown hK hP 0 rfl rfl 0 (by decide) k9 (fun _ h9 => h9) rfl dX0_has_1 ?_
  refine lv_iload_n hx hb dX0_has_4 rfl (lv_at hl 1 rfl) ?_
  refine lv_iand hx hb dX0_has_5 ?_
  refine lv_if_eq (tgt := 13) hx hb dX0_has_6 (by decide) (fun c_1 => ?_) (fun c_1 => ?_)
  · refine lv_iconst (v := 0) hx hb dX0_has_13 (by decide) ?_
    exact st_retz hx hb hr hlocks (by decide) (by simp only [f_X0_has_ret, if_pos c_1]) hP hD hS dX0_has_14
  · refine lv_iconst (v := 1) hx hb dX0_has_9 (by decide) ?_
    refine lv_goto (tgt := 14) hx hb dX0_has_10 (by decide) ?_
    exact st_retz hx hb hr hlocks (by decide) (by simp only [f_X0_has_ret, if_neg c_1]) hP hD hS dX0_has_14
def f_X0_enable_fe (fe p0 : Int32) : Int32 := if (p0 &&& 128) = 0 then (fe &&& (p0 ^^^ (-1))) else (fe ||| (p0 &&& 127))
theorem nX0_enable_X0 : ∀ w ∈ wsX00, w ∈ wsX0_enable := fun w h => List.mem_cons_of_mem _ (List.mem_append_right _ h)
set_option maxHeartbeats 4000000 in
set_option maxRecDepth 100000 in
theorem k_X0_enable (l : Launch) (D : va_G) (qF : Nat) (fr fe p0 : Int32) : stV l yX0_enable wsX0_enable ({ frames := 0, cells := 0, slots := 0, locals := 0 } : Room) D [] tE [.ref qF, .int p0] [(qF, .inr (0, [.int fr, .int fe]))] [(qF, .inr (0, [.int fr, .int (f_X0_enable_fe fe p0)]))] := by
  intro sz
  refine Met.ofW (cc := cX0_enable) (maxL := 2) (ret := none) (by decide) rfl ?_
  intro p e s m args below meth c s₁ B hml hv
  obtain ⟨rfl, rfl, hP, hK, hD, hE⟩ := st_open hv
  have hx := B.exec
  have hb := B.bytes
  have hr := B.returns
  have hts := atoms_spec (ws := wsX0_enable) B.pre
  have hown : s.vm.findClass RX0 = some m.cls := findClass_of_methodNamed B.named
  have hlocks := B.notSynchronized
  generalize hAe : va_A [(qF, .inr (0, [.int fr, .int fe]))] s.heap.size = A at hD ⊢
  have hA : ∀ q : Nat, s.heap.size ≤ q → A q := fun q h => by rw [← hAe]; exact Or.inr h
  have hS : va_S A s.heap s.heap [] := va_S.rf
  have k15 := hts (.fieldLink RX0 15 "PortTimers$Flags" "enabled" "I") (by decide +kernel)
  have hl := lv_entry ([.ref qF, .int p0]) (n := 2) (Nat.le_of_ble_eq_true rfl)
  rw [lg_entry_eq]
  generalize (lg_sl ([.ref qF, .int p0]) ++ List.replicate (2 - (lg_sl ([.ref qF, .int p0])).length) Slot.unset).toArray = ls at hl ⊢
  have hl : lv_has ls 2 [(0, .ref qF), (1, .int p0)] := hl
  refine lv_iload_n hx hb dX0_enable_0 rfl (lv_at hl 1 rfl) ?_
  refine lv_sipush (v := 128) hx hb dX0_enable_1 (by decide) ?_
  refine lv_iand hx hb dX0_enable_4 ?_
  refine lv_if_eq (tgt := 24) hx hb dX0_enable_5 (by decide) (fun c_1 => ?_) (fun c_1 => ?_)
  · refine lv_aload_n hx hb dX0_enable_24 rfl (lv_at hl 0 rfl) ?_
    refine lv_dup hx hb dX0_enable_25 rfl ?_
    refine va_get (D := D) (ci := 0) (v := .int fe) (C := RX0) (T := TX0) (N := 2) hx hb hts nX0_enable_X0 hown hK hP 0 rfl rfl 1 (by decide) k15 (fun _ h9 => h9) rfl dX0_enable_26 ?_
    refine lv_iload_n hx hb dX0_enable_29 rfl (lv_at hl 1 rfl) ?_
    refine lv_iconst (v := (-1)) hx hb dX0_enable_30 (by decide) ?_
    refine lv_ixor hx hb dX0_enable_31 ?_
    refine lv_iand hx hb dX0_enable_32 ?_
    refine va_put (D := D) (ci := 0) (v := .int (fe &&& (p0 ^^^ (-1)))) (ty := .int) (C := RX0) (T := TX0) (N := 2) hx hb hts nX0_enable_X0 tyX0 tyX0_ok nmX0 hown hK hP hD hS 0 rfl rfl 1 (by decide) k15 (fun _ h9 => h9) rfl (by decide +kernel) rfl rfl (Nat.le_of_ble_eq_true rfl) dX0_enable_33 (fun H locs hP hD hS => ?_)
    have hP : va_P D vwCl [(qF, .inr (0, [.int fr, .int (fe &&& (p0 ^^^ (-1)))]))] H := hP
    have hD : va_D A [(qF, .inr (0, [.int fr, .int (fe &&& (p0 ^^^ (-1)))]))] := hD
    have hw : ([(qF, .inr (0, [.int fr, .int (f_X0_enable_fe fe p0)]))] : va_W) = [(qF, .inr (0, [.int fr, .int (fe &&& (p0 ^^^ (-1)))]))] := by simp only [f_X0_enable_fe, if_pos c_1]
    exact st_retv hx hb hr hlocks (by rw [hw]; exact hP) (by rw [hw]; exact hD) hS dX0_enable_36
  · refine lv_aload_n hx hb dX0_enable_8 rfl (lv_at hl 0 rfl) ?_
    refine lv_dup hx hb dX0_enable_9 rfl ?_
    refine va_get (D := D) (ci := 0) (v := .int fe) (C := RX0) (T := TX0) (N := 2) hx hb hts nX0_enable_X0 hown hK hP 0 rfl rfl 1 (by decide) k15 (fun _ h9 => h9) rfl dX0_enable_10 ?_
    refine lv_iload_n hx hb dX0_enable_13 rfl (lv_at hl 1 rfl) ?_
    refine lv_bipush (v := 127) hx hb dX0_enable_14 (by decide) ?_
    refine lv_iand hx hb dX0_enable_16 ?_
    refine lv_ior hx hb dX0_enable_17 ?_
    refine va_put (D := D) (ci := 0) (v := .int (fe ||| (p0 &&& 127))) (ty := .int) (C := RX0) (T := TX0) (N := 2) hx hb hts nX0_enable_X0 tyX0 tyX0_ok nmX0 hown hK hP hD hS 0 rfl rfl 1 (by decide) k15 (fun _ h9 => h9) rfl (by decide +kernel) rfl rfl (Nat.le_of_ble_eq_true rfl) dX0_enable_18 (fun H locs hP hD hS => ?_)
    have hP : va_P D vwCl [(qF, .inr (0, [.int fr, .int (fe ||| (p0 &&& 127))]))] H := hP
    have hD : va_D A [(qF, .inr (0, [.int fr, .int (fe ||| (p0 &&& 127))]))] := hD
    refine lv_goto (tgt := 36) hx hb dX0_enable_21 (by decide) ?_
    have hw : ([(qF, .inr (0, [.int fr, .int (f_X0_enable_fe fe p0)]))] : va_W) = [(qF, .inr (0, [.int fr, .int (fe ||| (p0 &&& 127))]))] := by simp only [f_X0_enable_fe, if_neg c_1]
    exact st_retv hx hb hr hlocks (by rw [hw]; exact hP) (by rw [hw]; exact hD) hS dX0_enable_36
def f_X0_call_ret (fr fe : Int32) : Int32 := if (fr &&& fe) = 0 then 0 else 1
theorem z_X0_call (fr fe : Int32) : f_X0_call_ret fr fe = 0 ∨ f_X0_call_ret fr fe = 1 := by
  unfold f_X0_call_ret
  (repeat' split) <;> decide
theorem nX0_call_X0 : ∀ w ∈ wsX00, w ∈ wsX0_call := fun w h => List.mem_cons_of_mem _ (List.mem_append_right _ h)
set_option maxHeartbeats 4000000 in
set_option maxRecDepth 100000 in
theorem k_X0_call (l : Launch) (D : va_G) (qF : Nat) (fr fe : Int32) : stI l yX0_call wsX0_call ({ frames := 0, cells := 0, slots := 0, locals := 0 } : Room) D [] tE [.ref qF] [(qF, .inr (0, [.int fr, .int fe]))] [(qF, .inr (0, [.int fr, .int fe]))] (f_X0_call_ret fr fe) := by
  intro sz
  refine Met.ofW (cc := cX0_call) (maxL := 1) (ret := (some .boolean)) (by decide) rfl ?_
  intro p e s m args below meth c s₁ B hml hv
  obtain ⟨rfl, rfl, hP, hK, hD, hE⟩ := st_open hv
  have hx := B.exec
  have hb := B.bytes
  have hr := B.returns
  have hts := atoms_spec (ws := wsX0_call) B.pre
  have hown : s.vm.findClass RX0 = some m.cls := findClass_of_methodNamed B.named
  have hlocks := B.notSynchronized
  generalize hAe : va_A [(qF, .inr (0, [.int fr, .int fe]))] s.heap.size = A at hD ⊢
  have hA : ∀ q : Nat, s.heap.size ≤ q → A q := fun q h => by rw [← hAe]; exact Or.inr h
  have hS : va_S A s.heap s.heap [] := va_S.rf
  have k9 := hts (.fieldLink RX0 9 "PortTimers$Flags" "raised" "I") (by decide +kernel)
  have k15 := hts (.fieldLink RX0 15 "PortTimers$Flags" "enabled" "I") (by decide +kernel)
  have hl := lv_entry ([.ref qF]) (n := 1) (Nat.le_of_ble_eq_true rfl)
  rw [lg_entry_eq]
  generalize (lg_sl ([.ref qF]) ++ List.replicate (1 - (lg_sl ([.ref qF])).length) Slot.unset).toArray = ls at hl ⊢
  have hl : lv_has ls 1 [(0, .ref qF)] := hl
  refine lv_aload_n hx hb dX0_call_0 rfl (lv_at hl 0 rfl) ?_
  refine va_get (D := D) (ci := 0) (v := .int fr) (C := RX0) (T := TX0) (N := 2) hx hb hts nX0_call_X0 hown hK hP 0 rfl rfl 0 (by decide) k9 (fun _ h9 => h9) rfl dX0_call_1 ?_
  refine lv_aload_n hx hb dX0_call_4 rfl (lv_at hl 0 rfl) ?_
  refine va_get (D := D) (ci := 0) (v := .int fe) (C := RX0) (T := TX0) (N := 2) hx hb hts nX0_call_X0 hown hK hP 0 rfl rfl 1 (by decide) k15 (fun _ h9 => h9) rfl dX0_call_5 ?_
  refine lv_iand hx hb dX0_call_8 ?_
  refine lv_if_eq (tgt := 16) hx hb dX0_call_9 (by decide) (fun c_1 => ?_) (fun c_1 => ?_)
  · refine lv_iconst (v := 0) hx hb dX0_call_16 (by decide) ?_
    exact st_retz hx hb hr hlocks (by decide) (by simp only [f_X0_call_ret, if_pos c_1]) hP hD hS dX0_call_17
  · refine lv_iconst (v := 1) hx hb dX0_call_12 (by decide) ?_
    refine lv_goto (tgt := 17) hx hb dX0_call_13 (by decide) ?_
    exact st_retz hx hb hr hlocks (by decide) (by simp only [f_X0_call_ret, if_neg c_1]) hP hD hS dX0_call_17
def f_X0_withCall_ret (fr fe : Int32) : Int32 := if (f_X0_call_ret fr fe) = 0 then fr else (fr ||| 128)
theorem nX0_withCall_X0 : ∀ w ∈ wsX00, w ∈ wsX0_withCall := fun w h => List.mem_cons_of_mem _ (List.mem_append_right _ h)
set_option maxHeartbeats 4000000 in
set_option maxRecDepth 100000 in
theorem k_X0_withCall (l : Launch) (D : va_G) (qF : Nat) (fr fe : Int32) : stI l yX0_withCall wsX0_withCall ({ frames := 1, cells := 0, slots := 0, locals := 20 } : Room) D [] tE [.ref qF] [(qF, .inr (0, [.int fr, .int fe]))] [(qF, .inr (0, [.int fr, .int fe]))] (f_X0_withCall_ret fr fe) := by
  intro sz
  refine Met.ofW (cc := cX0_withCall) (maxL := 1) (ret := (some .int)) (by decide) rfl ?_
  intro p e s m args below meth c s₁ B hml hv
  obtain ⟨rfl, rfl, hP, hK, hD, hE⟩ := st_open hv
  have hx := B.exec
  have hb := B.bytes
  have hr := B.returns
  have hts := atoms_spec (ws := wsX0_withCall) B.pre
  have hown : s.vm.findClass RX0 = some m.cls := findClass_of_methodNamed B.named
  have hlocks := B.notSynchronized
  generalize hAe : va_A [(qF, .inr (0, [.int fr, .int fe]))] s.heap.size = A at hD ⊢
  have hA : ∀ q : Nat, s.heap.size ≤ q → A q := fun q h => by rw [← hAe]; exact Or.inr h
  have hS : va_S A s.heap s.heap [] := va_S.rf
  have k9 := hts (.fieldLink RX0 9 "PortTimers$Flags" "raised" "I") (by decide +kernel)
  have hl := lv_entry ([.ref qF]) (n := 1) (Nat.le_of_ble_eq_true rfl)
  rw [lg_entry_eq]
  generalize (lg_sl ([.ref qF]) ++ List.replicate (1 - (lg_sl ([.ref qF])).length) Slot.unset).toArray = ls at hl ⊢
  have hl : lv_has ls 1 [(0, .ref qF)] := hl
  refine lv_aload_n hx hb dX0_withCall_0 rfl (lv_at hl 0 rfl) ?_
  refine st_iV (As := []) (rest := []) (wc := [(qF, .inr (0, [.int fr, .int fe]))]) (wr := []) (w1 := [(qF, .inr (0, [.int fr, .int fe]))]) (wn := [(qF, .inr (0, [.int fr, .int fe]))]) (r := f_X0_call_ret fr fe) ⟨hx, hb, hml, hown, hts⟩ (k_X0_call l D qF fr fe) (cwV 0 hts gX0_withCall_X0_call rfl rfl rfl (by decide +kernel) ⟨Nat.le_of_ble_eq_true rfl, Nat.le_of_ble_eq_true rfl⟩) tE_v (fun _ _ => trivial) hK hP hD hS hA (fun hPc => va_recv hK hPc (ci := 0) (q0 := 0) rfl rfl) [0] [] [0] rfl rfl (by decide) rfl rfl rfl hl.1 (Nat.le_of_ble_eq_true rfl) dX0_withCall_1 ⟨Nat.zero_le _, Nat.zero_le _⟩ (fun H locs hP hD hS => ?_)
  refine lv_if_eq (tgt := 18) hx hb dX0_withCall_4 (by decide) (fun c_1 => ?_) (fun c_1 => ?_)
  · refine lv_aload_n hx hb dX0_withCall_18 rfl (lv_at hl 0 rfl) ?_
    refine va_get (D := D) (ci := 0) (v := .int fr) (C := RX0) (T := TX0) (N := 2) hx hb hts nX0_withCall_X0 hown hK hP 0 rfl rfl 0 (by decide) k9 (fun _ h9 => h9) rfl dX0_withCall_19 ?_
    exact st_reti hx hb hr hlocks (by simp only [f_X0_withCall_ret, if_pos c_1]) hP hD hS dX0_withCall_22
  · refine lv_aload_n hx hb dX0_withCall_7 rfl (lv_at hl 0 rfl) ?_
    refine va_get (D := D) (ci := 0) (v := .int fr) (C := RX0) (T := TX0) (N := 2) hx hb hts nX0_withCall_X0 hown hK hP 0 rfl rfl 0 (by decide) k9 (fun _ h9 => h9) rfl dX0_withCall_8 ?_
    refine lv_sipush (v := 128) hx hb dX0_withCall_11 (by decide) ?_
    refine lv_ior hx hb dX0_withCall_14 ?_
    refine lv_goto (tgt := 22) hx hb dX0_withCall_15 (by decide) ?_
    exact st_reti hx hb hr hlocks (by simp only [f_X0_withCall_ret, if_neg c_1]) hP hD hS dX0_withCall_22
end
section
theorem nX2_clear_X2 : ∀ w ∈ wsX20, w ∈ wsX2_clear := fun w h => List.mem_cons_of_mem _ (List.mem_append_right _ h)
set_option maxHeartbeats 4000000 in
set_option maxRecDepth 100000 in
theorem k_X2_clear (l : Launch) (D : va_G) (qS qF : Nat) (f1 f2 pn l1 l2 ot dr wy hp ue uc : Int32) : stV l yX2_clear wsX2_clear ({ frames := 0, cells := 0, slots := 0, locals := 0 } : Room) D [] tE [.ref qS] [(qS, .inr (2, [.ref qF, .int f1, .int f2, .int pn, .int l1, .int l2, .int ot, .int dr, .int wy, .int hp, .int ue, .int uc]))] [(qS, .inr (2, [.ref qF, .int f1, .int f2, .int pn, .int l1, .int l2, .int 0, .int 0, .int 0, .int 0, .int 0, .int 0]))] := by
  intro sz
  refine Met.ofW (cc := cX2_clear) (maxL := 1) (ret := none) (by decide) rfl ?_
  intro p e s m args below meth c s₁ B hml hv
  obtain ⟨rfl, rfl, hP, hK, hD, hE⟩ := st_open hv
  have hx := B.exec
  have hb := B.bytes
  have hr := B.returns
  have hts := atoms_spec (ws := wsX2_clear) B.pre
  have hown : s.vm.findClass RX2 = some m.cls := findClass_of_methodNamed B.named
  have hlocks := B.notSynchronized
  generalize hAe : va_A [(qS, .inr (2, [.ref qF, .int f1, .int f2, .int pn, .int l1, .int l2, .int ot, .int dr, .int wy, .int hp, .int ue, .int uc]))] s.heap.size = A at hD ⊢
  have hA : ∀ q : Nat, s.heap.size ≤ q → A q := fun q h => by rw [← hAe]; exact Or.inr h
  have hS : va_S A s.heap s.heap [] := va_S.rf
  have k22 := hts (.fieldLink RX2 22 "PortTimers$Side" "out" "I") (by decide +kernel)
  have k25 := hts (.fieldLink RX2 25 "PortTimers$Side" "directions" "I") (by decide +kernel)
  have k28 := hts (.fieldLink RX2 28 "PortTimers$Side" "ways" "I") (by decide +kernel)
  have k31 := hts (.fieldLink RX2 31 "PortTimers$Side" "heldPins" "I") (by decide +kernel)
  have k34 := hts (.fieldLink RX2 34 "PortTimers$Side" "lowUntilEdge" "Z") (by decide +kernel)
  have k38 := hts (.fieldLink RX2 38 "PortTimers$Side" "lowUntilCycle" "Z") (by decide +kernel)
  have hl := lv_entry ([.ref qS]) (n := 1) (Nat.le_of_ble_eq_true rfl)
  rw [lg_entry_eq]
  generalize (lg_sl ([.ref qS]) ++ List.replicate (1 - (lg_sl ([.ref qS])).length) Slot.unset).toArray = ls at hl ⊢
  have hl : lv_has ls 1 [(0, .ref qS)] := hl
  refine lv_aload_n hx hb dX2_clear_0 rfl (lv_at hl 0 rfl) ?_
  refine lv_iconst (v := 0) hx hb dX2_clear_1 (by decide) ?_
  refine va_put (D := D) (ci := 2) (v := .int 0) (ty := .int) (C := RX2) (T := TX2) (N := 12) hx hb hts nX2_clear_X2 tyX2 tyX2_ok nmX2 hown hK hP hD hS 0 rfl rfl 6 (by decide) k22 (fun _ h9 => h9) rfl (by decide +kernel) rfl rfl (Nat.le_of_ble_eq_true rfl) dX2_clear_2 (fun H locs hP hD hS => ?_)
  have hP : va_P D vwCl [(qS, .inr (2, [.ref qF, .int f1, .int f2, .int pn, .int l1, .int l2, .int 0, .int dr, .int wy, .int hp, .int ue, .int uc]))] H := hP
  have hD : va_D A [(qS, .inr (2, [.ref qF, .int f1, .int f2, .int pn, .int l1, .int l2, .int 0, .int dr, .int wy, .int hp, .int ue, .int uc]))] := hD
  refine lv_aload_n hx hb dX2_clear_5 rfl (lv_at hl 0 rfl) ?_
  refine lv_iconst (v := 0) hx hb dX2_clear_6 (by decide) ?_
  refine va_put (D := D) (ci := 2) (v := .int 0) (ty := .int) (C := RX2) (T := TX2) (N := 12) hx hb hts nX2_clear_X2 tyX2 tyX2_ok nmX2 hown hK hP hD hS 0 rfl rfl 7 (by decide) k25 (fun _ h9 => h9) rfl (by decide +kernel) rfl rfl (Nat.le_of_ble_eq_true rfl) dX2_clear_7 (fun H locs hP hD hS => ?_)
  have hP : va_P D vwCl [(qS, .inr (2, [.ref qF, .int f1, .int f2, .int pn, .int l1, .int l2, .int 0, .int 0, .int wy, .int hp, .int ue, .int uc]))] H := hP
  have hD : va_D A [(qS, .inr (2, [.ref qF, .int f1, .int f2, .int pn, .int l1, .int l2, .int 0, .int 0, .int wy, .int hp, .int ue, .int uc]))] := hD
  refine lv_aload_n hx hb dX2_clear_10 rfl (lv_at hl 0 rfl) ?_
  refine lv_iconst (v := 0) hx hb dX2_clear_11 (by decide) ?_
  refine va_put (D := D) (ci := 2) (v := .int 0) (ty := .int) (C := RX2) (T := TX2) (N := 12) hx hb hts nX2_clear_X2 tyX2 tyX2_ok nmX2 hown hK hP hD hS 0 rfl rfl 8 (by decide) k28 (fun _ h9 => h9) rfl (by decide +kernel) rfl rfl (Nat.le_of_ble_eq_true rfl) dX2_clear_12 (fun H locs hP hD hS => ?_)
  have hP : va_P D vwCl [(qS, .inr (2, [.ref qF, .int f1, .int f2, .int pn, .int l1, .int l2, .int 0, .int 0, .int 0, .int hp, .int ue, .int uc]))] H := hP
  have hD : va_D A [(qS, .inr (2, [.ref qF, .int f1, .int f2, .int pn, .int l1, .int l2, .int 0, .int 0, .int 0, .int hp, .int ue, .int uc]))] := hD
  refine lv_aload_n hx hb dX2_clear_15 rfl (lv_at hl 0 rfl) ?_
  refine lv_iconst (v := 0) hx hb dX2_clear_16 (by decide) ?_
  refine va_put (D := D) (ci := 2) (v := .int 0) (ty := .int) (C := RX2) (T := TX2) (N := 12) hx hb hts nX2_clear_X2 tyX2 tyX2_ok nmX2 hown hK hP hD hS 0 rfl rfl 9 (by decide) k31 (fun _ h9 => h9) rfl (by decide +kernel) rfl rfl (Nat.le_of_ble_eq_true rfl) dX2_clear_17 (fun H locs hP hD hS => ?_)
  have hP : va_P D vwCl [(qS, .inr (2, [.ref qF, .int f1, .int f2, .int pn, .int l1, .int l2, .int 0, .int 0, .int 0, .int 0, .int ue, .int uc]))] H := hP
  have hD : va_D A [(qS, .inr (2, [.ref qF, .int f1, .int f2, .int pn, .int l1, .int l2, .int 0, .int 0, .int 0, .int 0, .int ue, .int uc]))] := hD
  refine lv_aload_n hx hb dX2_clear_20 rfl (lv_at hl 0 rfl) ?_
  refine lv_iconst (v := 0) hx hb dX2_clear_21 (by decide) ?_
  refine va_put (D := D) (ci := 2) (v := .int 0) (ty := .boolean) (C := RX2) (T := TX2) (N := 12) hx hb hts nX2_clear_X2 tyX2 tyX2_ok nmX2 hown hK hP hD hS 0 rfl rfl 10 (by decide) k34 (fun _ h9 => h9) rfl (by decide +kernel) rfl rfl (Nat.le_of_ble_eq_true rfl) dX2_clear_22 (fun H locs hP hD hS => ?_)
  have hP : va_P D vwCl [(qS, .inr (2, [.ref qF, .int f1, .int f2, .int pn, .int l1, .int l2, .int 0, .int 0, .int 0, .int 0, .int 0, .int uc]))] H := hP
  have hD : va_D A [(qS, .inr (2, [.ref qF, .int f1, .int f2, .int pn, .int l1, .int l2, .int 0, .int 0, .int 0, .int 0, .int 0, .int uc]))] := hD
  refine lv_aload_n hx hb dX2_clear_25 rfl (lv_at hl 0 rfl) ?_
  refine lv_iconst (v := 0) hx hb dX2_clear_26 (by decide) ?_
  refine va_put (D := D) (ci := 2) (v := .int 0) (ty := .boolean) (C := RX2) (T := TX2) (N := 12) hx hb hts nX2_clear_X2 tyX2 tyX2_ok nmX2 hown hK hP hD hS 0 rfl rfl 11 (by decide) k38 (fun _ h9 => h9) rfl (by decide +kernel) rfl rfl (Nat.le_of_ble_eq_true rfl) dX2_clear_27 (fun H locs hP hD hS => ?_)
  have hP : va_P D vwCl [(qS, .inr (2, [.ref qF, .int f1, .int f2, .int pn, .int l1, .int l2, .int 0, .int 0, .int 0, .int 0, .int 0, .int 0]))] H := hP
  have hD : va_D A [(qS, .inr (2, [.ref qF, .int f1, .int f2, .int pn, .int l1, .int l2, .int 0, .int 0, .int 0, .int 0, .int 0, .int 0]))] := hD
  exact st_retv hx hb hr hlocks hP hD hS dX2_clear_30
theorem nX2_wayOfLine2_X2 : ∀ w ∈ wsX20, w ∈ wsX2_wayOfLine2 := fun w h => List.mem_cons_of_mem _ (List.mem_append_right _ h)
set_option maxHeartbeats 4000000 in
set_option maxRecDepth 100000 in
theorem k_X2_wayOfLine2 (l : Launch) (D : va_G) (qS qF : Nat) (f1 f2 pn l1 l2 ot dr wy hp ue uc : Int32) : stI l yX2_wayOfLine2 wsX2_wayOfLine2 ({ frames := 0, cells := 0, slots := 0, locals := 0 } : Room) D [] tE [.ref qS] [(qS, .inr (2, [.ref qF, .int f1, .int f2, .int pn, .int l1, .int l2, .int ot, .int dr, .int wy, .int hp, .int ue, .int uc]))] [(qS, .inr (2, [.ref qF, .int f1, .int f2, .int pn, .int l1, .int l2, .int ot, .int dr, .int wy, .int hp, .int ue, .int uc]))] (wy >>> (1 &&& 31)) := by
  intro sz
  refine Met.ofW (cc := cX2_wayOfLine2) (maxL := 1) (ret := (some .int)) (by decide) rfl ?_
  intro p e s m args below meth c s₁ B hml hv
  obtain ⟨rfl, rfl, hP, hK, hD, hE⟩ := st_open hv
  have hx := B.exec
  have hb := B.bytes
  have hr := B.returns
  have hts := atoms_spec (ws := wsX2_wayOfLine2) B.pre
  have hown : s.vm.findClass RX2 = some m.cls := findClass_of_methodNamed B.named
  have hlocks := B.notSynchronized
  generalize hAe : va_A [(qS, .inr (2, [.ref qF, .int f1, .int f2, .int pn, .int l1, .int l2, .int ot, .int dr, .int wy, .int hp, .int ue, .int uc]))] s.heap.size = A at hD ⊢
  have hA : ∀ q : Nat, s.heap.size ≤ q → A q := fun q h => by rw [← hAe]; exact Or.inr h
  have hS : va_S A s.heap s.heap [] := va_S.rf
  have k28 := hts (.fieldLink RX2 28 "PortTimers$Side" "ways" "I") (by decide +kernel)
  have hl := lv_entry ([.ref qS]) (n := 1) (Nat.le_of_ble_eq_true rfl)
  rw [lg_entry_eq]
  generalize (lg_sl ([.ref qS]) ++ List.replicate (1 - (lg_sl ([.ref qS])).length) Slot.unset).toArray = ls at hl ⊢
  have hl : lv_has ls 1 [(0, .ref qS)] := hl
  refine lv_aload_n hx hb dX2_wayOfLine2_0 rfl (lv_at hl 0 rfl) ?_
  refine va_get (D := D) (ci := 2) (v := .int wy) (C := RX2) (T := TX2) (N := 12) hx hb hts nX2_wayOfLine2_X2 hown hK hP 0 rfl rfl 8 (by decide) k28 (fun _ h9 => h9) rfl dX2_wayOfLine2_1 ?_
  refine lv_iconst (v := 1) hx hb dX2_wayOfLine2_4 (by decide) ?_
  refine lv_ishr hx hb dX2_wayOfLine2_5 ?_
  exact st_reti hx hb hr hlocks rfl hP hD hS dX2_wayOfLine2_6
def f_X2_port_ret (f1 pn ot dr hp fr p0 : Int32) : Int32 := if p0 = 0 then ((ot &&& dr) ||| (pn &&& (dr ^^^ (-1)))) else (if (f_X0_has_ret fr f1) = 0 then ((ot &&& dr) ||| (pn &&& (dr ^^^ (-1)))) else ((ot &&& dr) ||| (hp &&& (dr ^^^ (-1)))))
theorem nX2_port_X2 : ∀ w ∈ wsX20, w ∈ wsX2_port := fun w h => List.mem_cons_of_mem _ (List.mem_append_left _ (List.mem_append_right _ h))
set_option maxHeartbeats 4000000 in
set_option maxRecDepth 100000 in
theorem k_X2_port (l : Launch) (D : va_G) (qS qF : Nat) (f1 f2 pn l1 l2 ot dr wy hp ue uc fr fe p0 : Int32) : stI l yX2_port wsX2_port ({ frames := 1, cells := 0, slots := 0, locals := 21 } : Room) D [] tE [.ref qS, .int p0] [(qS, .inr (2, [.ref qF, .int f1, .int f2, .int pn, .int l1, .int l2, .int ot, .int dr, .int wy, .int hp, .int ue, .int uc])), (qF, .inr (0, [.int fr, .int fe]))] [(qS, .inr (2, [.ref qF, .int f1, .int f2, .int pn, .int l1, .int l2, .int ot, .int dr, .int wy, .int hp, .int ue, .int uc])), (qF, .inr (0, [.int fr, .int fe]))] (f_X2_port_ret f1 pn ot dr hp fr p0) := by
  intro sz
  refine Met.ofW (cc := cX2_port) (maxL := 3) (ret := (some .int)) (by decide) rfl ?_
  intro p e s m args below meth c s₁ B hml hv
  obtain ⟨rfl, rfl, hP, hK, hD, hE⟩ := st_open hv
  have hx := B.exec
  have hb := B.bytes
  have hr := B.returns
  have hts := atoms_spec (ws := wsX2_port) B.pre
  have hown : s.vm.findClass RX2 = some m.cls := findClass_of_methodNamed B.named
  have hlocks := B.notSynchronized
  generalize hAe : va_A [(qS, .inr (2, [.ref qF, .int f1, .int f2, .int pn, .int l1, .int l2, .int ot, .int dr, .int wy, .int hp, .int ue, .int uc])), (qF, .inr (0, [.int fr, .int fe]))] s.heap.size = A at hD ⊢
  have hA : ∀ q : Nat, s.heap.size ≤ q → A q := fun q h => by rw [← hAe]; exact Or.inr h
  have hS : va_S A s.heap s.heap [] := va_S.rf
  have k9 := hts (.fieldLink RX2 9 "PortTimers$Side" "flags" "LPortTimers$Flags;") (by decide +kernel)
  have k15 := hts (.fieldLink RX2 15 "PortTimers$Side" "flagOfLine1" "I") (by decide +kernel)
  have k22 := hts (.fieldLink RX2 22 "PortTimers$Side" "out" "I") (by decide +kernel)
  have k25 := hts (.fieldLink RX2 25 "PortTimers$Side" "directions" "I") (by decide +kernel)
  have k31 := hts (.fieldLink RX2 31 "PortTimers$Side" "heldPins" "I") (by decide +kernel)
  have k47 := hts (.fieldLink RX2 47 "PortTimers$Side" "pins" "I") (by decide +kernel)
  have hl := lv_entry ([.ref qS, .int p0]) (n := 3) (Nat.le_of_ble_eq_true rfl)
  rw [lg_entry_eq]
  generalize (lg_sl ([.ref qS, .int p0]) ++ List.replicate (3 - (lg_sl ([.ref qS, .int p0])).length) Slot.unset).toArray = ls at hl ⊢
  have hl : lv_has ls 3 [(0, .ref qS), (1, .int p0)] := hl
  refine lv_iload_n hx hb dX2_port_0 rfl (lv_at hl 1 rfl) ?_
  refine lv_if_eq (tgt := 25) hx hb dX2_port_1 (by decide) (fun c_1 => ?_) (fun c_1 => ?_)
  · refine lv_aload_n hx hb dX2_port_25 rfl (lv_at hl 0 rfl) ?_
    refine va_get (D := D) (ci := 2) (v := .int pn) (C := RX2) (T := TX2) (N := 12) hx hb hts nX2_port_X2 hown hK hP 0 rfl rfl 3 (by decide) k47 (fun _ h9 => h9) rfl dX2_port_26 ?_
    refine lv_istore_n (lv' := [(2, .int pn), (0, .ref qS), (1, .int p0)]) hx hb dX2_port_29 rfl hl (by decide) rfl (fun ls hl => ?_)
    refine lv_aload_n hx hb dX2_port_30 rfl (lv_at hl 1 rfl) ?_
    refine va_get (D := D) (ci := 2) (v := .int ot) (C := RX2) (T := TX2) (N := 12) hx hb hts nX2_port_X2 hown hK hP 0 rfl rfl 6 (by decide) k22 (fun _ h9 => h9) rfl dX2_port_31 ?_
    refine lv_aload_n hx hb dX2_port_34 rfl (lv_at hl 1 rfl) ?_
    refine va_get (D := D) (ci := 2) (v := .int dr) (C := RX2) (T := TX2) (N := 12) hx hb hts nX2_port_X2 hown hK hP 0 rfl rfl 7 (by decide) k25 (fun _ h9 => h9) rfl dX2_port_35 ?_
    refine lv_iand hx hb dX2_port_38 ?_
    refine lv_iload_n hx hb dX2_port_39 rfl (lv_at hl 0 rfl) ?_
    refine lv_aload_n hx hb dX2_port_40 rfl (lv_at hl 1 rfl) ?_
    refine va_get (D := D) (ci := 2) (v := .int dr) (C := RX2) (T := TX2) (N := 12) hx hb hts nX2_port_X2 hown hK hP 0 rfl rfl 7 (by decide) k25 (fun _ h9 => h9) rfl dX2_port_41 ?_
    refine lv_iconst (v := (-1)) hx hb dX2_port_44 (by decide) ?_
    refine lv_ixor hx hb dX2_port_45 ?_
    refine lv_iand hx hb dX2_port_46 ?_
    refine lv_ior hx hb dX2_port_47 ?_
    exact st_reti hx hb hr hlocks (by simp only [f_X2_port_ret, if_pos c_1]) hP hD hS dX2_port_48
  · refine lv_aload_n hx hb dX2_port_4 rfl (lv_at hl 0 rfl) ?_
    refine va_get (D := D) (ci := 2) (v := .ref qF) (C := RX2) (T := TX2) (N := 12) hx hb hts nX2_port_X2 hown hK hP 0 rfl rfl 0 (by decide) k9 (fun _ h9 => h9) rfl dX2_port_5 ?_
    refine lv_aload_n hx hb dX2_port_8 rfl (lv_at hl 0 rfl) ?_
    refine va_get (D := D) (ci := 2) (v := .int f1) (C := RX2) (T := TX2) (N := 12) hx hb hts nX2_port_X2 hown hK hP 0 rfl rfl 1 (by decide) k15 (fun _ h9 => h9) rfl dX2_port_9 ?_
    refine st_iV (As := [.int f1]) (rest := []) (wc := [(qF, .inr (0, [.int fr, .int fe]))]) (wr := [(qS, .inr (2, [.ref qF, .int f1, .int f2, .int pn, .int l1, .int l2, .int ot, .int dr, .int wy, .int hp, .int ue, .int uc]))]) (w1 := [(qF, .inr (0, [.int fr, .int fe]))]) (wn := [(qS, .inr (2, [.ref qF, .int f1, .int f2, .int pn, .int l1, .int l2, .int ot, .int dr, .int wy, .int hp, .int ue, .int uc])), (qF, .inr (0, [.int fr, .int fe]))]) (r := f_X0_has_ret fr f1) ⟨hx, hb, hml, hown, hts⟩ (k_X0_has l D qF fr fe f1) (cwV 1 hts gX2_port_X0_has rfl rfl rfl (by decide +kernel) ⟨Nat.le_of_ble_eq_true rfl, Nat.le_of_ble_eq_true rfl⟩) tE_v (fun _ _ => trivial) hK hP hD hS hA (fun hPc => va_recv hK hPc (ci := 0) (q0 := 0) rfl rfl) [1] [0] [0, 1] rfl rfl (by decide) rfl rfl rfl hl.1 (Nat.le_of_ble_eq_true rfl) dX2_port_12 ⟨Nat.zero_le _, Nat.zero_le _⟩ (fun H locs hP hD hS => ?_)
    refine lv_if_eq (tgt := 25) hx hb dX2_port_15 (by decide) (fun c_2 => ?_) (fun c_2 => ?_)
    · refine lv_aload_n hx hb dX2_port_25 rfl (lv_at hl 0 rfl) ?_
      refine va_get (D := D) (ci := 2) (v := .int pn) (C := RX2) (T := TX2) (N := 12) hx hb hts nX2_port_X2 hown hK hP 0 rfl rfl 3 (by decide) k47 (fun _ h9 => h9) rfl dX2_port_26 ?_
      refine lv_istore_n (lv' := [(2, .int pn), (0, .ref qS), (1, .int p0)]) hx hb dX2_port_29 rfl hl (by decide) rfl (fun ls hl => ?_)
      refine lv_aload_n hx hb dX2_port_30 rfl (lv_at hl 1 rfl) ?_
      refine va_get (D := D) (ci := 2) (v := .int ot) (C := RX2) (T := TX2) (N := 12) hx hb hts nX2_port_X2 hown hK hP 0 rfl rfl 6 (by decide) k22 (fun _ h9 => h9) rfl dX2_port_31 ?_
      refine lv_aload_n hx hb dX2_port_34 rfl (lv_at hl 1 rfl) ?_
      refine va_get (D := D) (ci := 2) (v := .int dr) (C := RX2) (T := TX2) (N := 12) hx hb hts nX2_port_X2 hown hK hP 0 rfl rfl 7 (by decide) k25 (fun _ h9 => h9) rfl dX2_port_35 ?_
      refine lv_iand hx hb dX2_port_38 ?_
      refine lv_iload_n hx hb dX2_port_39 rfl (lv_at hl 0 rfl) ?_
      refine lv_aload_n hx hb dX2_port_40 rfl (lv_at hl 1 rfl) ?_
      refine va_get (D := D) (ci := 2) (v := .int dr) (C := RX2) (T := TX2) (N := 12) hx hb hts nX2_port_X2 hown hK hP 0 rfl rfl 7 (by decide) k25 (fun _ h9 => h9) rfl dX2_port_41 ?_
      refine lv_iconst (v := (-1)) hx hb dX2_port_44 (by decide) ?_
      refine lv_ixor hx hb dX2_port_45 ?_
      refine lv_iand hx hb dX2_port_46 ?_
      refine lv_ior hx hb dX2_port_47 ?_
      exact st_reti hx hb hr hlocks (by simp only [f_X2_port_ret, if_neg c_1, if_pos c_2]) hP hD hS dX2_port_48
    · refine lv_aload_n hx hb dX2_port_18 rfl (lv_at hl 0 rfl) ?_
      refine va_get (D := D) (ci := 2) (v := .int hp) (C := RX2) (T := TX2) (N := 12) hx hb hts nX2_port_X2 hown hK hP 0 rfl rfl 9 (by decide) k31 (fun _ h9 => h9) rfl dX2_port_19 ?_
      refine lv_goto (tgt := 29) hx hb dX2_port_22 (by decide) ?_
      refine lv_istore_n (lv' := [(2, .int hp), (0, .ref qS), (1, .int p0)]) hx hb dX2_port_29 rfl hl (by decide) rfl (fun ls hl => ?_)
      refine lv_aload_n hx hb dX2_port_30 rfl (lv_at hl 1 rfl) ?_
      refine va_get (D := D) (ci := 2) (v := .int ot) (C := RX2) (T := TX2) (N := 12) hx hb hts nX2_port_X2 hown hK hP 0 rfl rfl 6 (by decide) k22 (fun _ h9 => h9) rfl dX2_port_31 ?_
      refine lv_aload_n hx hb dX2_port_34 rfl (lv_at hl 1 rfl) ?_
      refine va_get (D := D) (ci := 2) (v := .int dr) (C := RX2) (T := TX2) (N := 12) hx hb hts nX2_port_X2 hown hK hP 0 rfl rfl 7 (by decide) k25 (fun _ h9 => h9) rfl dX2_port_35 ?_
      refine lv_iand hx hb dX2_port_38 ?_
      refine lv_iload_n hx hb dX2_port_39 rfl (lv_at hl 0 rfl) ?_
      refine lv_aload_n hx hb dX2_port_40 rfl (lv_at hl 1 rfl) ?_
      refine va_get (D := D) (ci := 2) (v := .int dr) (C := RX2) (T := TX2) (N := 12) hx hb hts nX2_port_X2 hown hK hP 0 rfl rfl 7 (by decide) k25 (fun _ h9 => h9) rfl dX2_port_41 ?_
      refine lv_iconst (v := (-1)) hx hb dX2_port_44 (by decide) ?_
      refine lv_ixor hx hb dX2_port_45 ?_
      refine lv_iand hx hb dX2_port_46 ?_
      refine lv_ior hx hb dX2_port_47 ?_
      exact st_reti hx hb hr hlocks (by simp only [f_X2_port_ret, if_neg c_1, if_neg c_2]) hP hD hS dX2_port_48
def f_X2_touch_fr (f1 f2 wy fr : Int32) : Int32 := if (wy >>> (1 &&& 31)) = 1 then (fr &&& (f1 ^^^ (-1))) else (if (wy >>> (1 &&& 31)) = 3 then (fr &&& (f1 ^^^ (-1))) else ((fr &&& (f1 ^^^ (-1))) &&& (f2 ^^^ (-1))))
theorem nX2_touch_X2 : ∀ w ∈ wsX20, w ∈ wsX2_touch := fun w h => List.mem_cons_of_mem _ (List.mem_append_left _ (List.mem_append_right _ h))
set_option maxHeartbeats 4000000 in
set_option maxRecDepth 100000 in
theorem k_X2_touch (l : Launch) (D : va_G) (qS qF : Nat) (f1 f2 pn l1 l2 ot dr wy hp ue uc fr fe : Int32) : stV l yX2_touch wsX2_touch ({ frames := 1, cells := 0, slots := 0, locals := 21 } : Room) D [] tE [.ref qS] [(qS, .inr (2, [.ref qF, .int f1, .int f2, .int pn, .int l1, .int l2, .int ot, .int dr, .int wy, .int hp, .int ue, .int uc])), (qF, .inr (0, [.int fr, .int fe]))] [(qS, .inr (2, [.ref qF, .int f1, .int f2, .int pn, .int l1, .int l2, .int ot, .int dr, .int wy, .int hp, .int ue, .int uc])), (qF, .inr (0, [.int (f_X2_touch_fr f1 f2 wy fr), .int fe]))] := by
  intro sz
  refine Met.ofW (cc := cX2_touch) (maxL := 2) (ret := none) (by decide) rfl ?_
  intro p e s m args below meth c s₁ B hml hv
  obtain ⟨rfl, rfl, hP, hK, hD, hE⟩ := st_open hv
  have hx := B.exec
  have hb := B.bytes
  have hr := B.returns
  have hts := atoms_spec (ws := wsX2_touch) B.pre
  have hown : s.vm.findClass RX2 = some m.cls := findClass_of_methodNamed B.named
  have hlocks := B.notSynchronized
  generalize hAe : va_A [(qS, .inr (2, [.ref qF, .int f1, .int f2, .int pn, .int l1, .int l2, .int ot, .int dr, .int wy, .int hp, .int ue, .int uc])), (qF, .inr (0, [.int fr, .int fe]))] s.heap.size = A at hD ⊢
  have hA : ∀ q : Nat, s.heap.size ≤ q → A q := fun q h => by rw [← hAe]; exact Or.inr h
  have hS : va_S A s.heap s.heap [] := va_S.rf
  have k9 := hts (.fieldLink RX2 9 "PortTimers$Side" "flags" "LPortTimers$Flags;") (by decide +kernel)
  have k15 := hts (.fieldLink RX2 15 "PortTimers$Side" "flagOfLine1" "I") (by decide +kernel)
  have k19 := hts (.fieldLink RX2 19 "PortTimers$Side" "flagOfLine2" "I") (by decide +kernel)
  have hl := lv_entry ([.ref qS]) (n := 2) (Nat.le_of_ble_eq_true rfl)
  rw [lg_entry_eq]
  generalize (lg_sl ([.ref qS]) ++ List.replicate (2 - (lg_sl ([.ref qS])).length) Slot.unset).toArray = ls at hl ⊢
  have hl : lv_has ls 2 [(0, .ref qS)] := hl
  refine lv_aload_n hx hb dX2_touch_0 rfl (lv_at hl 0 rfl) ?_
  refine va_get (D := D) (ci := 2) (v := .ref qF) (C := RX2) (T := TX2) (N := 12) hx hb hts nX2_touch_X2 hown hK hP 0 rfl rfl 0 (by decide) k9 (fun _ h9 => h9) rfl dX2_touch_1 ?_
  refine lv_aload_n hx hb dX2_touch_4 rfl (lv_at hl 0 rfl) ?_
  refine va_get (D := D) (ci := 2) (v := .int f1) (C := RX2) (T := TX2) (N := 12) hx hb hts nX2_touch_X2 hown hK hP 0 rfl rfl 1 (by decide) k15 (fun _ h9 => h9) rfl dX2_touch_5 ?_
  refine st_vV (As := [.int f1]) (rest := []) (wc := [(qF, .inr (0, [.int fr, .int fe]))]) (wr := [(qS, .inr (2, [.ref qF, .int f1, .int f2, .int pn, .int l1, .int l2, .int ot, .int dr, .int wy, .int hp, .int ue, .int uc]))]) (w1 := [(qF, .inr (0, [.int (fr &&& (f1 ^^^ (-1))), .int fe]))]) (wn := [(qS, .inr (2, [.ref qF, .int f1, .int f2, .int pn, .int l1, .int l2, .int ot, .int dr, .int wy, .int hp, .int ue, .int uc])), (qF, .inr (0, [.int (fr &&& (f1 ^^^ (-1))), .int fe]))]) ⟨hx, hb, hml, hown, hts⟩ (k_X0_lower l D qF fr fe f1) (cwV 1 hts gX2_touch_X0_lower rfl rfl rfl (by decide +kernel) ⟨Nat.le_of_ble_eq_true rfl, Nat.le_of_ble_eq_true rfl⟩) tE_v (fun _ _ => trivial) hK hP hD hS hA (fun hPc => va_recv hK hPc (ci := 0) (q0 := 0) rfl rfl) [1] [0] [0, 1] rfl rfl (by decide) rfl rfl rfl hl.1 (Nat.le_of_ble_eq_true rfl) dX2_touch_8 ⟨Nat.zero_le _, Nat.zero_le _⟩ (fun H locs hP hD hS => ?_)
  refine lv_aload_n hx hb dX2_touch_11 rfl (lv_at hl 0 rfl) ?_
  refine st_iV (As := []) (rest := []) (wc := [(qS, .inr (2, [.ref qF, .int f1, .int f2, .int pn, .int l1, .int l2, .int ot, .int dr, .int wy, .int hp, .int ue, .int uc]))]) (wr := [(qF, .inr (0, [.int (fr &&& (f1 ^^^ (-1))), .int fe]))]) (w1 := [(qS, .inr (2, [.ref qF, .int f1, .int f2, .int pn, .int l1, .int l2, .int ot, .int dr, .int wy, .int hp, .int ue, .int uc]))]) (wn := [(qS, .inr (2, [.ref qF, .int f1, .int f2, .int pn, .int l1, .int l2, .int ot, .int dr, .int wy, .int hp, .int ue, .int uc])), (qF, .inr (0, [.int (fr &&& (f1 ^^^ (-1))), .int fe]))]) (r := wy >>> (1 &&& 31)) ⟨hx, hb, hml, hown, hts⟩ (k_X2_wayOfLine2 l D qS qF f1 f2 pn l1 l2 ot dr wy hp ue uc) (cwV 0 hts gX2_touch_X2_wayOfLine2 rfl rfl rfl (by decide +kernel) ⟨Nat.le_of_ble_eq_true rfl, Nat.le_of_ble_eq_true rfl⟩) tE_v (fun _ _ => trivial) hK hP hD hS hA (fun hPc => va_recv hK hPc (ci := 2) (q0 := 0) rfl rfl) [0] [1] [1, 0] rfl rfl (by decide) rfl rfl rfl hl.1 (Nat.le_of_ble_eq_true rfl) dX2_touch_12 ⟨Nat.zero_le _, Nat.zero_le _⟩ (fun H locs hP hD hS => ?_)
  refine lv_istore_n (lv' := [(1, .int (wy >>> (1 &&& 31))), (0, .ref qS)]) hx hb dX2_touch_15 rfl hl (by decide) rfl (fun ls hl => ?_)
  refine lv_iload_n hx hb dX2_touch_16 rfl (lv_at hl 0 rfl) ?_
  refine lv_iconst (v := 1) hx hb dX2_touch_17 (by decide) ?_
  refine lv_icmp_eq (tgt := 37) hx hb dX2_touch_18 (by decide) (fun c_1 => ?_) (fun c_1 => ?_)
  · have hw : ([(qS, .inr (2, [.ref qF, .int f1, .int f2, .int pn, .int l1, .int l2, .int ot, .int dr, .int wy, .int hp, .int ue, .int uc])), (qF, .inr (0, [.int (f_X2_touch_fr f1 f2 wy fr), .int fe]))] : va_W) = [(qS, .inr (2, [.ref qF, .int f1, .int f2, .int pn, .int l1, .int l2, .int ot, .int dr, .int wy, .int hp, .int ue, .int uc])), (qF, .inr (0, [.int (fr &&& (f1 ^^^ (-1))), .int fe]))] := by simp only [f_X2_touch_fr, if_pos c_1]
    exact st_retv hx hb hr hlocks (by rw [hw]; exact hP) (by rw [hw]; exact hD) hS dX2_touch_37
  · refine lv_iload_n hx hb dX2_touch_21 rfl (lv_at hl 0 rfl) ?_
    refine lv_iconst (v := 3) hx hb dX2_touch_22 (by decide) ?_
    refine lv_icmp_eq (tgt := 37) hx hb dX2_touch_23 (by decide) (fun c_2 => ?_) (fun c_2 => ?_)
    · have hw : ([(qS, .inr (2, [.ref qF, .int f1, .int f2, .int pn, .int l1, .int l2, .int ot, .int dr, .int wy, .int hp, .int ue, .int uc])), (qF, .inr (0, [.int (f_X2_touch_fr f1 f2 wy fr), .int fe]))] : va_W) = [(qS, .inr (2, [.ref qF, .int f1, .int f2, .int pn, .int l1, .int l2, .int ot, .int dr, .int wy, .int hp, .int ue, .int uc])), (qF, .inr (0, [.int (fr &&& (f1 ^^^ (-1))), .int fe]))] := by simp only [f_X2_touch_fr, if_neg c_1, if_pos c_2]
      exact st_retv hx hb hr hlocks (by rw [hw]; exact hP) (by rw [hw]; exact hD) hS dX2_touch_37
    · refine lv_aload_n hx hb dX2_touch_26 rfl (lv_at hl 1 rfl) ?_
      refine va_get (D := D) (ci := 2) (v := .ref qF) (C := RX2) (T := TX2) (N := 12) hx hb hts nX2_touch_X2 hown hK hP 0 rfl rfl 0 (by decide) k9 (fun _ h9 => h9) rfl dX2_touch_27 ?_
      refine lv_aload_n hx hb dX2_touch_30 rfl (lv_at hl 1 rfl) ?_
      refine va_get (D := D) (ci := 2) (v := .int f2) (C := RX2) (T := TX2) (N := 12) hx hb hts nX2_touch_X2 hown hK hP 0 rfl rfl 2 (by decide) k19 (fun _ h9 => h9) rfl dX2_touch_31 ?_
      refine st_vV (As := [.int f2]) (rest := []) (wc := [(qF, .inr (0, [.int (fr &&& (f1 ^^^ (-1))), .int fe]))]) (wr := [(qS, .inr (2, [.ref qF, .int f1, .int f2, .int pn, .int l1, .int l2, .int ot, .int dr, .int wy, .int hp, .int ue, .int uc]))]) (w1 := [(qF, .inr (0, [.int ((fr &&& (f1 ^^^ (-1))) &&& (f2 ^^^ (-1))), .int fe]))]) (wn := [(qS, .inr (2, [.ref qF, .int f1, .int f2, .int pn, .int l1, .int l2, .int ot, .int dr, .int wy, .int hp, .int ue, .int uc])), (qF, .inr (0, [.int ((fr &&& (f1 ^^^ (-1))) &&& (f2 ^^^ (-1))), .int fe]))]) ⟨hx, hb, hml, hown, hts⟩ (k_X0_lower l D qF (fr &&& (f1 ^^^ (-1))) fe f2) (cwV 1 hts gX2_touch_X0_lower rfl rfl rfl (by decide +kernel) ⟨Nat.le_of_ble_eq_true rfl, Nat.le_of_ble_eq_true rfl⟩) tE_v (fun _ _ => trivial) hK hP hD hS hA (fun hPc => va_recv hK hPc (ci := 0) (q0 := 0) rfl rfl) [1] [0] [0, 1] rfl rfl (by decide) rfl rfl rfl hl.1 (Nat.le_of_ble_eq_true rfl) dX2_touch_34 ⟨Nat.zero_le _, Nat.zero_le _⟩ (fun H locs hP hD hS => ?_)
      have hw : ([(qS, .inr (2, [.ref qF, .int f1, .int f2, .int pn, .int l1, .int l2, .int ot, .int dr, .int wy, .int hp, .int ue, .int uc])), (qF, .inr (0, [.int (f_X2_touch_fr f1 f2 wy fr), .int fe]))] : va_W) = [(qS, .inr (2, [.ref qF, .int f1, .int f2, .int pn, .int l1, .int l2, .int ot, .int dr, .int wy, .int hp, .int ue, .int uc])), (qF, .inr (0, [.int ((fr &&& (f1 ^^^ (-1))) &&& (f2 ^^^ (-1))), .int fe]))] := by simp only [f_X2_touch_fr, if_neg c_1, if_neg c_2]
      exact st_retv hx hb hr hlocks (by rw [hw]; exact hP) (by rw [hw]; exact hD) hS dX2_touch_37
def f_X2_giveTouch_ue (wy ue : Int32) : Int32 := if (wy >>> (1 &&& 31)) = 4 then 1 else ue
def f_X2_giveTouch_uc (wy uc : Int32) : Int32 := if (wy >>> (1 &&& 31)) = 4 then uc else (if (wy >>> (1 &&& 31)) = 5 then 1 else uc)
theorem nX2_giveTouch_X2 : ∀ w ∈ wsX20, w ∈ wsX2_giveTouch := fun w h => List.mem_cons_of_mem _ (List.mem_append_right _ h)
set_option maxHeartbeats 4000000 in
set_option maxRecDepth 100000 in
theorem k_X2_giveTouch (l : Launch) (D : va_G) (qS qF : Nat) (f1 f2 pn l1 l2 ot dr wy hp ue uc : Int32) : stV l yX2_giveTouch wsX2_giveTouch ({ frames := 1, cells := 0, slots := 0, locals := 20 } : Room) D [] tE [.ref qS] [(qS, .inr (2, [.ref qF, .int f1, .int f2, .int pn, .int l1, .int l2, .int ot, .int dr, .int wy, .int hp, .int ue, .int uc]))] [(qS, .inr (2, [.ref qF, .int f1, .int f2, .int pn, .int l1, .int l2, .int ot, .int dr, .int wy, .int hp, .int (f_X2_giveTouch_ue wy ue), .int (f_X2_giveTouch_uc wy uc)]))] := by
  intro sz
  refine Met.ofW (cc := cX2_giveTouch) (maxL := 2) (ret := none) (by decide) rfl ?_
  intro p e s m args below meth c s₁ B hml hv
  obtain ⟨rfl, rfl, hP, hK, hD, hE⟩ := st_open hv
  have hx := B.exec
  have hb := B.bytes
  have hr := B.returns
  have hts := atoms_spec (ws := wsX2_giveTouch) B.pre
  have hown : s.vm.findClass RX2 = some m.cls := findClass_of_methodNamed B.named
  have hlocks := B.notSynchronized
  generalize hAe : va_A [(qS, .inr (2, [.ref qF, .int f1, .int f2, .int pn, .int l1, .int l2, .int ot, .int dr, .int wy, .int hp, .int ue, .int uc]))] s.heap.size = A at hD ⊢
  have hA : ∀ q : Nat, s.heap.size ≤ q → A q := fun q h => by rw [← hAe]; exact Or.inr h
  have hS : va_S A s.heap s.heap [] := va_S.rf
  have k34 := hts (.fieldLink RX2 34 "PortTimers$Side" "lowUntilEdge" "Z") (by decide +kernel)
  have k38 := hts (.fieldLink RX2 38 "PortTimers$Side" "lowUntilCycle" "Z") (by decide +kernel)
  have hl := lv_entry ([.ref qS]) (n := 2) (Nat.le_of_ble_eq_true rfl)
  rw [lg_entry_eq]
  generalize (lg_sl ([.ref qS]) ++ List.replicate (2 - (lg_sl ([.ref qS])).length) Slot.unset).toArray = ls at hl ⊢
  have hl : lv_has ls 2 [(0, .ref qS)] := hl
  refine lv_aload_n hx hb dX2_giveTouch_0 rfl (lv_at hl 0 rfl) ?_
  refine st_iV (As := []) (rest := []) (wc := [(qS, .inr (2, [.ref qF, .int f1, .int f2, .int pn, .int l1, .int l2, .int ot, .int dr, .int wy, .int hp, .int ue, .int uc]))]) (wr := []) (w1 := [(qS, .inr (2, [.ref qF, .int f1, .int f2, .int pn, .int l1, .int l2, .int ot, .int dr, .int wy, .int hp, .int ue, .int uc]))]) (wn := [(qS, .inr (2, [.ref qF, .int f1, .int f2, .int pn, .int l1, .int l2, .int ot, .int dr, .int wy, .int hp, .int ue, .int uc]))]) (r := wy >>> (1 &&& 31)) ⟨hx, hb, hml, hown, hts⟩ (k_X2_wayOfLine2 l D qS qF f1 f2 pn l1 l2 ot dr wy hp ue uc) (cwV 0 hts gX2_giveTouch_X2_wayOfLine2 rfl rfl rfl (by decide +kernel) ⟨Nat.le_of_ble_eq_true rfl, Nat.le_of_ble_eq_true rfl⟩) tE_v (fun _ _ => trivial) hK hP hD hS hA (fun hPc => va_recv hK hPc (ci := 2) (q0 := 0) rfl rfl) [0] [] [0] rfl rfl (by decide) rfl rfl rfl hl.1 (Nat.le_of_ble_eq_true rfl) dX2_giveTouch_1 ⟨Nat.zero_le _, Nat.zero_le _⟩ (fun H locs hP hD hS => ?_)
  refine lv_istore_n (lv' := [(1, .int (wy >>> (1 &&& 31))), (0, .ref qS)]) hx hb dX2_giveTouch_4 rfl hl (by decide) rfl (fun ls hl => ?_)
  refine lv_iload_n hx hb dX2_giveTouch_5 rfl (lv_at hl 0 rfl) ?_
  refine lv_iconst (v := 4) hx hb dX2_giveTouch_6 (by decide) ?_
  refine lv_icmp_ne (tgt := 18) hx hb dX2_giveTouch_7 (by decide) (fun c_1 => ?_) (fun c_1 => ?_)
  · refine lv_iload_n hx hb dX2_giveTouch_18 rfl (lv_at hl 0 rfl) ?_
    refine lv_iconst (v := 5) hx hb dX2_giveTouch_19 (by decide) ?_
    refine lv_icmp_ne (tgt := 28) hx hb dX2_giveTouch_20 (by decide) (fun c_2 => ?_) (fun c_2 => ?_)
    · have hw : ([(qS, .inr (2, [.ref qF, .int f1, .int f2, .int pn, .int l1, .int l2, .int ot, .int dr, .int wy, .int hp, .int (f_X2_giveTouch_ue wy ue), .int (f_X2_giveTouch_uc wy uc)]))] : va_W) = [(qS, .inr (2, [.ref qF, .int f1, .int f2, .int pn, .int l1, .int l2, .int ot, .int dr, .int wy, .int hp, .int ue, .int uc]))] := by simp only [f_X2_giveTouch_ue, f_X2_giveTouch_uc, if_neg c_1, if_neg c_2]
      exact st_retv hx hb hr hlocks (by rw [hw]; exact hP) (by rw [hw]; exact hD) hS dX2_giveTouch_28
    · refine lv_aload_n hx hb dX2_giveTouch_23 rfl (lv_at hl 1 rfl) ?_
      refine lv_iconst (v := 1) hx hb dX2_giveTouch_24 (by decide) ?_
      refine va_put (D := D) (ci := 2) (v := .int 1) (ty := .boolean) (C := RX2) (T := TX2) (N := 12) hx hb hts nX2_giveTouch_X2 tyX2 tyX2_ok nmX2 hown hK hP hD hS 0 rfl rfl 11 (by decide) k38 (fun _ h9 => h9) rfl (by decide +kernel) rfl rfl (Nat.le_of_ble_eq_true rfl) dX2_giveTouch_25 (fun H locs hP hD hS => ?_)
      have hP : va_P D vwCl [(qS, .inr (2, [.ref qF, .int f1, .int f2, .int pn, .int l1, .int l2, .int ot, .int dr, .int wy, .int hp, .int ue, .int 1]))] H := hP
      have hD : va_D A [(qS, .inr (2, [.ref qF, .int f1, .int f2, .int pn, .int l1, .int l2, .int ot, .int dr, .int wy, .int hp, .int ue, .int 1]))] := hD
      have hw : ([(qS, .inr (2, [.ref qF, .int f1, .int f2, .int pn, .int l1, .int l2, .int ot, .int dr, .int wy, .int hp, .int (f_X2_giveTouch_ue wy ue), .int (f_X2_giveTouch_uc wy uc)]))] : va_W) = [(qS, .inr (2, [.ref qF, .int f1, .int f2, .int pn, .int l1, .int l2, .int ot, .int dr, .int wy, .int hp, .int ue, .int 1]))] := by simp only [f_X2_giveTouch_ue, f_X2_giveTouch_uc, if_neg c_1, if_pos c_2]
      exact st_retv hx hb hr hlocks (by rw [hw]; exact hP) (by rw [hw]; exact hD) hS dX2_giveTouch_28
  · refine lv_aload_n hx hb dX2_giveTouch_10 rfl (lv_at hl 1 rfl) ?_
    refine lv_iconst (v := 1) hx hb dX2_giveTouch_11 (by decide) ?_
    refine va_put (D := D) (ci := 2) (v := .int 1) (ty := .boolean) (C := RX2) (T := TX2) (N := 12) hx hb hts nX2_giveTouch_X2 tyX2 tyX2_ok nmX2 hown hK hP hD hS 0 rfl rfl 10 (by decide) k34 (fun _ h9 => h9) rfl (by decide +kernel) rfl rfl (Nat.le_of_ble_eq_true rfl) dX2_giveTouch_12 (fun H locs hP hD hS => ?_)
    have hP : va_P D vwCl [(qS, .inr (2, [.ref qF, .int f1, .int f2, .int pn, .int l1, .int l2, .int ot, .int dr, .int wy, .int hp, .int 1, .int uc]))] H := hP
    have hD : va_D A [(qS, .inr (2, [.ref qF, .int f1, .int f2, .int pn, .int l1, .int l2, .int ot, .int dr, .int wy, .int hp, .int 1, .int uc]))] := hD
    refine lv_goto (tgt := 28) hx hb dX2_giveTouch_15 (by decide) ?_
    have hw : ([(qS, .inr (2, [.ref qF, .int f1, .int f2, .int pn, .int l1, .int l2, .int ot, .int dr, .int wy, .int hp, .int (f_X2_giveTouch_ue wy ue), .int (f_X2_giveTouch_uc wy uc)]))] : va_W) = [(qS, .inr (2, [.ref qF, .int f1, .int f2, .int pn, .int l1, .int l2, .int ot, .int dr, .int wy, .int hp, .int 1, .int uc]))] := by simp only [f_X2_giveTouch_ue, f_X2_giveTouch_uc, if_pos c_1]
    exact st_retv hx hb hr hlocks (by rw [hw]; exact hP) (by rw [hw]; exact hD) hS dX2_giveTouch_28
theorem nX2_endCycle_X2 : ∀ w ∈ wsX20, w ∈ wsX2_endCycle := fun w h => List.mem_cons_of_mem _ (List.mem_append_right _ h)
set_option maxHeartbeats 4000000 in
set_option maxRecDepth 100000 in
theorem k_X2_endCycle (l : Launch) (D : va_G) (qS qF : Nat) (f1 f2 pn l1 l2 ot dr wy hp ue uc : Int32) : stV l yX2_endCycle wsX2_endCycle ({ frames := 0, cells := 0, slots := 0, locals := 0 } : Room) D [] tE [.ref qS] [(qS, .inr (2, [.ref qF, .int f1, .int f2, .int pn, .int l1, .int l2, .int ot, .int dr, .int wy, .int hp, .int ue, .int uc]))] [(qS, .inr (2, [.ref qF, .int f1, .int f2, .int pn, .int l1, .int l2, .int ot, .int dr, .int wy, .int hp, .int ue, .int 0]))] := by
  intro sz
  refine Met.ofW (cc := cX2_endCycle) (maxL := 1) (ret := none) (by decide) rfl ?_
  intro p e s m args below meth c s₁ B hml hv
  obtain ⟨rfl, rfl, hP, hK, hD, hE⟩ := st_open hv
  have hx := B.exec
  have hb := B.bytes
  have hr := B.returns
  have hts := atoms_spec (ws := wsX2_endCycle) B.pre
  have hown : s.vm.findClass RX2 = some m.cls := findClass_of_methodNamed B.named
  have hlocks := B.notSynchronized
  generalize hAe : va_A [(qS, .inr (2, [.ref qF, .int f1, .int f2, .int pn, .int l1, .int l2, .int ot, .int dr, .int wy, .int hp, .int ue, .int uc]))] s.heap.size = A at hD ⊢
  have hA : ∀ q : Nat, s.heap.size ≤ q → A q := fun q h => by rw [← hAe]; exact Or.inr h
  have hS : va_S A s.heap s.heap [] := va_S.rf
  have k38 := hts (.fieldLink RX2 38 "PortTimers$Side" "lowUntilCycle" "Z") (by decide +kernel)
  have hl := lv_entry ([.ref qS]) (n := 1) (Nat.le_of_ble_eq_true rfl)
  rw [lg_entry_eq]
  generalize (lg_sl ([.ref qS]) ++ List.replicate (1 - (lg_sl ([.ref qS])).length) Slot.unset).toArray = ls at hl ⊢
  have hl : lv_has ls 1 [(0, .ref qS)] := hl
  refine lv_aload_n hx hb dX2_endCycle_0 rfl (lv_at hl 0 rfl) ?_
  refine lv_iconst (v := 0) hx hb dX2_endCycle_1 (by decide) ?_
  refine va_put (D := D) (ci := 2) (v := .int 0) (ty := .boolean) (C := RX2) (T := TX2) (N := 12) hx hb hts nX2_endCycle_X2 tyX2 tyX2_ok nmX2 hown hK hP hD hS 0 rfl rfl 11 (by decide) k38 (fun _ h9 => h9) rfl (by decide +kernel) rfl rfl (Nat.le_of_ble_eq_true rfl) dX2_endCycle_2 (fun H locs hP hD hS => ?_)
  have hP : va_P D vwCl [(qS, .inr (2, [.ref qF, .int f1, .int f2, .int pn, .int l1, .int l2, .int ot, .int dr, .int wy, .int hp, .int ue, .int 0]))] H := hP
  have hD : va_D A [(qS, .inr (2, [.ref qF, .int f1, .int f2, .int pn, .int l1, .int l2, .int ot, .int dr, .int wy, .int hp, .int ue, .int 0]))] := hD
  exact st_retv hx hb hr hlocks hP hD hS dX2_endCycle_5
def f_X2_moveLine1_hp (pn l1 wy hp p0 : Int32) : Int32 := if (wy &&& 1) = 0 then (if p0 = l1 then hp else (if p0 = 0 then pn else hp)) else (if p0 = l1 then hp else (if p0 = 1 then pn else hp))
def f_X2_moveLine1_ue (l1 wy ue p0 : Int32) : Int32 := if (wy &&& 1) = 0 then (if p0 = l1 then ue else (if p0 = 0 then 0 else ue)) else (if p0 = l1 then ue else (if p0 = 1 then 0 else ue))
def f_X2_moveLine1_fr (f1 l1 wy fr p0 : Int32) : Int32 := if (wy &&& 1) = 0 then (if p0 = l1 then fr else (if p0 = 0 then (fr ||| f1) else fr)) else (if p0 = l1 then fr else (if p0 = 1 then (fr ||| f1) else fr))
def f_X2_moveLine1_ret (l1 wy p0 : Int32) : Int32 := if (wy &&& 1) = 0 then (if p0 = l1 then 0 else (if p0 = 0 then 1 else 0)) else (if p0 = l1 then 0 else (if p0 = 1 then 1 else 0))
theorem z_X2_moveLine1 (l1 wy p0 : Int32) : f_X2_moveLine1_ret l1 wy p0 = 0 ∨ f_X2_moveLine1_ret l1 wy p0 = 1 := by
  unfold f_X2_moveLine1_ret
  (repeat' split) <;> decide
theorem nX2_moveLine1_X2 : ∀ w ∈ wsX20, w ∈ wsX2_moveLine1 := fun w h => List.mem_cons_of_mem _ (List.mem_append_left _ (List.mem_append_right _ h))
set_option maxHeartbeats 4000000 in
set_option maxRecDepth 100000 in
theorem k_X2_moveLine1 (l : Launch) (D : va_G) (qS qF : Nat) (f1 f2 pn l1 l2 ot dr wy hp ue uc fr fe p0 : Int32) (hz : p0 = 0 ∨ p0 = 1) : stI l yX2_moveLine1 wsX2_moveLine1 ({ frames := 1, cells := 0, slots := 0, locals := 21 } : Room) D [] tE [.ref qS, .int p0] [(qS, .inr (2, [.ref qF, .int f1, .int f2, .int pn, .int l1, .int l2, .int ot, .int dr, .int wy, .int hp, .int ue, .int uc])), (qF, .inr (0, [.int fr, .int fe]))] [(qS, .inr (2, [.ref qF, .int f1, .int f2, .int pn, .int p0, .int l2, .int ot, .int dr, .int wy, .int (f_X2_moveLine1_hp pn l1 wy hp p0), .int (f_X2_moveLine1_ue l1 wy ue p0), .int uc])), (qF, .inr (0, [.int (f_X2_moveLine1_fr f1 l1 wy fr p0), .int fe]))] (f_X2_moveLine1_ret l1 wy p0) := by
  intro sz
  refine Met.ofW (cc := cX2_moveLine1) (maxL := 4) (ret := (some .boolean)) (by decide) rfl ?_
  intro p e s m args below meth c s₁ B hml hv
  obtain ⟨rfl, rfl, hP, hK, hD, hE⟩ := st_open hv
  have hx := B.exec
  have hb := B.bytes
  have hr := B.returns
  have hts := atoms_spec (ws := wsX2_moveLine1) B.pre
  have hown : s.vm.findClass RX2 = some m.cls := findClass_of_methodNamed B.named
  have hlocks := B.notSynchronized
  generalize hAe : va_A [(qS, .inr (2, [.ref qF, .int f1, .int f2, .int pn, .int l1, .int l2, .int ot, .int dr, .int wy, .int hp, .int ue, .int uc])), (qF, .inr (0, [.int fr, .int fe]))] s.heap.size = A at hD ⊢
  have hA : ∀ q : Nat, s.heap.size ≤ q → A q := fun q h => by rw [← hAe]; exact Or.inr h
  have hS : va_S A s.heap s.heap [] := va_S.rf
  have k9 := hts (.fieldLink RX2 9 "PortTimers$Side" "flags" "LPortTimers$Flags;") (by decide +kernel)
  have k15 := hts (.fieldLink RX2 15 "PortTimers$Side" "flagOfLine1" "I") (by decide +kernel)
  have k28 := hts (.fieldLink RX2 28 "PortTimers$Side" "ways" "I") (by decide +kernel)
  have k31 := hts (.fieldLink RX2 31 "PortTimers$Side" "heldPins" "I") (by decide +kernel)
  have k34 := hts (.fieldLink RX2 34 "PortTimers$Side" "lowUntilEdge" "Z") (by decide +kernel)
  have k47 := hts (.fieldLink RX2 47 "PortTimers$Side" "pins" "I") (by decide +kernel)
  have k58 := hts (.fieldLink RX2 58 "PortTimers$Side" "line1" "Z") (by decide +kernel)
  have hl := lv_entry ([.ref qS, .int p0]) (n := 4) (Nat.le_of_ble_eq_true rfl)
  rw [lg_entry_eq]
  generalize (lg_sl ([.ref qS, .int p0]) ++ List.replicate (4 - (lg_sl ([.ref qS, .int p0])).length) Slot.unset).toArray = ls at hl ⊢
  have hl : lv_has ls 4 [(0, .ref qS), (1, .int p0)] := hl
  refine lv_aload_n hx hb dX2_moveLine1_0 rfl (lv_at hl 0 rfl) ?_
  refine va_get (D := D) (ci := 2) (v := .int wy) (C := RX2) (T := TX2) (N := 12) hx hb hts nX2_moveLine1_X2 hown hK hP 0 rfl rfl 8 (by decide) k28 (fun _ h9 => h9) rfl dX2_moveLine1_1 ?_
  refine lv_iconst (v := 1) hx hb dX2_moveLine1_4 (by decide) ?_
  refine lv_iand hx hb dX2_moveLine1_5 ?_
  refine lv_if_eq (tgt := 13) hx hb dX2_moveLine1_6 (by decide) (fun c_1 => ?_) (fun c_1 => ?_)
  · refine lv_iconst (v := 0) hx hb dX2_moveLine1_13 (by decide) ?_
    refine lv_istore_n (lv' := [(2, .int 0), (0, .ref qS), (1, .int p0)]) hx hb dX2_moveLine1_14 rfl hl (by decide) rfl (fun ls hl => ?_)
    refine lv_iload_n hx hb dX2_moveLine1_15 rfl (lv_at hl 2 rfl) ?_
    refine lv_aload_n hx hb dX2_moveLine1_16 rfl (lv_at hl 1 rfl) ?_
    refine va_get (D := D) (ci := 2) (v := .int l1) (C := RX2) (T := TX2) (N := 12) hx hb hts nX2_moveLine1_X2 hown hK hP 0 rfl rfl 4 (by decide) k58 (fun _ h9 => h9) rfl dX2_moveLine1_17 ?_
    refine lv_icmp_eq (tgt := 32) hx hb dX2_moveLine1_20 (by decide) (fun c_2 => ?_) (fun c_2 => ?_)
    · refine lv_iconst (v := 0) hx hb dX2_moveLine1_32 (by decide) ?_
      refine lv_istore_n (lv' := [(3, .int 0), (2, .int 0), (0, .ref qS), (1, .int p0)]) hx hb dX2_moveLine1_33 rfl hl (by decide) rfl (fun ls hl => ?_)
      refine lv_aload_n hx hb dX2_moveLine1_34 rfl (lv_at hl 2 rfl) ?_
      refine lv_iload_n hx hb dX2_moveLine1_35 rfl (lv_at hl 3 rfl) ?_
      refine va_put (D := D) (ci := 2) (v := .int p0) (ty := .boolean) (C := RX2) (T := TX2) (N := 12) hx hb hts nX2_moveLine1_X2 tyX2 tyX2_ok nmX2 hown hK hP hD hS 0 rfl rfl 4 (by decide) k58 (fun _ h9 => h9) rfl (by decide +kernel) (by rcases hz with rfl | rfl <;> rfl) (by rcases hz with rfl | rfl <;> rfl) (Nat.le_of_ble_eq_true rfl) dX2_moveLine1_36 (fun H locs hP hD hS => ?_)
      have hP : va_P D vwCl [(qS, .inr (2, [.ref qF, .int f1, .int f2, .int pn, .int p0, .int l2, .int ot, .int dr, .int wy, .int hp, .int ue, .int uc])), (qF, .inr (0, [.int fr, .int fe]))] H := hP
      have hD : va_D A [(qS, .inr (2, [.ref qF, .int f1, .int f2, .int pn, .int p0, .int l2, .int ot, .int dr, .int wy, .int hp, .int ue, .int uc])), (qF, .inr (0, [.int fr, .int fe]))] := hD
      refine lv_iload_n hx hb dX2_moveLine1_39 rfl (lv_at hl 0 rfl) ?_
      refine lv_if_eq (tgt := 67) hx hb dX2_moveLine1_40 (by decide) (fun _ => ?_) (fun cc => absurd cc (by decide))
      refine lv_iload_n hx hb dX2_moveLine1_67 rfl (lv_at hl 0 rfl) ?_
      have hw : ([(qS, .inr (2, [.ref qF, .int f1, .int f2, .int pn, .int p0, .int l2, .int ot, .int dr, .int wy, .int (f_X2_moveLine1_hp pn l1 wy hp p0), .int (f_X2_moveLine1_ue l1 wy ue p0), .int uc])), (qF, .inr (0, [.int (f_X2_moveLine1_fr f1 l1 wy fr p0), .int fe]))] : va_W) = [(qS, .inr (2, [.ref qF, .int f1, .int f2, .int pn, .int p0, .int l2, .int ot, .int dr, .int wy, .int hp, .int ue, .int uc])), (qF, .inr (0, [.int fr, .int fe]))] := by simp only [f_X2_moveLine1_hp, f_X2_moveLine1_ue, f_X2_moveLine1_fr, f_X2_moveLine1_ret, if_pos c_1, if_pos c_2]
      exact st_retz hx hb hr hlocks (by decide) (by simp only [f_X2_moveLine1_hp, f_X2_moveLine1_ue, f_X2_moveLine1_fr, f_X2_moveLine1_ret, if_pos c_1, if_pos c_2]) (by rw [hw]; exact hP) (by rw [hw]; exact hD) hS dX2_moveLine1_68
    · refine lv_iload_n hx hb dX2_moveLine1_23 rfl (lv_at hl 2 rfl) ?_
      refine lv_iload_n hx hb dX2_moveLine1_24 rfl (lv_at hl 0 rfl) ?_
      refine lv_icmp_ne (tgt := 32) hx hb dX2_moveLine1_25 (by decide) (fun c_3 => ?_) (fun c_3 => ?_)
      · refine lv_iconst (v := 0) hx hb dX2_moveLine1_32 (by decide) ?_
        refine lv_istore_n (lv' := [(3, .int 0), (2, .int 0), (0, .ref qS), (1, .int p0)]) hx hb dX2_moveLine1_33 rfl hl (by decide) rfl (fun ls hl => ?_)
        refine lv_aload_n hx hb dX2_moveLine1_34 rfl (lv_at hl 2 rfl) ?_
        refine lv_iload_n hx hb dX2_moveLine1_35 rfl (lv_at hl 3 rfl) ?_
        refine va_put (D := D) (ci := 2) (v := .int p0) (ty := .boolean) (C := RX2) (T := TX2) (N := 12) hx hb hts nX2_moveLine1_X2 tyX2 tyX2_ok nmX2 hown hK hP hD hS 0 rfl rfl 4 (by decide) k58 (fun _ h9 => h9) rfl (by decide +kernel) (by rcases hz with rfl | rfl <;> rfl) (by rcases hz with rfl | rfl <;> rfl) (Nat.le_of_ble_eq_true rfl) dX2_moveLine1_36 (fun H locs hP hD hS => ?_)
        have hP : va_P D vwCl [(qS, .inr (2, [.ref qF, .int f1, .int f2, .int pn, .int p0, .int l2, .int ot, .int dr, .int wy, .int hp, .int ue, .int uc])), (qF, .inr (0, [.int fr, .int fe]))] H := hP
        have hD : va_D A [(qS, .inr (2, [.ref qF, .int f1, .int f2, .int pn, .int p0, .int l2, .int ot, .int dr, .int wy, .int hp, .int ue, .int uc])), (qF, .inr (0, [.int fr, .int fe]))] := hD
        refine lv_iload_n hx hb dX2_moveLine1_39 rfl (lv_at hl 0 rfl) ?_
        refine lv_if_eq (tgt := 67) hx hb dX2_moveLine1_40 (by decide) (fun _ => ?_) (fun cc => absurd cc (by decide))
        refine lv_iload_n hx hb dX2_moveLine1_67 rfl (lv_at hl 0 rfl) ?_
        have hw : ([(qS, .inr (2, [.ref qF, .int f1, .int f2, .int pn, .int p0, .int l2, .int ot, .int dr, .int wy, .int (f_X2_moveLine1_hp pn l1 wy hp p0), .int (f_X2_moveLine1_ue l1 wy ue p0), .int uc])), (qF, .inr (0, [.int (f_X2_moveLine1_fr f1 l1 wy fr p0), .int fe]))] : va_W) = [(qS, .inr (2, [.ref qF, .int f1, .int f2, .int pn, .int p0, .int l2, .int ot, .int dr, .int wy, .int hp, .int ue, .int uc])), (qF, .inr (0, [.int fr, .int fe]))] := by simp only [f_X2_moveLine1_hp, f_X2_moveLine1_ue, f_X2_moveLine1_fr, f_X2_moveLine1_ret, if_pos c_1, if_neg c_2, if_neg c_3]
        exact st_retz hx hb hr hlocks (by decide) (by simp only [f_X2_moveLine1_hp, f_X2_moveLine1_ue, f_X2_moveLine1_fr, f_X2_moveLine1_ret, if_pos c_1, if_neg c_2, if_neg c_3]) (by rw [hw]; exact hP) (by rw [hw]; exact hD) hS dX2_moveLine1_68
      · refine lv_iconst (v := 1) hx hb dX2_moveLine1_28 (by decide) ?_
        refine lv_goto (tgt := 33) hx hb dX2_moveLine1_29 (by decide) ?_
        refine lv_istore_n (lv' := [(3, .int 1), (2, .int 0), (0, .ref qS), (1, .int p0)]) hx hb dX2_moveLine1_33 rfl hl (by decide) rfl (fun ls hl => ?_)
        refine lv_aload_n hx hb dX2_moveLine1_34 rfl (lv_at hl 2 rfl) ?_
        refine lv_iload_n hx hb dX2_moveLine1_35 rfl (lv_at hl 3 rfl) ?_
        refine va_put (D := D) (ci := 2) (v := .int p0) (ty := .boolean) (C := RX2) (T := TX2) (N := 12) hx hb hts nX2_moveLine1_X2 tyX2 tyX2_ok nmX2 hown hK hP hD hS 0 rfl rfl 4 (by decide) k58 (fun _ h9 => h9) rfl (by decide +kernel) (by rcases hz with rfl | rfl <;> rfl) (by rcases hz with rfl | rfl <;> rfl) (Nat.le_of_ble_eq_true rfl) dX2_moveLine1_36 (fun H locs hP hD hS => ?_)
        have hP : va_P D vwCl [(qS, .inr (2, [.ref qF, .int f1, .int f2, .int pn, .int p0, .int l2, .int ot, .int dr, .int wy, .int hp, .int ue, .int uc])), (qF, .inr (0, [.int fr, .int fe]))] H := hP
        have hD : va_D A [(qS, .inr (2, [.ref qF, .int f1, .int f2, .int pn, .int p0, .int l2, .int ot, .int dr, .int wy, .int hp, .int ue, .int uc])), (qF, .inr (0, [.int fr, .int fe]))] := hD
        refine lv_iload_n hx hb dX2_moveLine1_39 rfl (lv_at hl 0 rfl) ?_
        refine lv_if_eq (tgt := 67) hx hb dX2_moveLine1_40 (by decide) (fun cc => absurd cc (by decide)) (fun _ => ?_)
        refine lv_aload_n hx hb dX2_moveLine1_43 rfl (lv_at hl 2 rfl) ?_
        refine va_get (D := D) (ci := 2) (v := .ref qF) (C := RX2) (T := TX2) (N := 12) hx hb hts nX2_moveLine1_X2 hown hK hP 0 rfl rfl 0 (by decide) k9 (fun _ h9 => h9) rfl dX2_moveLine1_44 ?_
        refine lv_aload_n hx hb dX2_moveLine1_47 rfl (lv_at hl 2 rfl) ?_
        refine va_get (D := D) (ci := 2) (v := .int f1) (C := RX2) (T := TX2) (N := 12) hx hb hts nX2_moveLine1_X2 hown hK hP 0 rfl rfl 1 (by decide) k15 (fun _ h9 => h9) rfl dX2_moveLine1_48 ?_
        refine st_vV (As := [.int f1]) (rest := []) (wc := [(qF, .inr (0, [.int fr, .int fe]))]) (wr := [(qS, .inr (2, [.ref qF, .int f1, .int f2, .int pn, .int p0, .int l2, .int ot, .int dr, .int wy, .int hp, .int ue, .int uc]))]) (w1 := [(qF, .inr (0, [.int (fr ||| f1), .int fe]))]) (wn := [(qS, .inr (2, [.ref qF, .int f1, .int f2, .int pn, .int p0, .int l2, .int ot, .int dr, .int wy, .int hp, .int ue, .int uc])), (qF, .inr (0, [.int (fr ||| f1), .int fe]))]) ⟨hx, hb, hml, hown, hts⟩ (k_X0_raise l D qF fr fe f1) (cwV 1 hts gX2_moveLine1_X0_raise rfl rfl rfl (by decide +kernel) ⟨Nat.le_of_ble_eq_true rfl, Nat.le_of_ble_eq_true rfl⟩) tE_v (fun _ _ => trivial) hK hP hD hS hA (fun hPc => va_recv hK hPc (ci := 0) (q0 := 0) rfl rfl) [1] [0] [0, 1] rfl rfl (by decide) rfl rfl rfl hl.1 (Nat.le_of_ble_eq_true rfl) dX2_moveLine1_51 ⟨Nat.zero_le _, Nat.zero_le _⟩ (fun H locs hP hD hS => ?_)
        refine lv_aload_n hx hb dX2_moveLine1_54 rfl (lv_at hl 2 rfl) ?_
        refine lv_aload_n hx hb dX2_moveLine1_55 rfl (lv_at hl 2 rfl) ?_
        refine va_get (D := D) (ci := 2) (v := .int pn) (C := RX2) (T := TX2) (N := 12) hx hb hts nX2_moveLine1_X2 hown hK hP 0 rfl rfl 3 (by decide) k47 (fun _ h9 => h9) rfl dX2_moveLine1_56 ?_
        refine va_put (D := D) (ci := 2) (v := .int pn) (ty := .int) (C := RX2) (T := TX2) (N := 12) hx hb hts nX2_moveLine1_X2 tyX2 tyX2_ok nmX2 hown hK hP hD hS 0 rfl rfl 9 (by decide) k31 (fun _ h9 => h9) rfl (by decide +kernel) rfl rfl (Nat.le_of_ble_eq_true rfl) dX2_moveLine1_59 (fun H locs hP hD hS => ?_)
        have hP : va_P D vwCl [(qS, .inr (2, [.ref qF, .int f1, .int f2, .int pn, .int p0, .int l2, .int ot, .int dr, .int wy, .int pn, .int ue, .int uc])), (qF, .inr (0, [.int (fr ||| f1), .int fe]))] H := hP
        have hD : va_D A [(qS, .inr (2, [.ref qF, .int f1, .int f2, .int pn, .int p0, .int l2, .int ot, .int dr, .int wy, .int pn, .int ue, .int uc])), (qF, .inr (0, [.int (fr ||| f1), .int fe]))] := hD
        refine lv_aload_n hx hb dX2_moveLine1_62 rfl (lv_at hl 2 rfl) ?_
        refine lv_iconst (v := 0) hx hb dX2_moveLine1_63 (by decide) ?_
        refine va_put (D := D) (ci := 2) (v := .int 0) (ty := .boolean) (C := RX2) (T := TX2) (N := 12) hx hb hts nX2_moveLine1_X2 tyX2 tyX2_ok nmX2 hown hK hP hD hS 0 rfl rfl 10 (by decide) k34 (fun _ h9 => h9) rfl (by decide +kernel) rfl rfl (Nat.le_of_ble_eq_true rfl) dX2_moveLine1_64 (fun H locs hP hD hS => ?_)
        have hP : va_P D vwCl [(qS, .inr (2, [.ref qF, .int f1, .int f2, .int pn, .int p0, .int l2, .int ot, .int dr, .int wy, .int pn, .int 0, .int uc])), (qF, .inr (0, [.int (fr ||| f1), .int fe]))] H := hP
        have hD : va_D A [(qS, .inr (2, [.ref qF, .int f1, .int f2, .int pn, .int p0, .int l2, .int ot, .int dr, .int wy, .int pn, .int 0, .int uc])), (qF, .inr (0, [.int (fr ||| f1), .int fe]))] := hD
        refine lv_iload_n hx hb dX2_moveLine1_67 rfl (lv_at hl 0 rfl) ?_
        have hw : ([(qS, .inr (2, [.ref qF, .int f1, .int f2, .int pn, .int p0, .int l2, .int ot, .int dr, .int wy, .int (f_X2_moveLine1_hp pn l1 wy hp p0), .int (f_X2_moveLine1_ue l1 wy ue p0), .int uc])), (qF, .inr (0, [.int (f_X2_moveLine1_fr f1 l1 wy fr p0), .int fe]))] : va_W) = [(qS, .inr (2, [.ref qF, .int f1, .int f2, .int pn, .int p0, .int l2, .int ot, .int dr, .int wy, .int pn, .int 0, .int uc])), (qF, .inr (0, [.int (fr ||| f1), .int fe]))] := by simp only [f_X2_moveLine1_hp, f_X2_moveLine1_ue, f_X2_moveLine1_fr, f_X2_moveLine1_ret, if_pos c_1, if_neg c_2, if_pos c_3]
        exact st_retz hx hb hr hlocks (by decide) (by simp only [f_X2_moveLine1_hp, f_X2_moveLine1_ue, f_X2_moveLine1_fr, f_X2_moveLine1_ret, if_pos c_1, if_neg c_2, if_pos c_3]) (by rw [hw]; exact hP) (by rw [hw]; exact hD) hS dX2_moveLine1_68
  · refine lv_iconst (v := 1) hx hb dX2_moveLine1_9 (by decide) ?_
    refine lv_goto (tgt := 14) hx hb dX2_moveLine1_10 (by decide) ?_
    refine lv_istore_n (lv' := [(2, .int 1), (0, .ref qS), (1, .int p0)]) hx hb dX2_moveLine1_14 rfl hl (by decide) rfl (fun ls hl => ?_)
    refine lv_iload_n hx hb dX2_moveLine1_15 rfl (lv_at hl 2 rfl) ?_
    refine lv_aload_n hx hb dX2_moveLine1_16 rfl (lv_at hl 1 rfl) ?_
    refine va_get (D := D) (ci := 2) (v := .int l1) (C := RX2) (T := TX2) (N := 12) hx hb hts nX2_moveLine1_X2 hown hK hP 0 rfl rfl 4 (by decide) k58 (fun _ h9 => h9) rfl dX2_moveLine1_17 ?_
    refine lv_icmp_eq (tgt := 32) hx hb dX2_moveLine1_20 (by decide) (fun c_4 => ?_) (fun c_4 => ?_)
    · refine lv_iconst (v := 0) hx hb dX2_moveLine1_32 (by decide) ?_
      refine lv_istore_n (lv' := [(3, .int 0), (2, .int 1), (0, .ref qS), (1, .int p0)]) hx hb dX2_moveLine1_33 rfl hl (by decide) rfl (fun ls hl => ?_)
      refine lv_aload_n hx hb dX2_moveLine1_34 rfl (lv_at hl 2 rfl) ?_
      refine lv_iload_n hx hb dX2_moveLine1_35 rfl (lv_at hl 3 rfl) ?_
      refine va_put (D := D) (ci := 2) (v := .int p0) (ty := .boolean) (C := RX2) (T := TX2) (N := 12) hx hb hts nX2_moveLine1_X2 tyX2 tyX2_ok nmX2 hown hK hP hD hS 0 rfl rfl 4 (by decide) k58 (fun _ h9 => h9) rfl (by decide +kernel) (by rcases hz with rfl | rfl <;> rfl) (by rcases hz with rfl | rfl <;> rfl) (Nat.le_of_ble_eq_true rfl) dX2_moveLine1_36 (fun H locs hP hD hS => ?_)
      have hP : va_P D vwCl [(qS, .inr (2, [.ref qF, .int f1, .int f2, .int pn, .int p0, .int l2, .int ot, .int dr, .int wy, .int hp, .int ue, .int uc])), (qF, .inr (0, [.int fr, .int fe]))] H := hP
      have hD : va_D A [(qS, .inr (2, [.ref qF, .int f1, .int f2, .int pn, .int p0, .int l2, .int ot, .int dr, .int wy, .int hp, .int ue, .int uc])), (qF, .inr (0, [.int fr, .int fe]))] := hD
      refine lv_iload_n hx hb dX2_moveLine1_39 rfl (lv_at hl 0 rfl) ?_
      refine lv_if_eq (tgt := 67) hx hb dX2_moveLine1_40 (by decide) (fun _ => ?_) (fun cc => absurd cc (by decide))
      refine lv_iload_n hx hb dX2_moveLine1_67 rfl (lv_at hl 0 rfl) ?_
      have hw : ([(qS, .inr (2, [.ref qF, .int f1, .int f2, .int pn, .int p0, .int l2, .int ot, .int dr, .int wy, .int (f_X2_moveLine1_hp pn l1 wy hp p0), .int (f_X2_moveLine1_ue l1 wy ue p0), .int uc])), (qF, .inr (0, [.int (f_X2_moveLine1_fr f1 l1 wy fr p0), .int fe]))] : va_W) = [(qS, .inr (2, [.ref qF, .int f1, .int f2, .int pn, .int p0, .int l2, .int ot, .int dr, .int wy, .int hp, .int ue, .int uc])), (qF, .inr (0, [.int fr, .int fe]))] := by simp only [f_X2_moveLine1_hp, f_X2_moveLine1_ue, f_X2_moveLine1_fr, f_X2_moveLine1_ret, if_neg c_1, if_pos c_4]
      exact st_retz hx hb hr hlocks (by decide) (by simp only [f_X2_moveLine1_hp, f_X2_moveLine1_ue, f_X2_moveLine1_fr, f_X2_moveLine1_ret, if_neg c_1, if_pos c_4]) (by rw [hw]; exact hP) (by rw [hw]; exact hD) hS dX2_moveLine1_68
    · refine lv_iload_n hx hb dX2_moveLine1_23 rfl (lv_at hl 2 rfl) ?_
      refine lv_iload_n hx hb dX2_moveLine1_24 rfl (lv_at hl 0 rfl) ?_
      refine lv_icmp_ne (tgt := 32) hx hb dX2_moveLine1_25 (by decide) (fun c_5 => ?_) (fun c_5 => ?_)
      · refine lv_iconst (v := 0) hx hb dX2_moveLine1_32 (by decide) ?_
        refine lv_istore_n (lv' := [(3, .int 0), (2, .int 1), (0, .ref qS), (1, .int p0)]) hx hb dX2_moveLine1_33 rfl hl (by decide) rfl (fun ls hl => ?_)
        refine lv_aload_n hx hb dX2_moveLine1_34 rfl (lv_at hl 2 rfl) ?_
        refine lv_iload_n hx hb dX2_moveLine1_35 rfl (lv_at hl 3 rfl) ?_
        refine va_put (D := D) (ci := 2) (v := .int p0) (ty := .boolean) (C := RX2) (T := TX2) (N := 12) hx hb hts nX2_moveLine1_X2 tyX2 tyX2_ok nmX2 hown hK hP hD hS 0 rfl rfl 4 (by decide) k58 (fun _ h9 => h9) rfl (by decide +kernel) (by rcases hz with rfl | rfl <;> rfl) (by rcases hz with rfl | rfl <;> rfl) (Nat.le_of_ble_eq_true rfl) dX2_moveLine1_36 (fun H locs hP hD hS => ?_)
        have hP : va_P D vwCl [(qS, .inr (2, [.ref qF, .int f1, .int f2, .int pn, .int p0, .int l2, .int ot, .int dr, .int wy, .int hp, .int ue, .int uc])), (qF, .inr (0, [.int fr, .int fe]))] H := hP
        have hD : va_D A [(qS, .inr (2, [.ref qF, .int f1, .int f2, .int pn, .int p0, .int l2, .int ot, .int dr, .int wy, .int hp, .int ue, .int uc])), (qF, .inr (0, [.int fr, .int fe]))] := hD
        refine lv_iload_n hx hb dX2_moveLine1_39 rfl (lv_at hl 0 rfl) ?_
        refine lv_if_eq (tgt := 67) hx hb dX2_moveLine1_40 (by decide) (fun _ => ?_) (fun cc => absurd cc (by decide))
        refine lv_iload_n hx hb dX2_moveLine1_67 rfl (lv_at hl 0 rfl) ?_
        have hw : ([(qS, .inr (2, [.ref qF, .int f1, .int f2, .int pn, .int p0, .int l2, .int ot, .int dr, .int wy, .int (f_X2_moveLine1_hp pn l1 wy hp p0), .int (f_X2_moveLine1_ue l1 wy ue p0), .int uc])), (qF, .inr (0, [.int (f_X2_moveLine1_fr f1 l1 wy fr p0), .int fe]))] : va_W) = [(qS, .inr (2, [.ref qF, .int f1, .int f2, .int pn, .int p0, .int l2, .int ot, .int dr, .int wy, .int hp, .int ue, .int uc])), (qF, .inr (0, [.int fr, .int fe]))] := by simp only [f_X2_moveLine1_hp, f_X2_moveLine1_ue, f_X2_moveLine1_fr, f_X2_moveLine1_ret, if_neg c_1, if_neg c_4, if_neg c_5]
        exact st_retz hx hb hr hlocks (by decide) (by simp only [f_X2_moveLine1_hp, f_X2_moveLine1_ue, f_X2_moveLine1_fr, f_X2_moveLine1_ret, if_neg c_1, if_neg c_4, if_neg c_5]) (by rw [hw]; exact hP) (by rw [hw]; exact hD) hS dX2_moveLine1_68
      · refine lv_iconst (v := 1) hx hb dX2_moveLine1_28 (by decide) ?_
        refine lv_goto (tgt := 33) hx hb dX2_moveLine1_29 (by decide) ?_
        refine lv_istore_n (lv' := [(3, .int 1), (2, .int 1), (0, .ref qS), (1, .int p0)]) hx hb dX2_moveLine1_33 rfl hl (by decide) rfl (fun ls hl => ?_)
        refine lv_aload_n hx hb dX2_moveLine1_34 rfl (lv_at hl 2 rfl) ?_
        refine lv_iload_n hx hb dX2_moveLine1_35 rfl (lv_at hl 3 rfl) ?_
        refine va_put (D := D) (ci := 2) (v := .int p0) (ty := .boolean) (C := RX2) (T := TX2) (N := 12) hx hb hts nX2_moveLine1_X2 tyX2 tyX2_ok nmX2 hown hK hP hD hS 0 rfl rfl 4 (by decide) k58 (fun _ h9 => h9) rfl (by decide +kernel) (by rcases hz with rfl | rfl <;> rfl) (by rcases hz with rfl | rfl <;> rfl) (Nat.le_of_ble_eq_true rfl) dX2_moveLine1_36 (fun H locs hP hD hS => ?_)
        have hP : va_P D vwCl [(qS, .inr (2, [.ref qF, .int f1, .int f2, .int pn, .int p0, .int l2, .int ot, .int dr, .int wy, .int hp, .int ue, .int uc])), (qF, .inr (0, [.int fr, .int fe]))] H := hP
        have hD : va_D A [(qS, .inr (2, [.ref qF, .int f1, .int f2, .int pn, .int p0, .int l2, .int ot, .int dr, .int wy, .int hp, .int ue, .int uc])), (qF, .inr (0, [.int fr, .int fe]))] := hD
        refine lv_iload_n hx hb dX2_moveLine1_39 rfl (lv_at hl 0 rfl) ?_
        refine lv_if_eq (tgt := 67) hx hb dX2_moveLine1_40 (by decide) (fun cc => absurd cc (by decide)) (fun _ => ?_)
        refine lv_aload_n hx hb dX2_moveLine1_43 rfl (lv_at hl 2 rfl) ?_
        refine va_get (D := D) (ci := 2) (v := .ref qF) (C := RX2) (T := TX2) (N := 12) hx hb hts nX2_moveLine1_X2 hown hK hP 0 rfl rfl 0 (by decide) k9 (fun _ h9 => h9) rfl dX2_moveLine1_44 ?_
        refine lv_aload_n hx hb dX2_moveLine1_47 rfl (lv_at hl 2 rfl) ?_
        refine va_get (D := D) (ci := 2) (v := .int f1) (C := RX2) (T := TX2) (N := 12) hx hb hts nX2_moveLine1_X2 hown hK hP 0 rfl rfl 1 (by decide) k15 (fun _ h9 => h9) rfl dX2_moveLine1_48 ?_
        refine st_vV (As := [.int f1]) (rest := []) (wc := [(qF, .inr (0, [.int fr, .int fe]))]) (wr := [(qS, .inr (2, [.ref qF, .int f1, .int f2, .int pn, .int p0, .int l2, .int ot, .int dr, .int wy, .int hp, .int ue, .int uc]))]) (w1 := [(qF, .inr (0, [.int (fr ||| f1), .int fe]))]) (wn := [(qS, .inr (2, [.ref qF, .int f1, .int f2, .int pn, .int p0, .int l2, .int ot, .int dr, .int wy, .int hp, .int ue, .int uc])), (qF, .inr (0, [.int (fr ||| f1), .int fe]))]) ⟨hx, hb, hml, hown, hts⟩ (k_X0_raise l D qF fr fe f1) (cwV 1 hts gX2_moveLine1_X0_raise rfl rfl rfl (by decide +kernel) ⟨Nat.le_of_ble_eq_true rfl, Nat.le_of_ble_eq_true rfl⟩) tE_v (fun _ _ => trivial) hK hP hD hS hA (fun hPc => va_recv hK hPc (ci := 0) (q0 := 0) rfl rfl) [1] [0] [0, 1] rfl rfl (by decide) rfl rfl rfl hl.1 (Nat.le_of_ble_eq_true rfl) dX2_moveLine1_51 ⟨Nat.zero_le _, Nat.zero_le _⟩ (fun H locs hP hD hS => ?_)
        refine lv_aload_n hx hb dX2_moveLine1_54 rfl (lv_at hl 2 rfl) ?_
        refine lv_aload_n hx hb dX2_moveLine1_55 rfl (lv_at hl 2 rfl) ?_
        refine va_get (D := D) (ci := 2) (v := .int pn) (C := RX2) (T := TX2) (N := 12) hx hb hts nX2_moveLine1_X2 hown hK hP 0 rfl rfl 3 (by decide) k47 (fun _ h9 => h9) rfl dX2_moveLine1_56 ?_
        refine va_put (D := D) (ci := 2) (v := .int pn) (ty := .int) (C := RX2) (T := TX2) (N := 12) hx hb hts nX2_moveLine1_X2 tyX2 tyX2_ok nmX2 hown hK hP hD hS 0 rfl rfl 9 (by decide) k31 (fun _ h9 => h9) rfl (by decide +kernel) rfl rfl (Nat.le_of_ble_eq_true rfl) dX2_moveLine1_59 (fun H locs hP hD hS => ?_)
        have hP : va_P D vwCl [(qS, .inr (2, [.ref qF, .int f1, .int f2, .int pn, .int p0, .int l2, .int ot, .int dr, .int wy, .int pn, .int ue, .int uc])), (qF, .inr (0, [.int (fr ||| f1), .int fe]))] H := hP
        have hD : va_D A [(qS, .inr (2, [.ref qF, .int f1, .int f2, .int pn, .int p0, .int l2, .int ot, .int dr, .int wy, .int pn, .int ue, .int uc])), (qF, .inr (0, [.int (fr ||| f1), .int fe]))] := hD
        refine lv_aload_n hx hb dX2_moveLine1_62 rfl (lv_at hl 2 rfl) ?_
        refine lv_iconst (v := 0) hx hb dX2_moveLine1_63 (by decide) ?_
        refine va_put (D := D) (ci := 2) (v := .int 0) (ty := .boolean) (C := RX2) (T := TX2) (N := 12) hx hb hts nX2_moveLine1_X2 tyX2 tyX2_ok nmX2 hown hK hP hD hS 0 rfl rfl 10 (by decide) k34 (fun _ h9 => h9) rfl (by decide +kernel) rfl rfl (Nat.le_of_ble_eq_true rfl) dX2_moveLine1_64 (fun H locs hP hD hS => ?_)
        have hP : va_P D vwCl [(qS, .inr (2, [.ref qF, .int f1, .int f2, .int pn, .int p0, .int l2, .int ot, .int dr, .int wy, .int pn, .int 0, .int uc])), (qF, .inr (0, [.int (fr ||| f1), .int fe]))] H := hP
        have hD : va_D A [(qS, .inr (2, [.ref qF, .int f1, .int f2, .int pn, .int p0, .int l2, .int ot, .int dr, .int wy, .int pn, .int 0, .int uc])), (qF, .inr (0, [.int (fr ||| f1), .int fe]))] := hD
        refine lv_iload_n hx hb dX2_moveLine1_67 rfl (lv_at hl 0 rfl) ?_
        have hw : ([(qS, .inr (2, [.ref qF, .int f1, .int f2, .int pn, .int p0, .int l2, .int ot, .int dr, .int wy, .int (f_X2_moveLine1_hp pn l1 wy hp p0), .int (f_X2_moveLine1_ue l1 wy ue p0), .int uc])), (qF, .inr (0, [.int (f_X2_moveLine1_fr f1 l1 wy fr p0), .int fe]))] : va_W) = [(qS, .inr (2, [.ref qF, .int f1, .int f2, .int pn, .int p0, .int l2, .int ot, .int dr, .int wy, .int pn, .int 0, .int uc])), (qF, .inr (0, [.int (fr ||| f1), .int fe]))] := by simp only [f_X2_moveLine1_hp, f_X2_moveLine1_ue, f_X2_moveLine1_fr, f_X2_moveLine1_ret, if_neg c_1, if_neg c_4, if_pos c_5]
        exact st_retz hx hb hr hlocks (by decide) (by simp only [f_X2_moveLine1_hp, f_X2_moveLine1_ue, f_X2_moveLine1_fr, f_X2_moveLine1_ret, if_neg c_1, if_neg c_4, if_pos c_5]) (by rw [hw]; exact hP) (by rw [hw]; exact hD) hS dX2_moveLine1_68
def f_X2_moveLine2_fr (f2 l2 wy fr p0 : Int32) : Int32 := if (wy >>> (1 &&& 31)) < 2 then (if 4 ≤ (wy >>> (1 &&& 31)) then fr else (if p0 = l2 then fr else (if p0 = 0 then (fr ||| f2) else fr))) else (if 4 ≤ (wy >>> (1 &&& 31)) then fr else (if p0 = l2 then fr else (if p0 = 1 then (fr ||| f2) else fr)))
def f_X2_moveLine2_ret (l2 wy p0 : Int32) : Int32 := if (wy >>> (1 &&& 31)) < 2 then (if 4 ≤ (wy >>> (1 &&& 31)) then 0 else (if p0 = l2 then 0 else (if p0 = 0 then 1 else 0))) else (if 4 ≤ (wy >>> (1 &&& 31)) then 0 else (if p0 = l2 then 0 else (if p0 = 1 then 1 else 0)))
theorem z_X2_moveLine2 (l2 wy p0 : Int32) : f_X2_moveLine2_ret l2 wy p0 = 0 ∨ f_X2_moveLine2_ret l2 wy p0 = 1 := by
  unfold f_X2_moveLine2_ret
  (repeat' split) <;> decide
theorem nX2_moveLine2_X2 : ∀ w ∈ wsX20, w ∈ wsX2_moveLine2 := fun w h => List.mem_cons_of_mem _ (List.mem_append_left _ (List.mem_append_right _ h))
set_option maxHeartbeats 4000000 in
set_option maxRecDepth 100000 in
theorem k_X2_moveLine2 (l : Launch) (D : va_G) (qS qF : Nat) (f1 f2 pn l1 l2 ot dr wy hp ue uc fr fe p0 : Int32) (hz : p0 = 0 ∨ p0 = 1) : stI l yX2_moveLine2 wsX2_moveLine2 ({ frames := 1, cells := 0, slots := 0, locals := 21 } : Room) D [] tE [.ref qS, .int p0] [(qS, .inr (2, [.ref qF, .int f1, .int f2, .int pn, .int l1, .int l2, .int ot, .int dr, .int wy, .int hp, .int ue, .int uc])), (qF, .inr (0, [.int fr, .int fe]))] [(qS, .inr (2, [.ref qF, .int f1, .int f2, .int pn, .int l1, .int p0, .int ot, .int dr, .int wy, .int hp, .int ue, .int uc])), (qF, .inr (0, [.int (f_X2_moveLine2_fr f2 l2 wy fr p0), .int fe]))] (f_X2_moveLine2_ret l2 wy p0) := by
  intro sz
  refine Met.ofW (cc := cX2_moveLine2) (maxL := 5) (ret := (some .boolean)) (by decide) rfl ?_
  intro p e s m args below meth c s₁ B hml hv
  obtain ⟨rfl, rfl, hP, hK, hD, hE⟩ := st_open hv
  have hx := B.exec
  have hb := B.bytes
  have hr := B.returns
  have hts := atoms_spec (ws := wsX2_moveLine2) B.pre
  have hown : s.vm.findClass RX2 = some m.cls := findClass_of_methodNamed B.named
  have hlocks := B.notSynchronized
  generalize hAe : va_A [(qS, .inr (2, [.ref qF, .int f1, .int f2, .int pn, .int l1, .int l2, .int ot, .int dr, .int wy, .int hp, .int ue, .int uc])), (qF, .inr (0, [.int fr, .int fe]))] s.heap.size = A at hD ⊢
  have hA : ∀ q : Nat, s.heap.size ≤ q → A q := fun q h => by rw [← hAe]; exact Or.inr h
  have hS : va_S A s.heap s.heap [] := va_S.rf
  have k9 := hts (.fieldLink RX2 9 "PortTimers$Side" "flags" "LPortTimers$Flags;") (by decide +kernel)
  have k19 := hts (.fieldLink RX2 19 "PortTimers$Side" "flagOfLine2" "I") (by decide +kernel)
  have k64 := hts (.fieldLink RX2 64 "PortTimers$Side" "line2" "Z") (by decide +kernel)
  have hl := lv_entry ([.ref qS, .int p0]) (n := 5) (Nat.le_of_ble_eq_true rfl)
  rw [lg_entry_eq]
  generalize (lg_sl ([.ref qS, .int p0]) ++ List.replicate (5 - (lg_sl ([.ref qS, .int p0])).length) Slot.unset).toArray = ls at hl ⊢
  have hl : lv_has ls 5 [(0, .ref qS), (1, .int p0)] := hl
  refine lv_aload_n hx hb dX2_moveLine2_0 rfl (lv_at hl 0 rfl) ?_
  refine st_iV (As := []) (rest := []) (wc := [(qS, .inr (2, [.ref qF, .int f1, .int f2, .int pn, .int l1, .int l2, .int ot, .int dr, .int wy, .int hp, .int ue, .int uc]))]) (wr := [(qF, .inr (0, [.int fr, .int fe]))]) (w1 := [(qS, .inr (2, [.ref qF, .int f1, .int f2, .int pn, .int l1, .int l2, .int ot, .int dr, .int wy, .int hp, .int ue, .int uc]))]) (wn := [(qS, .inr (2, [.ref qF, .int f1, .int f2, .int pn, .int l1, .int l2, .int ot, .int dr, .int wy, .int hp, .int ue, .int uc])), (qF, .inr (0, [.int fr, .int fe]))]) (r := wy >>> (1 &&& 31)) ⟨hx, hb, hml, hown, hts⟩ (k_X2_wayOfLine2 l D qS qF f1 f2 pn l1 l2 ot dr wy hp ue uc) (cwV 0 hts gX2_moveLine2_X2_wayOfLine2 rfl rfl rfl (by decide +kernel) ⟨Nat.le_of_ble_eq_true rfl, Nat.le_of_ble_eq_true rfl⟩) tE_v (fun _ _ => trivial) hK hP hD hS hA (fun hPc => va_recv hK hPc (ci := 2) (q0 := 0) rfl rfl) [0] [1] [1, 0] rfl rfl (by decide) rfl rfl rfl hl.1 (Nat.le_of_ble_eq_true rfl) dX2_moveLine2_1 ⟨Nat.zero_le _, Nat.zero_le _⟩ (fun H locs hP hD hS => ?_)
  refine lv_istore_n (lv' := [(2, .int (wy >>> (1 &&& 31))), (0, .ref qS), (1, .int p0)]) hx hb dX2_moveLine2_4 rfl hl (by decide) rfl (fun ls hl => ?_)
  refine lv_iload_n hx hb dX2_moveLine2_5 rfl (lv_at hl 0 rfl) ?_
  refine lv_iconst (v := 2) hx hb dX2_moveLine2_6 (by decide) ?_
  refine lv_icmp_lt (tgt := 14) hx hb dX2_moveLine2_7 (by decide) (fun c_1 => ?_) (fun c_1 => ?_)
  · refine lv_iconst (v := 0) hx hb dX2_moveLine2_14 (by decide) ?_
    refine lv_istore_n (lv' := [(3, .int 0), (2, .int (wy >>> (1 &&& 31))), (0, .ref qS), (1, .int p0)]) hx hb dX2_moveLine2_15 rfl hl (by decide) rfl (fun ls hl => ?_)
    refine lv_iload_n hx hb dX2_moveLine2_16 rfl (lv_at hl 1 rfl) ?_
    refine lv_iconst (v := 4) hx hb dX2_moveLine2_17 (by decide) ?_
    refine lv_icmp_ge (tgt := 38) hx hb dX2_moveLine2_18 (by decide) (fun c_2 => ?_) (fun c_2 => ?_)
    · refine lv_iconst (v := 0) hx hb dX2_moveLine2_38 (by decide) ?_
      refine lv_istore (lv' := [(4, .int 0), (3, .int 0), (2, .int (wy >>> (1 &&& 31))), (0, .ref qS), (1, .int p0)]) hx hb dX2_moveLine2_39 hl (by decide) rfl (fun ls hl => ?_)
      refine lv_aload_n hx hb dX2_moveLine2_41 rfl (lv_at hl 3 rfl) ?_
      refine lv_iload_n hx hb dX2_moveLine2_42 rfl (lv_at hl 4 rfl) ?_
      refine va_put (D := D) (ci := 2) (v := .int p0) (ty := .boolean) (C := RX2) (T := TX2) (N := 12) hx hb hts nX2_moveLine2_X2 tyX2 tyX2_ok nmX2 hown hK hP hD hS 0 rfl rfl 5 (by decide) k64 (fun _ h9 => h9) rfl (by decide +kernel) (by rcases hz with rfl | rfl <;> rfl) (by rcases hz with rfl | rfl <;> rfl) (Nat.le_of_ble_eq_true rfl) dX2_moveLine2_43 (fun H locs hP hD hS => ?_)
      have hP : va_P D vwCl [(qS, .inr (2, [.ref qF, .int f1, .int f2, .int pn, .int l1, .int p0, .int ot, .int dr, .int wy, .int hp, .int ue, .int uc])), (qF, .inr (0, [.int fr, .int fe]))] H := hP
      have hD : va_D A [(qS, .inr (2, [.ref qF, .int f1, .int f2, .int pn, .int l1, .int p0, .int ot, .int dr, .int wy, .int hp, .int ue, .int uc])), (qF, .inr (0, [.int fr, .int fe]))] := hD
      refine lv_iload hx hb dX2_moveLine2_46 (lv_at hl 0 rfl) ?_
      refine lv_if_eq (tgt := 62) hx hb dX2_moveLine2_48 (by decide) (fun _ => ?_) (fun cc => absurd cc (by decide))
      refine lv_iload hx hb dX2_moveLine2_62 (lv_at hl 0 rfl) ?_
      have hw : ([(qS, .inr (2, [.ref qF, .int f1, .int f2, .int pn, .int l1, .int p0, .int ot, .int dr, .int wy, .int hp, .int ue, .int uc])), (qF, .inr (0, [.int (f_X2_moveLine2_fr f2 l2 wy fr p0), .int fe]))] : va_W) = [(qS, .inr (2, [.ref qF, .int f1, .int f2, .int pn, .int l1, .int p0, .int ot, .int dr, .int wy, .int hp, .int ue, .int uc])), (qF, .inr (0, [.int fr, .int fe]))] := by simp only [f_X2_moveLine2_fr, f_X2_moveLine2_ret, if_pos c_1, if_pos c_2]
      exact st_retz hx hb hr hlocks (by decide) (by simp only [f_X2_moveLine2_fr, f_X2_moveLine2_ret, if_pos c_1, if_pos c_2]) (by rw [hw]; exact hP) (by rw [hw]; exact hD) hS dX2_moveLine2_64
    · refine lv_iload_n hx hb dX2_moveLine2_21 rfl (lv_at hl 3 rfl) ?_
      refine lv_aload_n hx hb dX2_moveLine2_22 rfl (lv_at hl 2 rfl) ?_
      refine va_get (D := D) (ci := 2) (v := .int l2) (C := RX2) (T := TX2) (N := 12) hx hb hts nX2_moveLine2_X2 hown hK hP 0 rfl rfl 5 (by decide) k64 (fun _ h9 => h9) rfl dX2_moveLine2_23 ?_
      refine lv_icmp_eq (tgt := 38) hx hb dX2_moveLine2_26 (by decide) (fun c_3 => ?_) (fun c_3 => ?_)
      · refine lv_iconst (v := 0) hx hb dX2_moveLine2_38 (by decide) ?_
        refine lv_istore (lv' := [(4, .int 0), (3, .int 0), (2, .int (wy >>> (1 &&& 31))), (0, .ref qS), (1, .int p0)]) hx hb dX2_moveLine2_39 hl (by decide) rfl (fun ls hl => ?_)
        refine lv_aload_n hx hb dX2_moveLine2_41 rfl (lv_at hl 3 rfl) ?_
        refine lv_iload_n hx hb dX2_moveLine2_42 rfl (lv_at hl 4 rfl) ?_
        refine va_put (D := D) (ci := 2) (v := .int p0) (ty := .boolean) (C := RX2) (T := TX2) (N := 12) hx hb hts nX2_moveLine2_X2 tyX2 tyX2_ok nmX2 hown hK hP hD hS 0 rfl rfl 5 (by decide) k64 (fun _ h9 => h9) rfl (by decide +kernel) (by rcases hz with rfl | rfl <;> rfl) (by rcases hz with rfl | rfl <;> rfl) (Nat.le_of_ble_eq_true rfl) dX2_moveLine2_43 (fun H locs hP hD hS => ?_)
        have hP : va_P D vwCl [(qS, .inr (2, [.ref qF, .int f1, .int f2, .int pn, .int l1, .int p0, .int ot, .int dr, .int wy, .int hp, .int ue, .int uc])), (qF, .inr (0, [.int fr, .int fe]))] H := hP
        have hD : va_D A [(qS, .inr (2, [.ref qF, .int f1, .int f2, .int pn, .int l1, .int p0, .int ot, .int dr, .int wy, .int hp, .int ue, .int uc])), (qF, .inr (0, [.int fr, .int fe]))] := hD
        refine lv_iload hx hb dX2_moveLine2_46 (lv_at hl 0 rfl) ?_
        refine lv_if_eq (tgt := 62) hx hb dX2_moveLine2_48 (by decide) (fun _ => ?_) (fun cc => absurd cc (by decide))
        refine lv_iload hx hb dX2_moveLine2_62 (lv_at hl 0 rfl) ?_
        have hw : ([(qS, .inr (2, [.ref qF, .int f1, .int f2, .int pn, .int l1, .int p0, .int ot, .int dr, .int wy, .int hp, .int ue, .int uc])), (qF, .inr (0, [.int (f_X2_moveLine2_fr f2 l2 wy fr p0), .int fe]))] : va_W) = [(qS, .inr (2, [.ref qF, .int f1, .int f2, .int pn, .int l1, .int p0, .int ot, .int dr, .int wy, .int hp, .int ue, .int uc])), (qF, .inr (0, [.int fr, .int fe]))] := by simp only [f_X2_moveLine2_fr, f_X2_moveLine2_ret, if_pos c_1, if_neg c_2, if_pos c_3]
        exact st_retz hx hb hr hlocks (by decide) (by simp only [f_X2_moveLine2_fr, f_X2_moveLine2_ret, if_pos c_1, if_neg c_2, if_pos c_3]) (by rw [hw]; exact hP) (by rw [hw]; exact hD) hS dX2_moveLine2_64
      · refine lv_iload_n hx hb dX2_moveLine2_29 rfl (lv_at hl 3 rfl) ?_
        refine lv_iload_n hx hb dX2_moveLine2_30 rfl (lv_at hl 0 rfl) ?_
        refine lv_icmp_ne (tgt := 38) hx hb dX2_moveLine2_31 (by decide) (fun c_4 => ?_) (fun c_4 => ?_)
        · refine lv_iconst (v := 0) hx hb dX2_moveLine2_38 (by decide) ?_
          refine lv_istore (lv' := [(4, .int 0), (3, .int 0), (2, .int (wy >>> (1 &&& 31))), (0, .ref qS), (1, .int p0)]) hx hb dX2_moveLine2_39 hl (by decide) rfl (fun ls hl => ?_)
          refine lv_aload_n hx hb dX2_moveLine2_41 rfl (lv_at hl 3 rfl) ?_
          refine lv_iload_n hx hb dX2_moveLine2_42 rfl (lv_at hl 4 rfl) ?_
          refine va_put (D := D) (ci := 2) (v := .int p0) (ty := .boolean) (C := RX2) (T := TX2) (N := 12) hx hb hts nX2_moveLine2_X2 tyX2 tyX2_ok nmX2 hown hK hP hD hS 0 rfl rfl 5 (by decide) k64 (fun _ h9 => h9) rfl (by decide +kernel) (by rcases hz with rfl | rfl <;> rfl) (by rcases hz with rfl | rfl <;> rfl) (Nat.le_of_ble_eq_true rfl) dX2_moveLine2_43 (fun H locs hP hD hS => ?_)
          have hP : va_P D vwCl [(qS, .inr (2, [.ref qF, .int f1, .int f2, .int pn, .int l1, .int p0, .int ot, .int dr, .int wy, .int hp, .int ue, .int uc])), (qF, .inr (0, [.int fr, .int fe]))] H := hP
          have hD : va_D A [(qS, .inr (2, [.ref qF, .int f1, .int f2, .int pn, .int l1, .int p0, .int ot, .int dr, .int wy, .int hp, .int ue, .int uc])), (qF, .inr (0, [.int fr, .int fe]))] := hD
          refine lv_iload hx hb dX2_moveLine2_46 (lv_at hl 0 rfl) ?_
          refine lv_if_eq (tgt := 62) hx hb dX2_moveLine2_48 (by decide) (fun _ => ?_) (fun cc => absurd cc (by decide))
          refine lv_iload hx hb dX2_moveLine2_62 (lv_at hl 0 rfl) ?_
          have hw : ([(qS, .inr (2, [.ref qF, .int f1, .int f2, .int pn, .int l1, .int p0, .int ot, .int dr, .int wy, .int hp, .int ue, .int uc])), (qF, .inr (0, [.int (f_X2_moveLine2_fr f2 l2 wy fr p0), .int fe]))] : va_W) = [(qS, .inr (2, [.ref qF, .int f1, .int f2, .int pn, .int l1, .int p0, .int ot, .int dr, .int wy, .int hp, .int ue, .int uc])), (qF, .inr (0, [.int fr, .int fe]))] := by simp only [f_X2_moveLine2_fr, f_X2_moveLine2_ret, if_pos c_1, if_neg c_2, if_neg c_3, if_neg c_4]
          exact st_retz hx hb hr hlocks (by decide) (by simp only [f_X2_moveLine2_fr, f_X2_moveLine2_ret, if_pos c_1, if_neg c_2, if_neg c_3, if_neg c_4]) (by rw [hw]; exact hP) (by rw [hw]; exact hD) hS dX2_moveLine2_64
        · refine lv_iconst (v := 1) hx hb dX2_moveLine2_34 (by decide) ?_
          refine lv_goto (tgt := 39) hx hb dX2_moveLine2_35 (by decide) ?_
          refine lv_istore (lv' := [(4, .int 1), (3, .int 0), (2, .int (wy >>> (1 &&& 31))), (0, .ref qS), (1, .int p0)]) hx hb dX2_moveLine2_39 hl (by decide) rfl (fun ls hl => ?_)
          refine lv_aload_n hx hb dX2_moveLine2_41 rfl (lv_at hl 3 rfl) ?_
          refine lv_iload_n hx hb dX2_moveLine2_42 rfl (lv_at hl 4 rfl) ?_
          refine va_put (D := D) (ci := 2) (v := .int p0) (ty := .boolean) (C := RX2) (T := TX2) (N := 12) hx hb hts nX2_moveLine2_X2 tyX2 tyX2_ok nmX2 hown hK hP hD hS 0 rfl rfl 5 (by decide) k64 (fun _ h9 => h9) rfl (by decide +kernel) (by rcases hz with rfl | rfl <;> rfl) (by rcases hz with rfl | rfl <;> rfl) (Nat.le_of_ble_eq_true rfl) dX2_moveLine2_43 (fun H locs hP hD hS => ?_)
          have hP : va_P D vwCl [(qS, .inr (2, [.ref qF, .int f1, .int f2, .int pn, .int l1, .int p0, .int ot, .int dr, .int wy, .int hp, .int ue, .int uc])), (qF, .inr (0, [.int fr, .int fe]))] H := hP
          have hD : va_D A [(qS, .inr (2, [.ref qF, .int f1, .int f2, .int pn, .int l1, .int p0, .int ot, .int dr, .int wy, .int hp, .int ue, .int uc])), (qF, .inr (0, [.int fr, .int fe]))] := hD
          refine lv_iload hx hb dX2_moveLine2_46 (lv_at hl 0 rfl) ?_
          refine lv_if_eq (tgt := 62) hx hb dX2_moveLine2_48 (by decide) (fun cc => absurd cc (by decide)) (fun _ => ?_)
          refine lv_aload_n hx hb dX2_moveLine2_51 rfl (lv_at hl 3 rfl) ?_
          refine va_get (D := D) (ci := 2) (v := .ref qF) (C := RX2) (T := TX2) (N := 12) hx hb hts nX2_moveLine2_X2 hown hK hP 0 rfl rfl 0 (by decide) k9 (fun _ h9 => h9) rfl dX2_moveLine2_52 ?_
          refine lv_aload_n hx hb dX2_moveLine2_55 rfl (lv_at hl 3 rfl) ?_
          refine va_get (D := D) (ci := 2) (v := .int f2) (C := RX2) (T := TX2) (N := 12) hx hb hts nX2_moveLine2_X2 hown hK hP 0 rfl rfl 2 (by decide) k19 (fun _ h9 => h9) rfl dX2_moveLine2_56 ?_
          refine st_vV (As := [.int f2]) (rest := []) (wc := [(qF, .inr (0, [.int fr, .int fe]))]) (wr := [(qS, .inr (2, [.ref qF, .int f1, .int f2, .int pn, .int l1, .int p0, .int ot, .int dr, .int wy, .int hp, .int ue, .int uc]))]) (w1 := [(qF, .inr (0, [.int (fr ||| f2), .int fe]))]) (wn := [(qS, .inr (2, [.ref qF, .int f1, .int f2, .int pn, .int l1, .int p0, .int ot, .int dr, .int wy, .int hp, .int ue, .int uc])), (qF, .inr (0, [.int (fr ||| f2), .int fe]))]) ⟨hx, hb, hml, hown, hts⟩ (k_X0_raise l D qF fr fe f2) (cwV 1 hts gX2_moveLine2_X0_raise rfl rfl rfl (by decide +kernel) ⟨Nat.le_of_ble_eq_true rfl, Nat.le_of_ble_eq_true rfl⟩) tE_v (fun _ _ => trivial) hK hP hD hS hA (fun hPc => va_recv hK hPc (ci := 0) (q0 := 0) rfl rfl) [1] [0] [0, 1] rfl rfl (by decide) rfl rfl rfl hl.1 (Nat.le_of_ble_eq_true rfl) dX2_moveLine2_59 ⟨Nat.zero_le _, Nat.zero_le _⟩ (fun H locs hP hD hS => ?_)
          refine lv_iload hx hb dX2_moveLine2_62 (lv_at hl 0 rfl) ?_
          have hw : ([(qS, .inr (2, [.ref qF, .int f1, .int f2, .int pn, .int l1, .int p0, .int ot, .int dr, .int wy, .int hp, .int ue, .int uc])), (qF, .inr (0, [.int (f_X2_moveLine2_fr f2 l2 wy fr p0), .int fe]))] : va_W) = [(qS, .inr (2, [.ref qF, .int f1, .int f2, .int pn, .int l1, .int p0, .int ot, .int dr, .int wy, .int hp, .int ue, .int uc])), (qF, .inr (0, [.int (fr ||| f2), .int fe]))] := by simp only [f_X2_moveLine2_fr, f_X2_moveLine2_ret, if_pos c_1, if_neg c_2, if_neg c_3, if_pos c_4]
          exact st_retz hx hb hr hlocks (by decide) (by simp only [f_X2_moveLine2_fr, f_X2_moveLine2_ret, if_pos c_1, if_neg c_2, if_neg c_3, if_pos c_4]) (by rw [hw]; exact hP) (by rw [hw]; exact hD) hS dX2_moveLine2_64
  · refine lv_iconst (v := 1) hx hb dX2_moveLine2_10 (by decide) ?_
    refine lv_goto (tgt := 15) hx hb dX2_moveLine2_11 (by decide) ?_
    refine lv_istore_n (lv' := [(3, .int 1), (2, .int (wy >>> (1 &&& 31))), (0, .ref qS), (1, .int p0)]) hx hb dX2_moveLine2_15 rfl hl (by decide) rfl (fun ls hl => ?_)
    refine lv_iload_n hx hb dX2_moveLine2_16 rfl (lv_at hl 1 rfl) ?_
    refine lv_iconst (v := 4) hx hb dX2_moveLine2_17 (by decide) ?_
    refine lv_icmp_ge (tgt := 38) hx hb dX2_moveLine2_18 (by decide) (fun c_5 => ?_) (fun c_5 => ?_)
    · refine lv_iconst (v := 0) hx hb dX2_moveLine2_38 (by decide) ?_
      refine lv_istore (lv' := [(4, .int 0), (3, .int 1), (2, .int (wy >>> (1 &&& 31))), (0, .ref qS), (1, .int p0)]) hx hb dX2_moveLine2_39 hl (by decide) rfl (fun ls hl => ?_)
      refine lv_aload_n hx hb dX2_moveLine2_41 rfl (lv_at hl 3 rfl) ?_
      refine lv_iload_n hx hb dX2_moveLine2_42 rfl (lv_at hl 4 rfl) ?_
      refine va_put (D := D) (ci := 2) (v := .int p0) (ty := .boolean) (C := RX2) (T := TX2) (N := 12) hx hb hts nX2_moveLine2_X2 tyX2 tyX2_ok nmX2 hown hK hP hD hS 0 rfl rfl 5 (by decide) k64 (fun _ h9 => h9) rfl (by decide +kernel) (by rcases hz with rfl | rfl <;> rfl) (by rcases hz with rfl | rfl <;> rfl) (Nat.le_of_ble_eq_true rfl) dX2_moveLine2_43 (fun H locs hP hD hS => ?_)
      have hP : va_P D vwCl [(qS, .inr (2, [.ref qF, .int f1, .int f2, .int pn, .int l1, .int p0, .int ot, .int dr, .int wy, .int hp, .int ue, .int uc])), (qF, .inr (0, [.int fr, .int fe]))] H := hP
      have hD : va_D A [(qS, .inr (2, [.ref qF, .int f1, .int f2, .int pn, .int l1, .int p0, .int ot, .int dr, .int wy, .int hp, .int ue, .int uc])), (qF, .inr (0, [.int fr, .int fe]))] := hD
      refine lv_iload hx hb dX2_moveLine2_46 (lv_at hl 0 rfl) ?_
      refine lv_if_eq (tgt := 62) hx hb dX2_moveLine2_48 (by decide) (fun _ => ?_) (fun cc => absurd cc (by decide))
      refine lv_iload hx hb dX2_moveLine2_62 (lv_at hl 0 rfl) ?_
      have hw : ([(qS, .inr (2, [.ref qF, .int f1, .int f2, .int pn, .int l1, .int p0, .int ot, .int dr, .int wy, .int hp, .int ue, .int uc])), (qF, .inr (0, [.int (f_X2_moveLine2_fr f2 l2 wy fr p0), .int fe]))] : va_W) = [(qS, .inr (2, [.ref qF, .int f1, .int f2, .int pn, .int l1, .int p0, .int ot, .int dr, .int wy, .int hp, .int ue, .int uc])), (qF, .inr (0, [.int fr, .int fe]))] := by simp only [f_X2_moveLine2_fr, f_X2_moveLine2_ret, if_neg c_1, if_pos c_5]
      exact st_retz hx hb hr hlocks (by decide) (by simp only [f_X2_moveLine2_fr, f_X2_moveLine2_ret, if_neg c_1, if_pos c_5]) (by rw [hw]; exact hP) (by rw [hw]; exact hD) hS dX2_moveLine2_64
    · refine lv_iload_n hx hb dX2_moveLine2_21 rfl (lv_at hl 3 rfl) ?_
      refine lv_aload_n hx hb dX2_moveLine2_22 rfl (lv_at hl 2 rfl) ?_
      refine va_get (D := D) (ci := 2) (v := .int l2) (C := RX2) (T := TX2) (N := 12) hx hb hts nX2_moveLine2_X2 hown hK hP 0 rfl rfl 5 (by decide) k64 (fun _ h9 => h9) rfl dX2_moveLine2_23 ?_
      refine lv_icmp_eq (tgt := 38) hx hb dX2_moveLine2_26 (by decide) (fun c_6 => ?_) (fun c_6 => ?_)
      · refine lv_iconst (v := 0) hx hb dX2_moveLine2_38 (by decide) ?_
        refine lv_istore (lv' := [(4, .int 0), (3, .int 1), (2, .int (wy >>> (1 &&& 31))), (0, .ref qS), (1, .int p0)]) hx hb dX2_moveLine2_39 hl (by decide) rfl (fun ls hl => ?_)
        refine lv_aload_n hx hb dX2_moveLine2_41 rfl (lv_at hl 3 rfl) ?_
        refine lv_iload_n hx hb dX2_moveLine2_42 rfl (lv_at hl 4 rfl) ?_
        refine va_put (D := D) (ci := 2) (v := .int p0) (ty := .boolean) (C := RX2) (T := TX2) (N := 12) hx hb hts nX2_moveLine2_X2 tyX2 tyX2_ok nmX2 hown hK hP hD hS 0 rfl rfl 5 (by decide) k64 (fun _ h9 => h9) rfl (by decide +kernel) (by rcases hz with rfl | rfl <;> rfl) (by rcases hz with rfl | rfl <;> rfl) (Nat.le_of_ble_eq_true rfl) dX2_moveLine2_43 (fun H locs hP hD hS => ?_)
        have hP : va_P D vwCl [(qS, .inr (2, [.ref qF, .int f1, .int f2, .int pn, .int l1, .int p0, .int ot, .int dr, .int wy, .int hp, .int ue, .int uc])), (qF, .inr (0, [.int fr, .int fe]))] H := hP
        have hD : va_D A [(qS, .inr (2, [.ref qF, .int f1, .int f2, .int pn, .int l1, .int p0, .int ot, .int dr, .int wy, .int hp, .int ue, .int uc])), (qF, .inr (0, [.int fr, .int fe]))] := hD
        refine lv_iload hx hb dX2_moveLine2_46 (lv_at hl 0 rfl) ?_
        refine lv_if_eq (tgt := 62) hx hb dX2_moveLine2_48 (by decide) (fun _ => ?_) (fun cc => absurd cc (by decide))
        refine lv_iload hx hb dX2_moveLine2_62 (lv_at hl 0 rfl) ?_
        have hw : ([(qS, .inr (2, [.ref qF, .int f1, .int f2, .int pn, .int l1, .int p0, .int ot, .int dr, .int wy, .int hp, .int ue, .int uc])), (qF, .inr (0, [.int (f_X2_moveLine2_fr f2 l2 wy fr p0), .int fe]))] : va_W) = [(qS, .inr (2, [.ref qF, .int f1, .int f2, .int pn, .int l1, .int p0, .int ot, .int dr, .int wy, .int hp, .int ue, .int uc])), (qF, .inr (0, [.int fr, .int fe]))] := by simp only [f_X2_moveLine2_fr, f_X2_moveLine2_ret, if_neg c_1, if_neg c_5, if_pos c_6]
        exact st_retz hx hb hr hlocks (by decide) (by simp only [f_X2_moveLine2_fr, f_X2_moveLine2_ret, if_neg c_1, if_neg c_5, if_pos c_6]) (by rw [hw]; exact hP) (by rw [hw]; exact hD) hS dX2_moveLine2_64
      · refine lv_iload_n hx hb dX2_moveLine2_29 rfl (lv_at hl 3 rfl) ?_
        refine lv_iload_n hx hb dX2_moveLine2_30 rfl (lv_at hl 0 rfl) ?_
        refine lv_icmp_ne (tgt := 38) hx hb dX2_moveLine2_31 (by decide) (fun c_7 => ?_) (fun c_7 => ?_)
        · refine lv_iconst (v := 0) hx hb dX2_moveLine2_38 (by decide) ?_
          refine lv_istore (lv' := [(4, .int 0), (3, .int 1), (2, .int (wy >>> (1 &&& 31))), (0, .ref qS), (1, .int p0)]) hx hb dX2_moveLine2_39 hl (by decide) rfl (fun ls hl => ?_)
          refine lv_aload_n hx hb dX2_moveLine2_41 rfl (lv_at hl 3 rfl) ?_
          refine lv_iload_n hx hb dX2_moveLine2_42 rfl (lv_at hl 4 rfl) ?_
          refine va_put (D := D) (ci := 2) (v := .int p0) (ty := .boolean) (C := RX2) (T := TX2) (N := 12) hx hb hts nX2_moveLine2_X2 tyX2 tyX2_ok nmX2 hown hK hP hD hS 0 rfl rfl 5 (by decide) k64 (fun _ h9 => h9) rfl (by decide +kernel) (by rcases hz with rfl | rfl <;> rfl) (by rcases hz with rfl | rfl <;> rfl) (Nat.le_of_ble_eq_true rfl) dX2_moveLine2_43 (fun H locs hP hD hS => ?_)
          have hP : va_P D vwCl [(qS, .inr (2, [.ref qF, .int f1, .int f2, .int pn, .int l1, .int p0, .int ot, .int dr, .int wy, .int hp, .int ue, .int uc])), (qF, .inr (0, [.int fr, .int fe]))] H := hP
          have hD : va_D A [(qS, .inr (2, [.ref qF, .int f1, .int f2, .int pn, .int l1, .int p0, .int ot, .int dr, .int wy, .int hp, .int ue, .int uc])), (qF, .inr (0, [.int fr, .int fe]))] := hD
          refine lv_iload hx hb dX2_moveLine2_46 (lv_at hl 0 rfl) ?_
          refine lv_if_eq (tgt := 62) hx hb dX2_moveLine2_48 (by decide) (fun _ => ?_) (fun cc => absurd cc (by decide))
          refine lv_iload hx hb dX2_moveLine2_62 (lv_at hl 0 rfl) ?_
          have hw : ([(qS, .inr (2, [.ref qF, .int f1, .int f2, .int pn, .int l1, .int p0, .int ot, .int dr, .int wy, .int hp, .int ue, .int uc])), (qF, .inr (0, [.int (f_X2_moveLine2_fr f2 l2 wy fr p0), .int fe]))] : va_W) = [(qS, .inr (2, [.ref qF, .int f1, .int f2, .int pn, .int l1, .int p0, .int ot, .int dr, .int wy, .int hp, .int ue, .int uc])), (qF, .inr (0, [.int fr, .int fe]))] := by simp only [f_X2_moveLine2_fr, f_X2_moveLine2_ret, if_neg c_1, if_neg c_5, if_neg c_6, if_neg c_7]
          exact st_retz hx hb hr hlocks (by decide) (by simp only [f_X2_moveLine2_fr, f_X2_moveLine2_ret, if_neg c_1, if_neg c_5, if_neg c_6, if_neg c_7]) (by rw [hw]; exact hP) (by rw [hw]; exact hD) hS dX2_moveLine2_64
        · refine lv_iconst (v := 1) hx hb dX2_moveLine2_34 (by decide) ?_
          refine lv_goto (tgt := 39) hx hb dX2_moveLine2_35 (by decide) ?_
          refine lv_istore (lv' := [(4, .int 1), (3, .int 1), (2, .int (wy >>> (1 &&& 31))), (0, .ref qS), (1, .int p0)]) hx hb dX2_moveLine2_39 hl (by decide) rfl (fun ls hl => ?_)
          refine lv_aload_n hx hb dX2_moveLine2_41 rfl (lv_at hl 3 rfl) ?_
          refine lv_iload_n hx hb dX2_moveLine2_42 rfl (lv_at hl 4 rfl) ?_
          refine va_put (D := D) (ci := 2) (v := .int p0) (ty := .boolean) (C := RX2) (T := TX2) (N := 12) hx hb hts nX2_moveLine2_X2 tyX2 tyX2_ok nmX2 hown hK hP hD hS 0 rfl rfl 5 (by decide) k64 (fun _ h9 => h9) rfl (by decide +kernel) (by rcases hz with rfl | rfl <;> rfl) (by rcases hz with rfl | rfl <;> rfl) (Nat.le_of_ble_eq_true rfl) dX2_moveLine2_43 (fun H locs hP hD hS => ?_)
          have hP : va_P D vwCl [(qS, .inr (2, [.ref qF, .int f1, .int f2, .int pn, .int l1, .int p0, .int ot, .int dr, .int wy, .int hp, .int ue, .int uc])), (qF, .inr (0, [.int fr, .int fe]))] H := hP
          have hD : va_D A [(qS, .inr (2, [.ref qF, .int f1, .int f2, .int pn, .int l1, .int p0, .int ot, .int dr, .int wy, .int hp, .int ue, .int uc])), (qF, .inr (0, [.int fr, .int fe]))] := hD
          refine lv_iload hx hb dX2_moveLine2_46 (lv_at hl 0 rfl) ?_
          refine lv_if_eq (tgt := 62) hx hb dX2_moveLine2_48 (by decide) (fun cc => absurd cc (by decide)) (fun _ => ?_)
          refine lv_aload_n hx hb dX2_moveLine2_51 rfl (lv_at hl 3 rfl) ?_
          refine va_get (D := D) (ci := 2) (v := .ref qF) (C := RX2) (T := TX2) (N := 12) hx hb hts nX2_moveLine2_X2 hown hK hP 0 rfl rfl 0 (by decide) k9 (fun _ h9 => h9) rfl dX2_moveLine2_52 ?_
          refine lv_aload_n hx hb dX2_moveLine2_55 rfl (lv_at hl 3 rfl) ?_
          refine va_get (D := D) (ci := 2) (v := .int f2) (C := RX2) (T := TX2) (N := 12) hx hb hts nX2_moveLine2_X2 hown hK hP 0 rfl rfl 2 (by decide) k19 (fun _ h9 => h9) rfl dX2_moveLine2_56 ?_
          refine st_vV (As := [.int f2]) (rest := []) (wc := [(qF, .inr (0, [.int fr, .int fe]))]) (wr := [(qS, .inr (2, [.ref qF, .int f1, .int f2, .int pn, .int l1, .int p0, .int ot, .int dr, .int wy, .int hp, .int ue, .int uc]))]) (w1 := [(qF, .inr (0, [.int (fr ||| f2), .int fe]))]) (wn := [(qS, .inr (2, [.ref qF, .int f1, .int f2, .int pn, .int l1, .int p0, .int ot, .int dr, .int wy, .int hp, .int ue, .int uc])), (qF, .inr (0, [.int (fr ||| f2), .int fe]))]) ⟨hx, hb, hml, hown, hts⟩ (k_X0_raise l D qF fr fe f2) (cwV 1 hts gX2_moveLine2_X0_raise rfl rfl rfl (by decide +kernel) ⟨Nat.le_of_ble_eq_true rfl, Nat.le_of_ble_eq_true rfl⟩) tE_v (fun _ _ => trivial) hK hP hD hS hA (fun hPc => va_recv hK hPc (ci := 0) (q0 := 0) rfl rfl) [1] [0] [0, 1] rfl rfl (by decide) rfl rfl rfl hl.1 (Nat.le_of_ble_eq_true rfl) dX2_moveLine2_59 ⟨Nat.zero_le _, Nat.zero_le _⟩ (fun H locs hP hD hS => ?_)
          refine lv_iload hx hb dX2_moveLine2_62 (lv_at hl 0 rfl) ?_
          have hw : ([(qS, .inr (2, [.ref qF, .int f1, .int f2, .int pn, .int l1, .int p0, .int ot, .int dr, .int wy, .int hp, .int ue, .int uc])), (qF, .inr (0, [.int (f_X2_moveLine2_fr f2 l2 wy fr p0), .int fe]))] : va_W) = [(qS, .inr (2, [.ref qF, .int f1, .int f2, .int pn, .int l1, .int p0, .int ot, .int dr, .int wy, .int hp, .int ue, .int uc])), (qF, .inr (0, [.int (fr ||| f2), .int fe]))] := by simp only [f_X2_moveLine2_fr, f_X2_moveLine2_ret, if_neg c_1, if_neg c_5, if_neg c_6, if_pos c_7]
          exact st_retz hx hb hr hlocks (by decide) (by simp only [f_X2_moveLine2_fr, f_X2_moveLine2_ret, if_neg c_1, if_neg c_5, if_neg c_6, if_pos c_7]) (by rw [hw]; exact hP) (by rw [hw]; exact hD) hS dX2_moveLine2_64
def f_X2_line2Gives_ret (wy ue uc : Int32) : Int32 := if 4 ≤ (wy >>> (1 &&& 31)) then (if (wy >>> (1 &&& 31)) = 4 then (if ue = 0 then (if (wy >>> (1 &&& 31)) = 5 then (if uc = 0 then (if (wy >>> (1 &&& 31)) = 6 then 0 else 1) else 0) else (if (wy >>> (1 &&& 31)) = 6 then 0 else 1)) else 0) else (if (wy >>> (1 &&& 31)) = 5 then (if uc = 0 then (if (wy >>> (1 &&& 31)) = 6 then 0 else 1) else 0) else (if (wy >>> (1 &&& 31)) = 6 then 0 else 1))) else 2
theorem nX2_line2Gives_X2 : ∀ w ∈ wsX20, w ∈ wsX2_line2Gives := fun w h => List.mem_cons_of_mem _ (List.mem_append_right _ h)
set_option maxHeartbeats 4000000 in
set_option maxRecDepth 100000 in
theorem k_X2_line2Gives (l : Launch) (D : va_G) (qS qF : Nat) (f1 f2 pn l1 l2 ot dr wy hp ue uc : Int32) : stI l yX2_line2Gives wsX2_line2Gives ({ frames := 1, cells := 0, slots := 0, locals := 20 } : Room) D [] tE [.ref qS] [(qS, .inr (2, [.ref qF, .int f1, .int f2, .int pn, .int l1, .int l2, .int ot, .int dr, .int wy, .int hp, .int ue, .int uc]))] [(qS, .inr (2, [.ref qF, .int f1, .int f2, .int pn, .int l1, .int l2, .int ot, .int dr, .int wy, .int hp, .int ue, .int uc]))] (f_X2_line2Gives_ret wy ue uc) := by
  intro sz
  refine Met.ofW (cc := cX2_line2Gives) (maxL := 3) (ret := (some .int)) (by decide) rfl ?_
  intro p e s m args below meth c s₁ B hml hv
  obtain ⟨rfl, rfl, hP, hK, hD, hE⟩ := st_open hv
  have hx := B.exec
  have hb := B.bytes
  have hr := B.returns
  have hts := atoms_spec (ws := wsX2_line2Gives) B.pre
  have hown : s.vm.findClass RX2 = some m.cls := findClass_of_methodNamed B.named
  have hlocks := B.notSynchronized
  generalize hAe : va_A [(qS, .inr (2, [.ref qF, .int f1, .int f2, .int pn, .int l1, .int l2, .int ot, .int dr, .int wy, .int hp, .int ue, .int uc]))] s.heap.size = A at hD ⊢
  have hA : ∀ q : Nat, s.heap.size ≤ q → A q := fun q h => by rw [← hAe]; exact Or.inr h
  have hS : va_S A s.heap s.heap [] := va_S.rf
  have k34 := hts (.fieldLink RX2 34 "PortTimers$Side" "lowUntilEdge" "Z") (by decide +kernel)
  have k38 := hts (.fieldLink RX2 38 "PortTimers$Side" "lowUntilCycle" "Z") (by decide +kernel)
  have hl := lv_entry ([.ref qS]) (n := 3) (Nat.le_of_ble_eq_true rfl)
  rw [lg_entry_eq]
  generalize (lg_sl ([.ref qS]) ++ List.replicate (3 - (lg_sl ([.ref qS])).length) Slot.unset).toArray = ls at hl ⊢
  have hl : lv_has ls 3 [(0, .ref qS)] := hl
  refine lv_aload_n hx hb dX2_line2Gives_0 rfl (lv_at hl 0 rfl) ?_
  refine st_iV (As := []) (rest := []) (wc := [(qS, .inr (2, [.ref qF, .int f1, .int f2, .int pn, .int l1, .int l2, .int ot, .int dr, .int wy, .int hp, .int ue, .int uc]))]) (wr := []) (w1 := [(qS, .inr (2, [.ref qF, .int f1, .int f2, .int pn, .int l1, .int l2, .int ot, .int dr, .int wy, .int hp, .int ue, .int uc]))]) (wn := [(qS, .inr (2, [.ref qF, .int f1, .int f2, .int pn, .int l1, .int l2, .int ot, .int dr, .int wy, .int hp, .int ue, .int uc]))]) (r := wy >>> (1 &&& 31)) ⟨hx, hb, hml, hown, hts⟩ (k_X2_wayOfLine2 l D qS qF f1 f2 pn l1 l2 ot dr wy hp ue uc) (cwV 0 hts gX2_line2Gives_X2_wayOfLine2 rfl rfl rfl (by decide +kernel) ⟨Nat.le_of_ble_eq_true rfl, Nat.le_of_ble_eq_true rfl⟩) tE_v (fun _ _ => trivial) hK hP hD hS hA (fun hPc => va_recv hK hPc (ci := 2) (q0 := 0) rfl rfl) [0] [] [0] rfl rfl (by decide) rfl rfl rfl hl.1 (Nat.le_of_ble_eq_true rfl) dX2_line2Gives_1 ⟨Nat.zero_le _, Nat.zero_le _⟩ (fun H locs hP hD hS => ?_)
  refine lv_istore_n (lv' := [(1, .int (wy >>> (1 &&& 31))), (0, .ref qS)]) hx hb dX2_line2Gives_4 rfl hl (by decide) rfl (fun ls hl => ?_)
  refine lv_iload_n hx hb dX2_line2Gives_5 rfl (lv_at hl 0 rfl) ?_
  refine lv_iconst (v := 4) hx hb dX2_line2Gives_6 (by decide) ?_
  refine lv_icmp_ge (tgt := 12) hx hb dX2_line2Gives_7 (by decide) (fun c_1 => ?_) (fun c_1 => ?_)
  · refine lv_iload_n hx hb dX2_line2Gives_12 rfl (lv_at hl 0 rfl) ?_
    refine lv_iconst (v := 4) hx hb dX2_line2Gives_13 (by decide) ?_
    refine lv_icmp_ne (tgt := 24) hx hb dX2_line2Gives_14 (by decide) (fun c_2 => ?_) (fun c_2 => ?_)
    · refine lv_iload_n hx hb dX2_line2Gives_24 rfl (lv_at hl 0 rfl) ?_
      refine lv_iconst (v := 5) hx hb dX2_line2Gives_25 (by decide) ?_
      refine lv_icmp_ne (tgt := 36) hx hb dX2_line2Gives_26 (by decide) (fun c_3 => ?_) (fun c_3 => ?_)
      · refine lv_iload_n hx hb dX2_line2Gives_36 rfl (lv_at hl 0 rfl) ?_
        refine lv_bipush (v := 6) hx hb dX2_line2Gives_37 (by decide) ?_
        refine lv_icmp_ne (tgt := 46) hx hb dX2_line2Gives_39 (by decide) (fun c_4 => ?_) (fun c_4 => ?_)
        · refine lv_iconst (v := 0) hx hb dX2_line2Gives_46 (by decide) ?_
          refine lv_istore_n (lv' := [(2, .int 0), (1, .int (wy >>> (1 &&& 31))), (0, .ref qS)]) hx hb dX2_line2Gives_47 rfl hl (by decide) rfl (fun ls hl => ?_)
          refine lv_iload_n hx hb dX2_line2Gives_48 rfl (lv_at hl 0 rfl) ?_
          refine lv_if_eq (tgt := 56) hx hb dX2_line2Gives_49 (by decide) (fun _ => ?_) (fun cc => absurd cc (by decide))
          refine lv_iconst (v := 1) hx hb dX2_line2Gives_56 (by decide) ?_
          exact st_reti hx hb hr hlocks (by simp only [f_X2_line2Gives_ret, if_pos c_1, if_neg c_2, if_neg c_3, if_neg c_4]) hP hD hS dX2_line2Gives_57
        · refine lv_iconst (v := 1) hx hb dX2_line2Gives_42 (by decide) ?_
          refine lv_goto (tgt := 47) hx hb dX2_line2Gives_43 (by decide) ?_
          refine lv_istore_n (lv' := [(2, .int 1), (1, .int (wy >>> (1 &&& 31))), (0, .ref qS)]) hx hb dX2_line2Gives_47 rfl hl (by decide) rfl (fun ls hl => ?_)
          refine lv_iload_n hx hb dX2_line2Gives_48 rfl (lv_at hl 0 rfl) ?_
          refine lv_if_eq (tgt := 56) hx hb dX2_line2Gives_49 (by decide) (fun cc => absurd cc (by decide)) (fun _ => ?_)
          refine lv_iconst (v := 0) hx hb dX2_line2Gives_52 (by decide) ?_
          refine lv_goto (tgt := 57) hx hb dX2_line2Gives_53 (by decide) ?_
          exact st_reti hx hb hr hlocks (by simp only [f_X2_line2Gives_ret, if_pos c_1, if_neg c_2, if_neg c_3, if_pos c_4]) hP hD hS dX2_line2Gives_57
      · refine lv_aload_n hx hb dX2_line2Gives_29 rfl (lv_at hl 1 rfl) ?_
        refine va_get (D := D) (ci := 2) (v := .int uc) (C := RX2) (T := TX2) (N := 12) hx hb hts nX2_line2Gives_X2 hown hK hP 0 rfl rfl 11 (by decide) k38 (fun _ h9 => h9) rfl dX2_line2Gives_30 ?_
        refine lv_if_ne (tgt := 42) hx hb dX2_line2Gives_33 (by decide) (fun c_5 => ?_) (fun c_5 => ?_)
        · refine lv_iconst (v := 1) hx hb dX2_line2Gives_42 (by decide) ?_
          refine lv_goto (tgt := 47) hx hb dX2_line2Gives_43 (by decide) ?_
          refine lv_istore_n (lv' := [(2, .int 1), (1, .int (wy >>> (1 &&& 31))), (0, .ref qS)]) hx hb dX2_line2Gives_47 rfl hl (by decide) rfl (fun ls hl => ?_)
          refine lv_iload_n hx hb dX2_line2Gives_48 rfl (lv_at hl 0 rfl) ?_
          refine lv_if_eq (tgt := 56) hx hb dX2_line2Gives_49 (by decide) (fun cc => absurd cc (by decide)) (fun _ => ?_)
          refine lv_iconst (v := 0) hx hb dX2_line2Gives_52 (by decide) ?_
          refine lv_goto (tgt := 57) hx hb dX2_line2Gives_53 (by decide) ?_
          exact st_reti hx hb hr hlocks (by simp only [f_X2_line2Gives_ret, if_pos c_1, if_neg c_2, if_pos c_3, if_neg c_5]) hP hD hS dX2_line2Gives_57
        · refine lv_iload_n hx hb dX2_line2Gives_36 rfl (lv_at hl 0 rfl) ?_
          refine lv_bipush (v := 6) hx hb dX2_line2Gives_37 (by decide) ?_
          refine lv_icmp_ne (tgt := 46) hx hb dX2_line2Gives_39 (by decide) (fun c_6 => ?_) (fun c_6 => ?_)
          · refine lv_iconst (v := 0) hx hb dX2_line2Gives_46 (by decide) ?_
            refine lv_istore_n (lv' := [(2, .int 0), (1, .int (wy >>> (1 &&& 31))), (0, .ref qS)]) hx hb dX2_line2Gives_47 rfl hl (by decide) rfl (fun ls hl => ?_)
            refine lv_iload_n hx hb dX2_line2Gives_48 rfl (lv_at hl 0 rfl) ?_
            refine lv_if_eq (tgt := 56) hx hb dX2_line2Gives_49 (by decide) (fun _ => ?_) (fun cc => absurd cc (by decide))
            refine lv_iconst (v := 1) hx hb dX2_line2Gives_56 (by decide) ?_
            exact st_reti hx hb hr hlocks (by simp only [f_X2_line2Gives_ret, if_pos c_1, if_neg c_2, if_pos c_3, if_pos c_5, if_neg c_6]) hP hD hS dX2_line2Gives_57
          · refine lv_iconst (v := 1) hx hb dX2_line2Gives_42 (by decide) ?_
            refine lv_goto (tgt := 47) hx hb dX2_line2Gives_43 (by decide) ?_
            refine lv_istore_n (lv' := [(2, .int 1), (1, .int (wy >>> (1 &&& 31))), (0, .ref qS)]) hx hb dX2_line2Gives_47 rfl hl (by decide) rfl (fun ls hl => ?_)
            refine lv_iload_n hx hb dX2_line2Gives_48 rfl (lv_at hl 0 rfl) ?_
            refine lv_if_eq (tgt := 56) hx hb dX2_line2Gives_49 (by decide) (fun cc => absurd cc (by decide)) (fun _ => ?_)
            refine lv_iconst (v := 0) hx hb dX2_line2Gives_52 (by decide) ?_
            refine lv_goto (tgt := 57) hx hb dX2_line2Gives_53 (by decide) ?_
            exact st_reti hx hb hr hlocks (by simp only [f_X2_line2Gives_ret, if_pos c_1, if_neg c_2, if_pos c_3, if_pos c_5, if_pos c_6]) hP hD hS dX2_line2Gives_57
    · refine lv_aload_n hx hb dX2_line2Gives_17 rfl (lv_at hl 1 rfl) ?_
      refine va_get (D := D) (ci := 2) (v := .int ue) (C := RX2) (T := TX2) (N := 12) hx hb hts nX2_line2Gives_X2 hown hK hP 0 rfl rfl 10 (by decide) k34 (fun _ h9 => h9) rfl dX2_line2Gives_18 ?_
      refine lv_if_ne (tgt := 42) hx hb dX2_line2Gives_21 (by decide) (fun c_7 => ?_) (fun c_7 => ?_)
      · refine lv_iconst (v := 1) hx hb dX2_line2Gives_42 (by decide) ?_
        refine lv_goto (tgt := 47) hx hb dX2_line2Gives_43 (by decide) ?_
        refine lv_istore_n (lv' := [(2, .int 1), (1, .int (wy >>> (1 &&& 31))), (0, .ref qS)]) hx hb dX2_line2Gives_47 rfl hl (by decide) rfl (fun ls hl => ?_)
        refine lv_iload_n hx hb dX2_line2Gives_48 rfl (lv_at hl 0 rfl) ?_
        refine lv_if_eq (tgt := 56) hx hb dX2_line2Gives_49 (by decide) (fun cc => absurd cc (by decide)) (fun _ => ?_)
        refine lv_iconst (v := 0) hx hb dX2_line2Gives_52 (by decide) ?_
        refine lv_goto (tgt := 57) hx hb dX2_line2Gives_53 (by decide) ?_
        exact st_reti hx hb hr hlocks (by simp only [f_X2_line2Gives_ret, if_pos c_1, if_pos c_2, if_neg c_7]) hP hD hS dX2_line2Gives_57
      · refine lv_iload_n hx hb dX2_line2Gives_24 rfl (lv_at hl 0 rfl) ?_
        refine lv_iconst (v := 5) hx hb dX2_line2Gives_25 (by decide) ?_
        refine lv_icmp_ne (tgt := 36) hx hb dX2_line2Gives_26 (by decide) (fun c_8 => ?_) (fun c_8 => ?_)
        · refine lv_iload_n hx hb dX2_line2Gives_36 rfl (lv_at hl 0 rfl) ?_
          refine lv_bipush (v := 6) hx hb dX2_line2Gives_37 (by decide) ?_
          refine lv_icmp_ne (tgt := 46) hx hb dX2_line2Gives_39 (by decide) (fun c_9 => ?_) (fun c_9 => ?_)
          · refine lv_iconst (v := 0) hx hb dX2_line2Gives_46 (by decide) ?_
            refine lv_istore_n (lv' := [(2, .int 0), (1, .int (wy >>> (1 &&& 31))), (0, .ref qS)]) hx hb dX2_line2Gives_47 rfl hl (by decide) rfl (fun ls hl => ?_)
            refine lv_iload_n hx hb dX2_line2Gives_48 rfl (lv_at hl 0 rfl) ?_
            refine lv_if_eq (tgt := 56) hx hb dX2_line2Gives_49 (by decide) (fun _ => ?_) (fun cc => absurd cc (by decide))
            refine lv_iconst (v := 1) hx hb dX2_line2Gives_56 (by decide) ?_
            exact st_reti hx hb hr hlocks (by simp only [f_X2_line2Gives_ret, if_pos c_1, if_pos c_2, if_pos c_7, if_neg c_8, if_neg c_9]) hP hD hS dX2_line2Gives_57
          · refine lv_iconst (v := 1) hx hb dX2_line2Gives_42 (by decide) ?_
            refine lv_goto (tgt := 47) hx hb dX2_line2Gives_43 (by decide) ?_
            refine lv_istore_n (lv' := [(2, .int 1), (1, .int (wy >>> (1 &&& 31))), (0, .ref qS)]) hx hb dX2_line2Gives_47 rfl hl (by decide) rfl (fun ls hl => ?_)
            refine lv_iload_n hx hb dX2_line2Gives_48 rfl (lv_at hl 0 rfl) ?_
            refine lv_if_eq (tgt := 56) hx hb dX2_line2Gives_49 (by decide) (fun cc => absurd cc (by decide)) (fun _ => ?_)
            refine lv_iconst (v := 0) hx hb dX2_line2Gives_52 (by decide) ?_
            refine lv_goto (tgt := 57) hx hb dX2_line2Gives_53 (by decide) ?_
            exact st_reti hx hb hr hlocks (by simp only [f_X2_line2Gives_ret, if_pos c_1, if_pos c_2, if_pos c_7, if_neg c_8, if_pos c_9]) hP hD hS dX2_line2Gives_57
        · refine lv_aload_n hx hb dX2_line2Gives_29 rfl (lv_at hl 1 rfl) ?_
          refine va_get (D := D) (ci := 2) (v := .int uc) (C := RX2) (T := TX2) (N := 12) hx hb hts nX2_line2Gives_X2 hown hK hP 0 rfl rfl 11 (by decide) k38 (fun _ h9 => h9) rfl dX2_line2Gives_30 ?_
          refine lv_if_ne (tgt := 42) hx hb dX2_line2Gives_33 (by decide) (fun c_10 => ?_) (fun c_10 => ?_)
          · refine lv_iconst (v := 1) hx hb dX2_line2Gives_42 (by decide) ?_
            refine lv_goto (tgt := 47) hx hb dX2_line2Gives_43 (by decide) ?_
            refine lv_istore_n (lv' := [(2, .int 1), (1, .int (wy >>> (1 &&& 31))), (0, .ref qS)]) hx hb dX2_line2Gives_47 rfl hl (by decide) rfl (fun ls hl => ?_)
            refine lv_iload_n hx hb dX2_line2Gives_48 rfl (lv_at hl 0 rfl) ?_
            refine lv_if_eq (tgt := 56) hx hb dX2_line2Gives_49 (by decide) (fun cc => absurd cc (by decide)) (fun _ => ?_)
            refine lv_iconst (v := 0) hx hb dX2_line2Gives_52 (by decide) ?_
            refine lv_goto (tgt := 57) hx hb dX2_line2Gives_53 (by decide) ?_
            exact st_reti hx hb hr hlocks (by simp only [f_X2_line2Gives_ret, if_pos c_1, if_pos c_2, if_pos c_7, if_pos c_8, if_neg c_10]) hP hD hS dX2_line2Gives_57
          · refine lv_iload_n hx hb dX2_line2Gives_36 rfl (lv_at hl 0 rfl) ?_
            refine lv_bipush (v := 6) hx hb dX2_line2Gives_37 (by decide) ?_
            refine lv_icmp_ne (tgt := 46) hx hb dX2_line2Gives_39 (by decide) (fun c_11 => ?_) (fun c_11 => ?_)
            · refine lv_iconst (v := 0) hx hb dX2_line2Gives_46 (by decide) ?_
              refine lv_istore_n (lv' := [(2, .int 0), (1, .int (wy >>> (1 &&& 31))), (0, .ref qS)]) hx hb dX2_line2Gives_47 rfl hl (by decide) rfl (fun ls hl => ?_)
              refine lv_iload_n hx hb dX2_line2Gives_48 rfl (lv_at hl 0 rfl) ?_
              refine lv_if_eq (tgt := 56) hx hb dX2_line2Gives_49 (by decide) (fun _ => ?_) (fun cc => absurd cc (by decide))
              refine lv_iconst (v := 1) hx hb dX2_line2Gives_56 (by decide) ?_
              exact st_reti hx hb hr hlocks (by simp only [f_X2_line2Gives_ret, if_pos c_1, if_pos c_2, if_pos c_7, if_pos c_8, if_pos c_10, if_neg c_11]) hP hD hS dX2_line2Gives_57
            · refine lv_iconst (v := 1) hx hb dX2_line2Gives_42 (by decide) ?_
              refine lv_goto (tgt := 47) hx hb dX2_line2Gives_43 (by decide) ?_
              refine lv_istore_n (lv' := [(2, .int 1), (1, .int (wy >>> (1 &&& 31))), (0, .ref qS)]) hx hb dX2_line2Gives_47 rfl hl (by decide) rfl (fun ls hl => ?_)
              refine lv_iload_n hx hb dX2_line2Gives_48 rfl (lv_at hl 0 rfl) ?_
              refine lv_if_eq (tgt := 56) hx hb dX2_line2Gives_49 (by decide) (fun cc => absurd cc (by decide)) (fun _ => ?_)
              refine lv_iconst (v := 0) hx hb dX2_line2Gives_52 (by decide) ?_
              refine lv_goto (tgt := 57) hx hb dX2_line2Gives_53 (by decide) ?_
              exact st_reti hx hb hr hlocks (by simp only [f_X2_line2Gives_ret, if_pos c_1, if_pos c_2, if_pos c_7, if_pos c_8, if_pos c_10, if_pos c_11]) hP hD hS dX2_line2Gives_57
  · refine lv_iconst (v := 2) hx hb dX2_line2Gives_10 (by decide) ?_
    exact st_reti hx hb hr hlocks (by simp only [f_X2_line2Gives_ret, if_neg c_1]) hP hD hS dX2_line2Gives_11
end
section
theorem zz_last : True := trivial
end
