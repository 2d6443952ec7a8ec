/-! What the class's own methods need beside their words: private members of nest mates, and all that a throw takes of the start. -/
section ENV
abbrev xIAE : String := "java/lang/IllegalArgumentException"
abbrev xNames : List String := ["java/lang/RuntimeException", "java/lang/Exception"]
def nxw : List Cond := [.methodLinkNest RX5 9 yX0_init "PortTimers", .fieldLinkNest RX5 62 "PortTimers$Side" "out" "I" "PortTimers", .fieldLinkNest RX5 72 "PortTimers$Side" "directions" "I" "PortTimers", .fieldLinkNest RX5 85 "PortTimers$Timer2" "latch" "I" "PortTimers", .fieldLinkNest RX5 90 "PortTimers$Shifter" "bits" "I" "PortTimers", .fieldLinkNest RX5 99 "PortTimers$Side" "ways" "I" "PortTimers", .fieldLinkNest RX5 117 "PortTimers$Timer1" "count" "I" "PortTimers", .fieldLinkNest RX5 127 "PortTimers$Timer1" "latch" "I" "PortTimers", .fieldLinkNest RX5 128 "PortTimers$Timer2" "count" "I" "PortTimers", .fieldLinkNest RX5 132 "PortTimers$Flags" "enabled" "I" "PortTimers", .fieldLinkNest RX5 140 "PortTimers$Side" "pins" "I" "PortTimers", .fieldLinkNest RX5 179 "PortTimers$Shifter" "toCome" "I" "PortTimers", .fieldLinkNest RX5 182 "PortTimers$Timer1" "bit" "I" "PortTimers", .fieldLinkNest RX5 185 "PortTimers$Timer1" "armed" "Z" "PortTimers", .fieldLinkNest RX5 189 "PortTimers$Timer2" "armed" "Z" "PortTimers", .fieldLinkNest RX5 208 "PortTimers$Side" "line2" "Z" "PortTimers", .fieldLinkNest RX5 224 "PortTimers$Shifter" "given" "I" "PortTimers"]
def nE (U : State) : Prop := ∀ w ∈ nxw, va_Nw w U
theorem nx_on : ∀ w ∈ nxw, w.onTables = true := by decide +kernel
theorem nx_kind : ∀ w ∈ nxw, (∃ a i b n d h, w = .fieldLinkNest a i b n d h) ∨ (∃ a i x h, w = .methodLinkNest a i x h) := by
  intro w hw
  simp only [nxw, List.mem_cons, List.not_mem_nil, or_false] at hw
  rcases hw with rfl | rfl | rfl | rfl | rfl | rfl | rfl | rfl | rfl | rfl | rfl | rfl | rfl | rfl | rfl | rfl | rfl <;> first | exact Or.inl ⟨_, _, _, _, _, _, rfl⟩ | exact Or.inr ⟨_, _, _, _, rfl⟩
theorem nE_v : stEv nE := fun _ _ h hs w hw => va_Nw.same (nx_on w hw) h (hs w hw)
theorem nE_w : stE nE := fun s U hW hs w hw => by
  rcases nx_kind w hw with ⟨a, i, b, n, d, h, rfl⟩ | ⟨a, i, x, h, rfl⟩
  · exact va_Nw.warmF hW (hs _ hw)
  · exact va_Nw.warmM hW (hs _ hw)
theorem nx_9 {U : State} (h : nE U) : va_Nw (.methodLinkNest RX5 9 yX0_init "PortTimers") U := h _ (List.mem_of_getElem? (i := 0) rfl)
theorem nx_62 {U : State} (h : nE U) : va_Nw (.fieldLinkNest RX5 62 "PortTimers$Side" "out" "I" "PortTimers") U := h _ (List.mem_of_getElem? (i := 1) rfl)
theorem nx_72 {U : State} (h : nE U) : va_Nw (.fieldLinkNest RX5 72 "PortTimers$Side" "directions" "I" "PortTimers") U := h _ (List.mem_of_getElem? (i := 2) rfl)
theorem nx_85 {U : State} (h : nE U) : va_Nw (.fieldLinkNest RX5 85 "PortTimers$Timer2" "latch" "I" "PortTimers") U := h _ (List.mem_of_getElem? (i := 3) rfl)
theorem nx_90 {U : State} (h : nE U) : va_Nw (.fieldLinkNest RX5 90 "PortTimers$Shifter" "bits" "I" "PortTimers") U := h _ (List.mem_of_getElem? (i := 4) rfl)
theorem nx_99 {U : State} (h : nE U) : va_Nw (.fieldLinkNest RX5 99 "PortTimers$Side" "ways" "I" "PortTimers") U := h _ (List.mem_of_getElem? (i := 5) rfl)
theorem nx_117 {U : State} (h : nE U) : va_Nw (.fieldLinkNest RX5 117 "PortTimers$Timer1" "count" "I" "PortTimers") U := h _ (List.mem_of_getElem? (i := 6) rfl)
theorem nx_127 {U : State} (h : nE U) : va_Nw (.fieldLinkNest RX5 127 "PortTimers$Timer1" "latch" "I" "PortTimers") U := h _ (List.mem_of_getElem? (i := 7) rfl)
theorem nx_128 {U : State} (h : nE U) : va_Nw (.fieldLinkNest RX5 128 "PortTimers$Timer2" "count" "I" "PortTimers") U := h _ (List.mem_of_getElem? (i := 8) rfl)
theorem nx_132 {U : State} (h : nE U) : va_Nw (.fieldLinkNest RX5 132 "PortTimers$Flags" "enabled" "I" "PortTimers") U := h _ (List.mem_of_getElem? (i := 9) rfl)
theorem nx_140 {U : State} (h : nE U) : va_Nw (.fieldLinkNest RX5 140 "PortTimers$Side" "pins" "I" "PortTimers") U := h _ (List.mem_of_getElem? (i := 10) rfl)
theorem nx_179 {U : State} (h : nE U) : va_Nw (.fieldLinkNest RX5 179 "PortTimers$Shifter" "toCome" "I" "PortTimers") U := h _ (List.mem_of_getElem? (i := 11) rfl)
theorem nx_182 {U : State} (h : nE U) : va_Nw (.fieldLinkNest RX5 182 "PortTimers$Timer1" "bit" "I" "PortTimers") U := h _ (List.mem_of_getElem? (i := 12) rfl)
theorem nx_185 {U : State} (h : nE U) : va_Nw (.fieldLinkNest RX5 185 "PortTimers$Timer1" "armed" "Z" "PortTimers") U := h _ (List.mem_of_getElem? (i := 13) rfl)
theorem nx_189 {U : State} (h : nE U) : va_Nw (.fieldLinkNest RX5 189 "PortTimers$Timer2" "armed" "Z" "PortTimers") U := h _ (List.mem_of_getElem? (i := 14) rfl)
theorem nx_208 {U : State} (h : nE U) : va_Nw (.fieldLinkNest RX5 208 "PortTimers$Side" "line2" "Z" "PortTimers") U := h _ (List.mem_of_getElem? (i := 15) rfl)
theorem nx_224 {U : State} (h : nE U) : va_Nw (.fieldLinkNest RX5 224 "PortTimers$Shifter" "given" "I" "PortTimers") U := h _ (List.mem_of_getElem? (i := 16) rfl)
def xw0 : List Cond := [.classLink RX5 55 xIAE, .initialized xIAE]
def xB : List Cond := [.declares (Bundle.initS "java/lang/RuntimeException"), .declares (Bundle.initS "java/lang/Exception"), .declares (Bundle.initS Bundle.tN), .castable xIAE xIAE]
def xStr : List (Nat × String) := [(57, "v is not 0 to 255"), (108, "register is not 0 to 15"), (138, "pins are not 0 to 255"), (156, "there is no such line"), (159, "n is not 0 to 200000"), (177, "what is not 0 to 4"), (193, "what is not 0 to 6")]
theorem xB_in : ∀ w ∈ (vx_atS RX5 59 xIAE xNames).filter (fun w => !goodWord w), w ∈ xB := by decide +kernel
theorem xB_on : ∀ w ∈ xB, w.onTables = true := by decide +kernel
theorem x_good : ∀ w ∈ Cond.classLink RX5 55 xIAE :: Cond.initialized xIAE :: vx_atS RX5 59 xIAE xNames, vx_ot w = true := by decide +kernel
def tX (A : Nat → Prop) (U : State) : Prop := (vx_Zq Bundle.tN "UNASSIGNED_STACK" Bundle.steD A U U.heap ∧ vx_Zq Bundle.tN "SUPPRESSED_SENTINEL" Bundle.listD A U U.heap) ∧ (∀ w ∈ xB, va_Nw w U) ∧ ∀ z ∈ xStr, ∃ q, vk_R RX5 z.1 z.2 q U
theorem tX.move {A B : Nat → Prop} {s U : State} (h : tX A s) (hW : s.WarmedH U.vm) (hAB : ∀ q, B q → A q) (hk : ∀ a : Nat, a < s.heap.size → ¬ A a → U.heap[a]? = s.heap[a]?) : tX B U := by
  refine ⟨⟨((h.1.1.moved hW.alike).kept hk).narrow hAB, ((h.1.2.moved hW.alike).kept hk).narrow hAB⟩, fun w hw => ?_, fun z hz => ?_⟩
  · have h1 := h.2.1 w hw
    simp only [xB, List.mem_cons, List.not_mem_nil, or_false] at hw
    rcases hw with rfl | rfl | rfl | rfl
    · exact va_Nw.warmD hW h1
    · exact va_Nw.warmD hW h1
    · exact va_Nw.warmD hW h1
    · exact va_Nw.warmC hW h1
  · obtain ⟨q, hq⟩ := h.2.2 z hz
    exact ⟨q, vk_R.warm hW hq⟩
theorem tX.same {A : Nat → Prop} {s U : State} (h : tX A s) (hvm : s.vm = U.vm) (hh : s.heap = U.heap) : tX A U := by
  refine ⟨⟨?_, ?_⟩, fun w hw => va_Nw.same (xB_on w hw) hvm (h.2.1 w hw), fun z hz => ?_⟩
  · rw [← hh]; exact h.1.1.moved (by rw [hvm]; exact Vm.Alike.refl _)
  · rw [← hh]; exact h.1.2.moved (by rw [hvm]; exact Vm.Alike.refl _)
  · obtain ⟨q, hq⟩ := h.2.2 z hz
    exact ⟨q, vk_R.same hvm.symm hq⟩
theorem tX.str_57 {A : Nat → Prop} {U : State} (h : tX A U) : ∃ q, vk_R RX5 57 "v is not 0 to 255" q U := h.2.2 (57, "v is not 0 to 255") (List.mem_of_getElem? (i := 0) rfl)
theorem tX.str_108 {A : Nat → Prop} {U : State} (h : tX A U) : ∃ q, vk_R RX5 108 "register is not 0 to 15" q U := h.2.2 (108, "register is not 0 to 15") (List.mem_of_getElem? (i := 1) rfl)
theorem tX.str_138 {A : Nat → Prop} {U : State} (h : tX A U) : ∃ q, vk_R RX5 138 "pins are not 0 to 255" q U := h.2.2 (138, "pins are not 0 to 255") (List.mem_of_getElem? (i := 2) rfl)
theorem tX.str_156 {A : Nat → Prop} {U : State} (h : tX A U) : ∃ q, vk_R RX5 156 "there is no such line" q U := h.2.2 (156, "there is no such line") (List.mem_of_getElem? (i := 3) rfl)
theorem tX.str_159 {A : Nat → Prop} {U : State} (h : tX A U) : ∃ q, vk_R RX5 159 "n is not 0 to 200000" q U := h.2.2 (159, "n is not 0 to 200000") (List.mem_of_getElem? (i := 4) rfl)
theorem tX.str_177 {A : Nat → Prop} {U : State} (h : tX A U) : ∃ q, vk_R RX5 177 "what is not 0 to 4" q U := h.2.2 (177, "what is not 0 to 4") (List.mem_of_getElem? (i := 5) rfl)
theorem tX.str_193 {A : Nat → Prop} {U : State} (h : tX A U) : ∃ q, vk_R RX5 193 "what is not 0 to 6" q U := h.2.2 (193, "what is not 0 to 6") (List.mem_of_getElem? (i := 6) rfl)
def xtPre (D : va_G) (tys : List (ClassId × FieldType)) (ws : va_W) (sz : Nat) : State → Prop := fun U => stP D tys nE ws sz U ∧ tX (va_A ws sz) U
def xtX (D : va_G) (A : Nat → Prop) (w1 : va_W) (thr : Int32) : String → State → State → Prop := vx_X (fun _ : Unit => thr = 1) (fun E u t => E = xIAE ∧ stB D A w1 u t) A
def xtI (l : Launch) (y : MethodName) (wy : List Cond) (rm : Room) (D : va_G) (av : List Value) (ws w1 : va_W) (r thr : Int32) : Prop :=
  ∀ sz : Nat, vx_Met l y wy rm (va_Pc av (xtPre D [] ws sz)) (va_Qi (fun (x : Int32) (_ : Unit) => x = r ∧ thr = 0) (stB D (va_A ws sz) w1) (va_A ws sz)) (xtX D (va_A ws sz) w1 thr) 1 6 (va_A ws sz)
def xtV (l : Launch) (y : MethodName) (wy : List Cond) (rm : Room) (D : va_G) (av : List Value) (ws w1 : va_W) (thr : Int32) : Prop :=
  ∀ sz : Nat, vx_Met l y wy rm (va_Pc av (xtPre D [] ws sz)) (va_Qv (fun _ : Unit => thr = 0) (stB D (va_A ws sz) w1) (va_A ws sz)) (xtX D (va_A ws sz) w1 thr) 1 6 (va_A ws sz)
theorem xt_open {D : va_G} {tys : List (ClassId × FieldType)} {ws : va_W} {sz : Nat} {av : List Value} {args : Array Value} {s : State} (h : va_Pc av (xtPre D tys ws sz) args s) : va_Pc av (stP D tys nE ws sz) args s ∧ tX (va_A ws s.heap.size) s := by
  obtain ⟨h0, h1, h2⟩ := h
  refine ⟨⟨h0, h1⟩, ?_⟩
  rw [h1.1]
  exact h2
theorem xt_blind {D : va_G} {tys : List (ClassId × FieldType)} {ws : va_W} {sz : Nat} {av : List Value} : FrameBlind (va_Pc av (xtPre D tys ws sz)) := fun a U g mk q => by
  obtain ⟨q0, q1, q2⟩ := q
  obtain ⟨-, h⟩ := st_blind (av := av) nE_v a U g mk ⟨q0, q1⟩
  exact ⟨q0, h, q2.same rfl rfl⟩
section
variable {p : Program} {l : Launch} {e : Env} {R : Room} {s : State} {m : MethodId} {args : Array Value} {below : List Frame} {meth : Method} {c : Code} {H : Heap} {locs : List Loc} {cells slots : Nat}
variable {cc : ByteArray} {nL : Nat} {pc : Nat} {ls : Array Slot} {D : va_G} {A : Nat → Prop} {wn : va_W} {r thr : Int32} {XC : String → State → State → Prop}
theorem xt_retv (hx : p.tables.exec = Jvm.exec) (hb : c.code = cc) (hr : meth.sig.returnType = none) (hlocks : meth.locks = false) (ht : thr = 0) (hP : va_P D vwCl wn H) (hD : va_D A wn) (hS : va_S A s.heap H locs) (hd : decode cc pc = .ok (.return_, 1)) :
    W p l e R s m args below meth c H locs cells slots (vx_MQ below (va_Qv (fun _ : Unit => thr = 0) (stB D A wn) A) XC args s cells slots A) (F0 m pc ls []) :=
  vx_ret (W.vret hx hb hr (fun t h _ => ⟨⟨(), rfl, ht, by rw [h]; exact hP, hD⟩, hS.F h⟩) hS.2.2 hd hlocks)
theorem xt_reti {v : Int32} (hx : p.tables.exec = Jvm.exec) (hb : c.code = cc) (hr : meth.sig.returnType = some .int) (hlocks : meth.locks = false) (ht : thr = 0) (hv : v = r) (hP : va_P D vwCl wn H) (hD : va_D A wn) (hS : va_S A s.heap H locs) (hd : decode cc pc = .ok (.ireturn, 1)) :
    W p l e R s m args below meth c H locs cells slots (vx_MQ below (va_Qi (fun (x : Int32) (_ : Unit) => x = r ∧ thr = 0) (stB D A wn) A) XC args s cells slots A) (F0 m pc ls [.int v]) :=
  vx_ret (W.iret hx hb hr (fun t h _ => ⟨⟨v, (), rfl, ⟨hv, ht⟩, by rw [h]; exact hP, hD⟩, hS.F h⟩) hS.2.2 hd hlocks)
theorem xt_retz {v : Int32} (hx : p.tables.exec = Jvm.exec) (hb : c.code = cc) (hr : meth.sig.returnType = some .boolean) (hlocks : meth.locks = false) (ht : thr = 0) (hz : v = 0 ∨ v = 1) (hv : v = r) (hP : va_P D vwCl wn H) (hD : va_D A wn) (hS : va_S A s.heap H locs) (hd : decode cc pc = .ok (.ireturn, 1)) :
    W p l e R s m args below meth c H locs cells slots (vx_MQ below (va_Qi (fun (x : Int32) (_ : Unit) => x = r ∧ thr = 0) (stB D A wn) A) XC args s cells slots A) (F0 m pc ls [.int v]) :=
  vx_ret (W.zret hx hb hr (by rcases hz with rfl | rfl <;> rfl) (fun t h _ => ⟨⟨v, (), rfl, ⟨hv, ht⟩, by rw [h]; exact hP, hD⟩, hS.F h⟩) hS.2.2 hd hlocks)
theorem xt_throw {is : Nat} {text : String} {Qc : Array Value → State → Outcome → State → Prop} (hx : p.tables.exec = Jvm.exec) (hb : c.code = cc) (hl0 : l.stackTraces = false) (hown : s.vm.findClass RX5 = some m.cls)
    (hw0 : ∀ w ∈ xw0, w.before args s = true) (hat : ∀ w ∈ (vx_atS RX5 59 xIAE xNames).filter goodWord, w.before args s = true) (hst : ∃ q, vk_R RX5 is text q s) (hX : tX A s) (hlocks : meth.locks = false) (hml : c.maxLocals = nL) (hls : ls.size = nL)
    (hnt : ∀ x ∈ c.exceptionTable.toList, False) (hR : 5 < R.frames ∧ 82 ≤ R.locals ∧ 1 ≤ R.cells ∧ 6 ≤ R.slots) (hth : thr = 1) (hP : va_P D vwCl wn H) (hD : va_D A wn) (hS : va_S A s.heap H locs)
    (d0 : decode cc pc = .ok (.new 55, 3)) (d3 : decode cc (pc + 3) = .ok (.dup, 1)) (d4 : decode cc (pc + 4) = .ok (.ldc is, 2)) (d6 : decode cc (pc + 6) = .ok (.invokespecial 59, 3)) (d9 : decode cc (pc + 9) = .ok (.athrow, 1)) :
    W p l e R s m args below meth c H locs 0 0 (vx_MQ below Qc (xtX D A wn thr) args s 1 6 A) (F0 m pc ls []) := by
  obtain ⟨sa, hsa⟩ := hst
  have hB : ∀ w ∈ xB, w.before args s = true := fun w h => va_Nw.use (xB_on w h) (hX.2.1 w h)
  have hall : ∀ w ∈ vx_atS RX5 59 xIAE xNames, w.before args s = true := vx_hat hat xB_in hB
  refine vx_throwS (own := RX5) (cls := xIAE) (text := text) (names := xNames) (ik := 55) (is := is) (ic := 59) (sa := sa) (A := A) hx hb hl0 hown (by decide +kernel) (by decide +kernel) (hw0 _ (by simp [xw0])) (hw0 _ (by simp [xw0])) hsa hall x_good hX.1.1 hX.1.2 hS (hls.trans hml.symm) d0 d3 d4 d6 d9 (fun x hx => (hnt x hx).elim) hR.1 (by simpa [xNames] using hR.2.1) (by omega) (by omega) hlocks ?_ hS.2.2 (by omega) (by omega)
  intro t hal hsz hk
  refine ⟨(), hth, ⟨rfl, hP.kept (fun k q hq => hk q.1 (vx_lt hP hq)), hD⟩, ⟨Nat.le_trans hS.1 hsz, fun q h1 h2 => ?_⟩⟩
  rw [hk q (Nat.lt_of_lt_of_le h1 hS.1)]
  exact hS.2.1 q h1 h2
end
end ENV
