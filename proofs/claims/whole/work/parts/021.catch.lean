/-! An exception of a callee, caught by the one row of this method's own table (my own row: the search, then one step of the unwinding). -/
section VCC
variable {p : Program} {l : Launch} {e : Env} {R : Room} {s : State} {m : MethodId} {args : Array Value} {below : List Frame} {meth : Method} {c : Code} {H : Heap} {locs : List Loc} {cells slots : Nat} {Q : State → Prop}
theorem vc_find {S : State} {g : JFrame} {q : Addr} {x : ExceptionTableEntry} {k : ClassId} {ce : Cell} (hm : S.vm.method? g.method = some meth) (hc : meth.code = some c) (htab : c.exceptionTable.toList = [x]) (hx : covers x g.pc = true) (h0 : x.catchType ≠ 0)
    (hl : S.vm.ClassLinks e.platform g.method.cls x.catchType k) (hcell : S.heap[q]? = some ce) (hobj : ∀ z, ce.vm ≠ .statics z) (hk : ∃ z, S.vm.classes[ce.cls]? = some z) (hc2 : ∃ z, S.vm.classes[k]? = some z) (hfit : S.vm.assignable ce.cls k = true)
    (P : Handler → Pre) (E : CtlPost) (d : Bool) (acts : List Action) :
    wp (findHandler g q) P E e d acts S ↔ P (.found x.handlerPc) d acts (S.setVm (S.vm.noted g.method.cls x.catchType (.cls k))) := by
  rw [Jvm.W.findHandler_eq hm hc, htab]
  simp only [covers] at hx
  obtain ⟨ha, ht⟩ := (resolveClass_links e.toSetting hl).op (op := VmOp.resolveClass g.method.cls x.catchType) rfl
  have hal : S.vm.Alike (S.vm.noted g.method.cls x.catchType (.cls k)) := (Vm.Alike.refl S.vm).noted _ _ _
  obtain ⟨k1, hk1⟩ := hk
  obtain ⟨k2, hk2⟩ := hc2
  obtain ⟨k3, hk3, -⟩ := hal.2.2 _ _ hk1
  obtain ⟨k4, hk4, -⟩ := hal.2.2 _ _ hk2
  have hfit2 : (S.vm.noted g.method.cls x.catchType (.cls k)).assignable ce.cls k = true := by rw [hal.assignable]; exact hfit
  simp [findHandler.go, hx, h0, ha, ht, hcell, hobj, hk3, hk4, hfit2, VmOp.dirties, VmOp.acts]
theorem vc_step {S : State} {q : Addr} {f : JFrame} {r : List Frame} {pc : Nat} {vm2 : Vm} (hfind : ∀ (P : Handler → Pre) (E : CtlPost) (d : Bool) (acts : List Action), wp (findHandler f q) P E e d acts S ↔ P (.found pc) d acts (S.setVm vm2)) :
    (stepThrowing e S q (.java f :: r)).Is ((S.setVm vm2).setFrames (.java { f with pc := pc, stack := [.ref q] } :: r)) [] := by
  simp only [stepThrowing, searchFrame, vmDo]
  generalize hr : Sem.go _ e false [] S = res
  obtain ⟨as, rfl, ha⟩ := Sem.eq_ok_of hr (a := Handler.found pc) (s' := S.setVm vm2) (acts' := []) (by simp [hfind _ _ _ _])
  exact ⟨rfl, ha⟩
theorem vc_frames (u : State) (vm2 : Vm) (F G : List Frame) : ((u.setFrames F).setVm vm2).setFrames G = (u.setVm vm2).setFrames G := by
  have h1 : (u.setFrames F).setVm vm2 = (u.setVm vm2).setFrames F := rfl
  rw [h1, State.setFrames_setFrames]
theorem vc_catch {own name E : String} {ce : Cell} {q : Addr} {x : ExceptionTableEntry} {pc : Nat} {ls : Array Slot} {rest : List Value} (hown : s.vm.findClass own = some m.cls) (htab : c.exceptionTable.toList = [x]) (hx : covers x pc = true) (h0 : x.catchType ≠ 0)
    (hlink : (Cond.classLink own x.catchType name).before args s = true) (hcast : (Cond.castable E name).before args s = true) (hcell : H[q]? = some ce) (hv : ce.vm = .none) (hcl : s.vm.findClass E = some ce.cls)
    (kk : W p l e R s m args below meth c H locs cells slots Q (F0 m x.handlerPc ls [.ref q])) : vx_W p l e R s m args below meth c H locs cells slots Q (F0 m pc ls rest) q := by
  intro T hT X
  have hpl : e.platform.magicAccessors = ({} : Platform).magicAccessors := by rw [X.admits.platform]
  obtain ⟨c3, c4, hc3, hc4, hasg⟩ := Cond.castable_spec hcast
  cases Option.some.inj (hc3.symm.trans hcl)
  obtain ⟨c5, hc5, hcl5⟩ := Cond.classLink_spec hown hlink e.platform hpl
  cases Option.some.inj (hc4.symm.trans hc5)
  obtain ⟨dk, _, _, kt, hd, _, _, _, _, hkt, _, hopen⟩ := hcl5.here
  have hclT := X.warmed.classLinks hcl5
  have hW2 : s.WarmedH (T.vm.noted m.cls x.catchType (.cls c4)) := X.warmed.noted hd hopen (State.rightAt_cls hcl5)
  have hal := X.warmed.alike
  obtain ⟨kt2, hkt2, -⟩ := hal.2.2 _ _ hkt
  obtain ⟨k9, h9, -⟩ := Vm.findClass_spec hcl
  obtain ⟨k8, h8, -⟩ := hal.2.2 _ _ h9
  obtain ⟨t, a1, b1⟩ := kk (T.setVm (T.vm.noted m.cls x.catchType (.cls c4))) hT (X.noted hW2)
  refine ⟨t, ?_, b1⟩
  have h : At T (F0 m pc ls rest).method c below := X.here
  obtain ⟨hgo, hw⟩ := h.throwing q
  refine Steps.head hgo hw ?_
  have hfind := vc_find (e := e) (S := (T.setTop (F0 m pc ls rest)).pushFrame (.throwing q)) (g := F0 m pc ls rest) (q := q) (x := x) (k := c4) (ce := ce) (meth := meth) (c := c) X.method' X.code htab hx h0 hclT (by show T.heap[q]? = some ce; rw [hT]; exact hcell) (fun z => by rw [hv]; exact fun h => by cases h) ⟨k8, h8⟩ ⟨kt2, hkt2⟩ (show T.vm.assignable ce.cls c4 = true by rw [hal.assignable]; exact hasg)
  rw [stepThread_throwing (frames_entered h.top _), (vc_step (S := (T.setTop (F0 m pc ls rest)).pushFrame (.throwing q)) hfind).1]
  obtain ⟨g₀, hg⟩ := Option.isSome_iff_exists.mp h.top
  obtain ⟨r, hr⟩ := State.topJava?_eq_some.mp hg
  have hr2 : (T.setVm (T.vm.noted m.cls x.catchType (.cls c4))).frames = .java g₀ :: r := hr
  rw [State.setTop_of_frames _ hr2] at a1
  rw [hr, List.tail_cons, State.pushFrame, vc_frames, State.setTop_of_frames _ hr, vc_frames]
  exact a1
end VCC
