/-! The standard form of a contract here, and its call: a method's world before and behind it, its answer; nothing else changes. -/
section STD
theorem st_fm {α β : Type} {f : α → Option β} : ∀ {l : List α} {w : List β}, l.map f = w.map some → l.filterMap f = w := by
  intro l
  induction l with
  | nil => intro w h; cases w with
    | nil => rfl
    | cons a t => cases h
  | cons a t ih => intro w h; cases w with
    | nil => cases h
    | cons b u =>
      simp only [List.map_cons, List.cons.injEq] at h
      rw [List.filterMap_cons, h.1, ih h.2]
def stP (D : va_G) (tys : List (ClassId × FieldType)) (E : State → Prop) (ws : va_W) (sz : Nat) : State → Prop := fun U => U.heap.size = sz ∧ va_P D vwCl ws U.heap ∧ va_K D vwCl tys U ∧ va_D (fun _ => True) ws ∧ E U
def stB (D : va_G) (A : Nat → Prop) (ws : va_W) : Unit → State → Prop := fun _ t => va_P D vwCl ws t.heap ∧ va_D A ws
def stV (l : Launch) (y : MethodName) (wy : List Cond) (rm : Room) (D : va_G) (tys : List (ClassId × FieldType)) (E : State → Prop) (av : List Value) (ws w1 : va_W) : Prop :=
  ∀ sz : Nat, Met l y wy rm (va_Pc av (stP D tys E ws sz)) (va_Qv (fun _ : Unit => True) (stB D (va_A ws sz) w1) (va_A ws sz)) 0 0 (va_A ws sz)
def stI (l : Launch) (y : MethodName) (wy : List Cond) (rm : Room) (D : va_G) (tys : List (ClassId × FieldType)) (E : State → Prop) (av : List Value) (ws w1 : va_W) (r : Int32) : Prop :=
  ∀ sz : Nat, Met l y wy rm (va_Pc av (stP D tys E ws sz)) (va_Qi (fun (x : Int32) (_ : Unit) => x = r) (stB D (va_A ws sz) w1) (va_A ws sz)) 0 0 (va_A ws sz)
/-- what is said of the tables alone -/
def stE (E : State → Prop) : Prop := ∀ s U : State, s.WarmedH U.vm → E s → E U
def stEv (E : State → Prop) : Prop := ∀ s U : State, s.vm = U.vm → E s → E U
def tE : State → Prop := fun _ => True
theorem tE_v : stEv tE := fun _ _ _ _ => trivial
theorem st_blind {D : va_G} {tys : List (ClassId × FieldType)} {E : State → Prop} {av : List Value} {ws : va_W} {sz : Nat} (hEv : stEv E) : FrameBlind (va_Pc av (stP D tys E ws sz)) := fun a U g mk q => by
  obtain ⟨q0, q1, qP, qK, qD, qE⟩ := q
  exact ⟨q0, q1, qP, va_K.moved (u := U) (U := U.calling g mk a) (Vm.Alike.refl U.vm) qK, qD, hEv U _ rfl qE⟩
section
variable {p : Program} {l : Launch} {e : Env} {R : Room} {s : State} {m : MethodId} {args : Array Value} {below : List Frame} {meth : Method} {c : Code} {H : Heap} {locs : List Loc} {cells slots : Nat} {Q : State → Prop}
variable {y : MethodName} {bytes cc : ByteArray} {maxL nL n index : Nat} {ret : Option FieldType} {wy : List Cond} {rm : Room} {Ts : List Cond} {own C : String} {b : Addr} {As rest st0 : List Value} {pc : Nat} {ls : Array Slot}
variable {D : va_G} {tys tysc : List (ClassId × FieldType)} {E : State → Prop} {A : Nat → Prop} {ws wc wr w1 wn : va_W} {r : Int32}
theorem st_pre (hE : ∀ U : State, s.WarmedH U.vm → E U) (hK : va_K D vwCl tysc s) (hP : va_P D vwCl wc H) (hD : va_D A wc) : ∀ U : State, U.heap = H → s.WarmedH U.vm → va_Pc As (stP D tysc E wc H.size) As.toArray U := fun U hU hW =>
  ⟨rfl, by rw [hU], by rw [hU]; exact hP, va_K.moved hW.alike hK, hD.weaken (fun _ _ _ _ => trivial), hE U hW⟩
theorem st_behind {H1 : Heap} {t : State} (hP : va_P D vwCl ws H) (hD : va_D A ws) (isC isR perm : List Nat) (hC : isC.map (fun i => ws[i]?) = wc.map some) (hR : isR.map (fun i => ws[i]?) = wr.map some) (hnd : va_nd isR = true) (hdis : ∀ i ∈ isR, i ∉ isC)
    (hp : perm.map (fun i => (wr ++ w1)[i]?) = wn.map some) (hpn : va_nd perm = true) (hF : ∀ q, va_A wc H.size q → A q) (ht : t.heap = H1) (hB : stB D (va_A wc H.size) w1 () t) (hk : ∀ q : Nat, q < H.size → ¬ va_A wc H.size q → H1[q]? = H[q]?) : va_P D vwCl wn H1 ∧ va_D A wn := by
  obtain ⟨hP1, hD1⟩ := hB
  rw [ht] at hP1
  obtain ⟨hP2, hD2⟩ := va_join hP hD isC isR hC hR hnd hdis hk hF hP1 hD1
  exact ⟨hP2.sub perm (st_fm hp), hD2.sub perm hpn hp⟩
theorem st_vV (S : CallFix p m c cc nL s args Ts own) (hM : stV l y wy rm D tysc E (Value.ref b :: As) wc w1) (cw : CallW R s args own C index y bytes maxL ret wy rm 0 0 n) (hEv : stEv E) (hE : ∀ U : State, s.WarmedH U.vm → E U) (hK : va_K D vwCl tysc s)
    (hP : va_P D vwCl ws H) (hD : va_D A ws) (hS : va_S A s.heap H locs) (hA : ∀ q, s.heap.size ≤ q → A q) (hrc : va_P D vwCl wc H → ∃ cellB : Cell, H[b]? = some cellB ∧ cellB.vm.isStatics = false ∧ s.vm.findClass C = some cellB.cls)
    (isC isR perm : List Nat) (hC : isC.map (fun i => ws[i]?) = wc.map some) (hR : isR.map (fun i => ws[i]?) = wr.map some) (hx : va_nd isC = true ∧ va_nd isR = true ∧ va_nd perm = true ∧ (∀ i ∈ isR, i ∉ isC)) (hp : perm.map (fun i => (wr ++ w1)[i]?) = wn.map some)
    (hst : st0 = As.reverse ++ .ref b :: rest) (hn : As.length = n) (hsz : ls.size = nL) (hW : (rest.map fun v => v.category).sum ≤ 8) (hdg : decode cc pc = .ok (.invokevirtual index, 3)) (hc : cells ≤ R.cells ∧ slots ≤ R.slots)
    (kk : ∀ (H1 : Heap) (locs1 : List Loc), va_P D vwCl wn H1 → va_D A wn → va_S A s.heap H1 locs1 → W p l e R s m args below meth c H1 locs1 cells slots Q (F0 m (pc + 3) ls rest)) : W p l e R s m args below meth c H locs cells slots Q (F0 m pc ls st0) := by
  have hPc : va_P D vwCl wc H := hP.sub isC (st_fm hC)
  have hDc : va_D A wc := hD.sub isC hx.1 hC
  have hF := va_free hD hS hA isC hC
  refine va_callv (va_runV (As := As) (rest := rest) S (hM H.size) cw ⟨st_blind hEv, hrc hPc, st_pre hE hK hPc hDc⟩ rfl hn hsz hst (lv_room hW) hdg hc) hS (fun q _ h => hF q h) hF (fun u t H1 locs ht hvm hw hB hz1 hk1 hS => ?_)
  obtain ⟨hP, hD⟩ := st_behind hP hD isC isR perm hC hR hx.2.1 hx.2.2.2 hp hx.2.2.1 hF ht hB hk1
  exact kk H1 locs hP hD hS
theorem st_iV (S : CallFix p m c cc nL s args Ts own) (hM : stI l y wy rm D tysc E (Value.ref b :: As) wc w1 r) (cw : CallW R s args own C index y bytes maxL ret wy rm 0 0 n) (hEv : stEv E) (hE : ∀ U : State, s.WarmedH U.vm → E U) (hK : va_K D vwCl tysc s)
    (hP : va_P D vwCl ws H) (hD : va_D A ws) (hS : va_S A s.heap H locs) (hA : ∀ q, s.heap.size ≤ q → A q) (hrc : va_P D vwCl wc H → ∃ cellB : Cell, H[b]? = some cellB ∧ cellB.vm.isStatics = false ∧ s.vm.findClass C = some cellB.cls)
    (isC isR perm : List Nat) (hC : isC.map (fun i => ws[i]?) = wc.map some) (hR : isR.map (fun i => ws[i]?) = wr.map some) (hx : va_nd isC = true ∧ va_nd isR = true ∧ va_nd perm = true ∧ (∀ i ∈ isR, i ∉ isC)) (hp : perm.map (fun i => (wr ++ w1)[i]?) = wn.map some)
    (hst : st0 = As.reverse ++ .ref b :: rest) (hn : As.length = n) (hsz : ls.size = nL) (hW : (rest.map fun v => v.category).sum ≤ 8) (hdg : decode cc pc = .ok (.invokevirtual index, 3)) (hc : cells ≤ R.cells ∧ slots ≤ R.slots)
    (kk : ∀ (H1 : Heap) (locs1 : List Loc), va_P D vwCl wn H1 → va_D A wn → va_S A s.heap H1 locs1 → W p l e R s m args below meth c H1 locs1 cells slots Q (F0 m (pc + 3) ls (.int r :: rest))) : W p l e R s m args below meth c H locs cells slots Q (F0 m pc ls st0) := by
  have hPc : va_P D vwCl wc H := hP.sub isC (st_fm hC)
  have hDc : va_D A wc := hD.sub isC hx.1 hC
  have hF := va_free hD hS hA isC hC
  refine va_calli (va_runV (As := As) (rest := rest) S (hM H.size) cw ⟨st_blind hEv, hrc hPc, st_pre hE hK hPc hDc⟩ rfl hn hsz hst (lv_room hW) hdg hc) hS (fun q _ h => hF q h) hF (fun x u t H1 locs ht hvm hw hB hz1 hk1 hS => ?_)
  obtain ⟨hP, hD⟩ := st_behind hP hD isC isR perm hC hR hx.2.1 hx.2.2.2 hp hx.2.2.1 hF ht hB hk1
  have hw : x = r := hw
  subst hw
  exact kk H1 locs hP hD hS
theorem st_iS (S : CallFix p m c cc nL s args Ts own) (hM : stI l y wy rm D tysc E As wc w1 r) (cw : CallB R s args own index y bytes maxL ret wy rm 0 0 n ∧ (Cond.static y).before args s = true) (hEv : stEv E) (hE : ∀ U : State, s.WarmedH U.vm → E U) (hK : va_K D vwCl tysc s)
    (hP : va_P D vwCl ws H) (hD : va_D A ws) (hS : va_S A s.heap H locs) (hA : ∀ q, s.heap.size ≤ q → A q)
    (isC isR perm : List Nat) (hC : isC.map (fun i => ws[i]?) = wc.map some) (hR : isR.map (fun i => ws[i]?) = wr.map some) (hx : va_nd isC = true ∧ va_nd isR = true ∧ va_nd perm = true ∧ (∀ i ∈ isR, i ∉ isC)) (hp : perm.map (fun i => (wr ++ w1)[i]?) = wn.map some)
    (hst : st0 = As.reverse ++ rest) (hn : As.length = n) (hsz : ls.size = nL) (hW : (rest.map fun v => v.category).sum ≤ 8) (hdg : decode cc pc = .ok (.invokestatic index, 3)) (hc : cells ≤ R.cells ∧ slots ≤ R.slots)
    (kk : ∀ (H1 : Heap) (locs1 : List Loc), va_P D vwCl wn H1 → va_D A wn → va_S A s.heap H1 locs1 → W p l e R s m args below meth c H1 locs1 cells slots Q (F0 m (pc + 3) ls (.int r :: rest))) : W p l e R s m args below meth c H locs cells slots Q (F0 m pc ls st0) := by
  have hPc : va_P D vwCl wc H := hP.sub isC (st_fm hC)
  have hDc : va_D A wc := hD.sub isC hx.1 hC
  have hF := va_free hD hS hA isC hC
  refine va_calli (va_runS (As := As) (rest := rest) S (hM H.size) cw ⟨st_blind hEv, st_pre hE hK hPc hDc⟩ rfl hn hsz hst (lv_room hW) hdg hc) hS (fun q _ h => hF q h) hF (fun x u t H1 locs ht hvm hw hB hz1 hk1 hS => ?_)
  obtain ⟨hP, hD⟩ := st_behind hP hD isC isR perm hC hR hx.2.1 hx.2.2.2 hp hx.2.2.1 hF ht hB hk1
  have hw : x = r := hw
  subst hw
  exact kk H1 locs hP hD hS
theorem st_retv (hx : p.tables.exec = Jvm.exec) (hb : c.code = cc) (hr : meth.sig.returnType = none) (hlocks : meth.locks = false) (hP : va_P D vwCl wn H) (hD : va_D A wn) (hS : va_S A s.heap H locs) (hd : decode cc pc = .ok (.return_, 1)) :
    W p l e R s m args below meth c H locs cells slots (MQ below (va_Qv (fun _ : Unit => True) (stB D A wn) A) args s cells slots A) (F0 m pc ls []) :=
  W.vret hx hb hr (fun t ht _ => ⟨⟨(), rfl, trivial, by rw [ht]; exact hP, hD⟩, hS.F ht⟩) hS.2.2 hd hlocks
theorem st_reti {v : Int32} (hx : p.tables.exec = Jvm.exec) (hb : c.code = cc) (hr : meth.sig.returnType = some .int) (hlocks : meth.locks = false) (hv : v = r) (hP : va_P D vwCl wn H) (hD : va_D A wn) (hS : va_S A s.heap H locs) (hd : decode cc pc = .ok (.ireturn, 1)) :
    W p l e R s m args below meth c H locs cells slots (MQ below (va_Qi (fun (x : Int32) (_ : Unit) => x = r) (stB D A wn) A) args s cells slots A) (F0 m pc ls [.int v]) :=
  W.iret hx hb hr (fun t ht _ => ⟨⟨v, (), rfl, hv, by rw [ht]; exact hP, hD⟩, hS.F ht⟩) hS.2.2 hd hlocks
theorem st_retz {v : Int32} (hx : p.tables.exec = Jvm.exec) (hb : c.code = cc) (hr : meth.sig.returnType = some .boolean) (hlocks : meth.locks = false) (hz : v = 0 ∨ v = 1) (hv : v = r) (hP : va_P D vwCl wn H) (hD : va_D A wn) (hS : va_S A s.heap H locs) (hd : decode cc pc = .ok (.ireturn, 1)) :
    W p l e R s m args below meth c H locs cells slots (MQ below (va_Qi (fun (x : Int32) (_ : Unit) => x = r) (stB D A wn) A) args s cells slots A) (F0 m pc ls [.int v]) :=
  W.zret hx hb hr (by rcases hz with rfl | rfl <;> rfl) (fun t ht _ => ⟨⟨v, (), rfl, hv, by rw [ht]; exact hP, hD⟩, hS.F ht⟩) hS.2.2 hd hlocks
/-- a method's body, from its entry -/
theorem st_open {tyl : List (ClassId × FieldType)} {av : List Value} {sz : Nat} (hv : va_Pc av (stP D tyl E ws sz) args s) : args = av.toArray ∧ s.heap.size = sz ∧ va_P D vwCl ws s.heap ∧ va_K D vwCl tyl s ∧ va_D (va_A ws s.heap.size) ws ∧ E s := by
  obtain ⟨h0, h1, h2, h3, h4, h5⟩ := hv
  exact ⟨h0, h1, h2, h3, h4.self, h5⟩
end
theorem sw_ne {x : Int32} {k : Int} (hk : -2147483648 ≤ k ∧ k ≤ 2147483647) (h : ¬ x = Int32.ofInt k) : x.toInt ≠ k := fun e => h (Int32.toInt_inj.mp (by rw [e, Int32.toInt_ofInt_of_le (by omega) (by omega)]))
end STD
section SW
theorem vpin4b {x : Int32} (h : ¬ x < 0) (h3 : x ≤ 3) : vp_in x 4 := by
  obtain ⟨j, hj, e⟩ := nI_of2 (x := x) (M := 3) (n := 3) rfl h h3
  rw [e]
  exact vp_in_nI (by omega) (by omega)
theorem sw_4 {x : Int32} (h0 : ¬ x = 0) (h1 : ¬ x = 1) (h2 : ¬ x = 2) (h3 : ¬ x = 3) : x.toInt < 0 ∨ (3 : Int) < x.toInt := by
  have e0 := sw_ne (k := 0) (by omega) h0
  have e1 := sw_ne (k := 1) (by omega) h1
  have e2 := sw_ne (k := 2) (by omega) h2
  have e3 := sw_ne (k := 3) (by omega) h3
  omega
theorem sw_5 {x : Int32} (h0 : ¬ x = 0) (h1 : ¬ x = 1) (h2 : ¬ x = 2) (h3 : ¬ x = 3) (h4 : ¬ x = 4) : x.toInt < 0 ∨ (4 : Int) < x.toInt := by
  have e0 := sw_ne (k := 0) (by omega) h0
  have e1 := sw_ne (k := 1) (by omega) h1
  have e2 := sw_ne (k := 2) (by omega) h2
  have e3 := sw_ne (k := 3) (by omega) h3
  have e4 := sw_ne (k := 4) (by omega) h4
  omega
theorem sw_7 {x : Int32} (h0 : ¬ x = 0) (h1 : ¬ x = 1) (h2 : ¬ x = 2) (h3 : ¬ x = 3) (h4 : ¬ x = 4) (h5 : ¬ x = 5) (h6 : ¬ x = 6) : x.toInt < 0 ∨ (6 : Int) < x.toInt := by
  have e0 := sw_ne (k := 0) (by omega) h0
  have e1 := sw_ne (k := 1) (by omega) h1
  have e2 := sw_ne (k := 2) (by omega) h2
  have e3 := sw_ne (k := 3) (by omega) h3
  have e4 := sw_ne (k := 4) (by omega) h4
  have e5 := sw_ne (k := 5) (by omega) h5
  have e6 := sw_ne (k := 6) (by omega) h6
  omega
theorem sw_8 {x : Int32} (h0 : ¬ x = 0) (h1 : ¬ x = 1) (h2 : ¬ x = 2) (h3 : ¬ x = 3) (h4 : ¬ x = 4) (h5 : ¬ x = 5) (h6 : ¬ x = 6) (h7 : ¬ x = 7) : x.toInt < 0 ∨ (7 : Int) < x.toInt := by
  have e0 := sw_ne (k := 0) (by omega) h0
  have e1 := sw_ne (k := 1) (by omega) h1
  have e2 := sw_ne (k := 2) (by omega) h2
  have e3 := sw_ne (k := 3) (by omega) h3
  have e4 := sw_ne (k := 4) (by omega) h4
  have e5 := sw_ne (k := 5) (by omega) h5
  have e6 := sw_ne (k := 6) (by omega) h6
  have e7 := sw_ne (k := 7) (by omega) h7
  omega
theorem sw_16 {x : Int32} (h0 : ¬ x = 0) (h1 : ¬ x = 1) (h2 : ¬ x = 2) (h3 : ¬ x = 3) (h4 : ¬ x = 4) (h5 : ¬ x = 5) (h6 : ¬ x = 6) (h7 : ¬ x = 7) (h8 : ¬ x = 8) (h9 : ¬ x = 9) (h10 : ¬ x = 10) (h11 : ¬ x = 11) (h12 : ¬ x = 12) (h13 : ¬ x = 13) (h14 : ¬ x = 14) (h15 : ¬ x = 15) : x.toInt < 0 ∨ (15 : Int) < x.toInt := by
  have e0 := sw_ne (k := 0) (by omega) h0
  have e1 := sw_ne (k := 1) (by omega) h1
  have e2 := sw_ne (k := 2) (by omega) h2
  have e3 := sw_ne (k := 3) (by omega) h3
  have e4 := sw_ne (k := 4) (by omega) h4
  have e5 := sw_ne (k := 5) (by omega) h5
  have e6 := sw_ne (k := 6) (by omega) h6
  have e7 := sw_ne (k := 7) (by omega) h7
  have e8 := sw_ne (k := 8) (by omega) h8
  have e9 := sw_ne (k := 9) (by omega) h9
  have e10 := sw_ne (k := 10) (by omega) h10
  have e11 := sw_ne (k := 11) (by omega) h11
  have e12 := sw_ne (k := 12) (by omega) h12
  have e13 := sw_ne (k := 13) (by omega) h13
  have e14 := sw_ne (k := 14) (by omega) h14
  have e15 := sw_ne (k := 15) (by omega) h15
  omega
end SW
