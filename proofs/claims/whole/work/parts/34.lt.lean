/-! The law's own small methods: a call of the class that returns or throws, and its catch. -/
section LT
def stL (l : Launch) (y : MethodName) (wy : List Cond) (rm : Room) (D : va_G) (tys : List (ClassId × FieldType)) (av : List Value) (ws w1 : va_W) (r : Int32) : Prop :=
  ∀ sz : Nat, Met l y wy rm (va_Pc av (xtPre D tys ws sz)) (va_Qi (fun (x : Int32) (_ : Unit) => x = r) (stB D (va_A ws sz) w1) (va_A ws sz)) 1 6 (va_A ws sz)
variable {p : Program} {l : Launch} {e : Env} {R : Room} {s : State} {m : MethodId} {args : Array Value} {below : List Frame} {meth : Method} {c : Code} {H : Heap} {locs : List Loc} {cells slots : Nat} {Q : State → Prop}
variable {y : MethodName} {bytes cc : ByteArray} {maxL nL n index : Nat} {ret : Option FieldType} {wy : List Cond} {rm : Room} {Ts : List Cond} {own : String} {b : Addr} {As rest st0 : List Value} {pc : Nat} {ls : Array Slot}
variable {D : va_G} {tys : List (ClassId × FieldType)} {A : Nat → Prop} {ws wc wr w1 wn : va_W} {r thr : Int32} {hh : List (Nat × Nat × Nat × Nat)}
theorem xt_pre (hE : nE s) (hX : tX A s) (hK : va_K D vwCl tys s) (hP : va_P D vwCl wc H) (hD : va_D A wc) (hS : va_S A s.heap H locs) (hF : ∀ q, va_A wc H.size q → A q) : ∀ U : State, U.heap = H → s.WarmedH U.vm → va_Pc As (xtPre D tys wc H.size) As.toArray U := fun U hU hW => by
  obtain ⟨h0, h1⟩ := st_pre (As := As) (E := nE) (fun U hW => nE_w _ _ hW hE) hK hP hD U hU hW
  exact ⟨h0, h1, hX.move hW hF (fun a ha hn => by rw [hU]; exact hS.2.1 a ha hn)⟩
theorem lt_iV (S : CallFix p m c cc nL s args Ts own) (hM : xtI l y wy rm D (Value.ref b :: As) wc w1 r thr) (cw : CallW R s args own RX5 index y bytes maxL ret wy rm 1 6 n) (hE : nE s) (hX : tX A s) (hK : va_K D vwCl [] s)
    (hP : va_P D vwCl ws H) (hD : va_D A ws) (hS : va_S A s.heap H locs) (hA : ∀ q, s.heap.size ≤ q → A q) (hrc : va_P D vwCl wc H → ∃ cellB : Cell, H[b]? = some cellB ∧ cellB.vm.isStatics = false ∧ s.vm.findClass RX5 = some cellB.cls)
    (isC isR perm : List Nat) (hC : isC.map (fun i => ws[i]?) = wc.map some) (hR : isR.map (fun i => ws[i]?) = wr.map some) (hx : va_nd isC = true ∧ va_nd isR = true ∧ va_nd perm = true ∧ (∀ i ∈ isR, i ∉ isC)) (hp : perm.map (fun i => (wr ++ w1)[i]?) = wn.map some)
    (hst : st0 = As.reverse ++ .ref b :: rest) (hn : As.length = n) (hsz : ls.size = nL) (hW : (rest.map fun v => v.category).sum ≤ 8) (hdg : decode cc pc = .ok (.invokevirtual index, 3)) (hc : cells + 1 ≤ R.cells ∧ slots + 6 ≤ R.slots)
    (kx : ∀ (ce : Cell) (q9 : Addr) (H1 : Heap) (locs1 : List Loc), thr = 1 → va_P D vwCl wn H1 → va_D A wn → va_S A s.heap H1 locs1 → H1[q9]? = some ce → ce.vm = .none → s.vm.findClass xIAE = some ce.cls → vx_W p l e R s m args below meth c H1 locs1 (cells + 1) (slots + 6) Q (F0 m pc ls rest) q9)
    (kk : ∀ (H1 : Heap) (locs1 : List Loc), thr = 0 → va_P D vwCl wn H1 → va_D A wn → va_S A s.heap H1 locs1 → W p l e R s m args below meth c H1 locs1 (cells + 1) (slots + 6) Q (F0 m (pc + 3) ls (.int r :: rest))) : W p l e R s m args below meth c H locs cells slots Q (F0 m pc ls st0) := by
  have hPc : va_P D vwCl wc H := hP.sub isC (st_fm hC)
  have hDc : va_D A wc := hD.sub isC hx.1 hC
  have hF := va_free hD hS hA isC hC
  refine vx_calli (vx_runV (As := As) (rest := rest) S (hM H.size) cw ⟨xt_blind, hrc hPc, xt_pre hE hX hK hPc hDc hS hF⟩ rfl hn hsz hst (lv_room hW) hdg hc) hS (fun q _ h => hF q h) hF (fun q _ h => hF q h) (fun E ce q9 u t H1 locs1 ht hvm hw hB hz1 hk1 hS hce hcv hcl => ?_) (fun x u t H1 locs1 ht hvm hw hB hz1 hk1 hS => ?_)
  · obtain ⟨rfl, hB⟩ := hB
    obtain ⟨hP, hD⟩ := st_behind hP hD isC isR perm hC hR hx.2.1 hx.2.2.2 hp hx.2.2.1 hF ht hB hk1
    exact kx ce q9 H1 locs1 hw hP hD hS hce hcv hcl
  · obtain ⟨hP, hD⟩ := st_behind hP hD isC isR perm hC hR hx.2.1 hx.2.2.2 hp hx.2.2.1 hF ht hB hk1
    obtain ⟨hw, hw2⟩ : x = r ∧ thr = 0 := hw
    subst hw
    exact kk H1 locs1 hw2 hP hD hS
theorem lt_vV (S : CallFix p m c cc nL s args Ts own) (hM : xtV l y wy rm D (Value.ref b :: As) wc w1 thr) (cw : CallW R s args own RX5 index y bytes maxL ret wy rm 1 6 n) (hE : nE s) (hX : tX A s) (hK : va_K D vwCl [] s)
    (hP : va_P D vwCl ws H) (hD : va_D A ws) (hS : va_S A s.heap H locs) (hA : ∀ q, s.heap.size ≤ q → A q) (hrc : va_P D vwCl wc H → ∃ cellB : Cell, H[b]? = some cellB ∧ cellB.vm.isStatics = false ∧ s.vm.findClass RX5 = some cellB.cls)
    (isC isR perm : List Nat) (hC : isC.map (fun i => ws[i]?) = wc.map some) (hR : isR.map (fun i => ws[i]?) = wr.map some) (hx : va_nd isC = true ∧ va_nd isR = true ∧ va_nd perm = true ∧ (∀ i ∈ isR, i ∉ isC)) (hp : perm.map (fun i => (wr ++ w1)[i]?) = wn.map some)
    (hst : st0 = As.reverse ++ .ref b :: rest) (hn : As.length = n) (hsz : ls.size = nL) (hW : (rest.map fun v => v.category).sum ≤ 8) (hdg : decode cc pc = .ok (.invokevirtual index, 3)) (hc : cells + 1 ≤ R.cells ∧ slots + 6 ≤ R.slots)
    (kx : ∀ (ce : Cell) (q9 : Addr) (H1 : Heap) (locs1 : List Loc), thr = 1 → va_P D vwCl wn H1 → va_D A wn → va_S A s.heap H1 locs1 → H1[q9]? = some ce → ce.vm = .none → s.vm.findClass xIAE = some ce.cls → vx_W p l e R s m args below meth c H1 locs1 (cells + 1) (slots + 6) Q (F0 m pc ls rest) q9)
    (kk : ∀ (H1 : Heap) (locs1 : List Loc), thr = 0 → va_P D vwCl wn H1 → va_D A wn → va_S A s.heap H1 locs1 → W p l e R s m args below meth c H1 locs1 (cells + 1) (slots + 6) Q (F0 m (pc + 3) ls rest)) : W p l e R s m args below meth c H locs cells slots Q (F0 m pc ls st0) := by
  have hPc : va_P D vwCl wc H := hP.sub isC (st_fm hC)
  have hDc : va_D A wc := hD.sub isC hx.1 hC
  have hF := va_free hD hS hA isC hC
  refine vx_callv (vx_runV (As := As) (rest := rest) S (hM H.size) cw ⟨xt_blind, hrc hPc, xt_pre hE hX hK hPc hDc hS hF⟩ rfl hn hsz hst (lv_room hW) hdg hc) hS (fun q _ h => hF q h) hF (fun q _ h => hF q h) (fun E ce q9 u t H1 locs1 ht hvm hw hB hz1 hk1 hS hce hcv hcl => ?_) (fun u t H1 locs1 ht hvm hw hB hz1 hk1 hS => ?_)
  · obtain ⟨rfl, hB⟩ := hB
    obtain ⟨hP, hD⟩ := st_behind hP hD isC isR perm hC hR hx.2.1 hx.2.2.2 hp hx.2.2.1 hF ht hB hk1
    exact kx ce q9 H1 locs1 hw hP hD hS hce hcv hcl
  · obtain ⟨hP, hD⟩ := st_behind hP hD isC isR perm hC hR hx.2.1 hx.2.2.2 hp hx.2.2.1 hF ht hB hk1
    exact kk H1 locs1 hw hP hD hS
/-- the law calls one of its own small methods -/
theorem lt_iS (S : CallFix p m c cc nL s args Ts own) (hM : stL l y wy rm D tys As wc w1 r) (cw : vx_CSW R s args own index y bytes maxL ret hh wy rm 1 6 n) (hE : nE s) (hX : tX A s) (hK : va_K D vwCl tys s)
    (hP : va_P D vwCl ws H) (hD : va_D A ws) (hS : va_S A s.heap H locs) (hA : ∀ q, s.heap.size ≤ q → A q)
    (isC isR perm : List Nat) (hC : isC.map (fun i => ws[i]?) = wc.map some) (hR : isR.map (fun i => ws[i]?) = wr.map some) (hx : va_nd isC = true ∧ va_nd isR = true ∧ va_nd perm = true ∧ (∀ i ∈ isR, i ∉ isC)) (hp : perm.map (fun i => (wr ++ w1)[i]?) = wn.map some)
    (hst : st0 = As.reverse ++ rest) (hn : As.length = n) (hsz : ls.size = nL) (hW : (rest.map fun v => v.category).sum ≤ 8) (hdg : decode cc pc = .ok (.invokestatic index, 3)) (hc : cells + 1 ≤ R.cells ∧ slots + 6 ≤ R.slots)
    (kk : ∀ (H1 : Heap) (locs1 : List Loc), va_P D vwCl wn H1 → va_D A wn → va_S A s.heap H1 locs1 → W p l e R s m args below meth c H1 locs1 (cells + 1) (slots + 6) Q (F0 m (pc + 3) ls (.int r :: rest))) : W p l e R s m args below meth c H locs cells slots Q (F0 m pc ls st0) := by
  have hPc : va_P D vwCl wc H := hP.sub isC (st_fm hC)
  have hDc : va_D A wc := hD.sub isC hx.1 hC
  have hF := va_free hD hS hA isC hC
  refine va_calli (vx_runSW (As := As) (rest := rest) S (hM H.size) cw ⟨xt_blind, xt_pre hE hX hK hPc hDc hS hF⟩ rfl hn hsz hst (lv_room hW) hdg hc) hS (fun q _ h => hF q h) hF (fun x u t H1 locs ht hvm hw hB hz1 hk1 hS => ?_)
  obtain ⟨hP, hD⟩ := st_behind hP hD isC isR perm hC hR hx.2.1 hx.2.2.2 hp hx.2.2.1 hF ht hB hk1
  have hw : x = r := hw
  subst hw
  exact kk H1 locs hP hD hS
end LT
