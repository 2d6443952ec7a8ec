def sg (l : List Int32) : Nat → Int32 := fun k => l.getD k 0
def hwf (x : Int32) : Int32 := if x = 1 then 1 else 0
def lw_Ctx (p : Program) (l : Launch) (s : State) (m : MethodId) (c : Code) (b L : Nat) (xs : Nat → Int32) (D : va_G) (A : Nat → Prop) (cZ cO : ClassId) : Prop :=
  p.tables.exec = Jvm.exec ∧ c.code = code ∧ c.maxLocals = 7 ∧ s.vm.findClass RL = some m.cls ∧ (∀ w ∈ wsL_law, w.before #[Value.ref b] s = true) ∧ va_X b L xs s s.heap ∧ b < s.heap.size ∧ ¬ A b ∧ (∀ q : Nat, s.heap.size ≤ q → A q) ∧ va_K D vwCl [(cZ, .boolean), (cO, .long)] s ∧ nE s ∧ tX A s ∧ l.stackTraces = false
section LWX
variable {p : Program} {l : Launch} {e : Env} {R : Room} {s : State} {m : MethodId} {args : Array Value} {below : List Frame} {meth : Method} {c : Code} {H : Heap} {locs : List Loc} {cells slots : Nat} {Q : State → Prop}
theorem lw_sld {cc : ByteArray} {pc : Nat} {ls : Array Slot} {rest : List Value} {A : Nat → Prop} {H0 : Heap} {b L : Nat} {xs : Nat → Int32} {i u : Int32} (hexec : p.tables.exec = Jvm.exec) (hb : c.code = cc) (hX : va_X b L xs s H0) (hbl : b < H0.size) (hbA : ¬ A b) (hS : va_S A H0 H locs) (hin : vp_in i L) (hu : xs i.toNatClampNeg = u) (hdg : decode cc pc = .ok (.iaload, 1))
    (kk : W p l e R s m args below meth c H locs cells slots Q (F0 m (pc + 1) ls (.int u :: rest))) : W p l e R s m args below meth c H locs cells slots Q (F0 m pc ls (.int i :: .ref b :: rest)) := by
  subst hu
  exact va_sld hexec hb hX hbl hbA hS hin hdg kk
theorem lw_in {i L : Nat} (k : Nat) (h : i + k < L) (hL : L < 2 ^ 31) : vp_in (nI i + nI k) L := by
  rw [nI_add]
  exact vp_in_nI h hL
theorem lg_self (x : Int64) : lg_cmp x x = 0 := by
  unfold lg_cmp
  rw [if_neg (by simp [Int64.lt_irrefl]), if_pos rfl]
end LWX
