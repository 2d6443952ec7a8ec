theorem nX0_clear_X0 : ∀ w ∈ wsX00, w ∈ wsX0_clear := fun w h => List.mem_cons_of_mem _ (List.mem_append_right _ h)
set_option maxHeartbeats 4000000 in
set_option maxRecDepth 100000 in
theorem k_X0_clear (l : Launch) (D : va_G) (qF : Nat) (fr fe : Int32) : stV l yX0_clear wsX0_clear ({ frames := 0, cells := 0, slots := 0, locals := 0 } : Room) D [] tE [.ref qF] [(qF, .inr (0, [.int fr, .int fe]))] [(qF, .inr (0, [.int 0, .int 0]))] := by
  intro sz
  refine Met.ofW (cc := cX0_clear) (maxL := 1) (ret := none) (by decide) rfl ?_
  intro p e s m args below meth c s₁ B hml hv
  obtain ⟨rfl, rfl, hP, hK, hD, hE⟩ := st_open hv
  have hx := B.exec
  have hb := B.bytes
  have hr := B.returns
  have hts := atoms_spec (ws := wsX0_clear) B.pre
  have hown : s.vm.findClass RX0 = some m.cls := findClass_of_methodNamed B.named
  have hlocks := B.notSynchronized
  generalize hAe : va_A [(qF, .inr (0, [.int fr, .int fe]))] s.heap.size = A at hD ⊢
  have hA : ∀ q : Nat, s.heap.size ≤ q → A q := fun q h => by rw [← hAe]; exact Or.inr h
  have hS : va_S A s.heap s.heap [] := va_S.rf
  have k9 := hts (.fieldLink RX0 9 "PortTimers$Flags" "raised" "I") (by decide +kernel)
  have k15 := hts (.fieldLink RX0 15 "PortTimers$Flags" "enabled" "I") (by decide +kernel)
  have hl := lv_entry ([.ref qF]) (n := 1) (Nat.le_of_ble_eq_true rfl)
  rw [lg_entry_eq]
  generalize (lg_sl ([.ref qF]) ++ List.replicate (1 - (lg_sl ([.ref qF])).length) Slot.unset).toArray = ls at hl ⊢
  have hl : lv_has ls 1 [(0, .ref qF)] := hl
  refine lv_aload_n hx hb dX0_clear_0 rfl (lv_at hl 0 rfl) ?_
  refine lv_iconst (v := 0) hx hb dX0_clear_1 (by decide) ?_
  refine va_put (D := D) (ci := 0) (v := .int 0) (ty := .int) (C := RX0) (T := TX0) (N := 2) hx hb hts nX0_clear_X0 tyX0 tyX0_ok nmX0 hown hK hP hD hS 0 rfl rfl 0 (by decide) k9 (fun _ h9 => h9) rfl (by decide +kernel) rfl rfl (Nat.le_of_ble_eq_true rfl) dX0_clear_2 (fun H locs hP hD hS => ?_)
  have hP : va_P D vwCl [(qF, .inr (0, [.int 0, .int fe]))] H := hP
  have hD : va_D A [(qF, .inr (0, [.int 0, .int fe]))] := hD
  refine lv_aload_n hx hb dX0_clear_5 rfl (lv_at hl 0 rfl) ?_
  refine lv_iconst (v := 0) hx hb dX0_clear_6 (by decide) ?_
  refine va_put (D := D) (ci := 0) (v := .int 0) (ty := .int) (C := RX0) (T := TX0) (N := 2) hx hb hts nX0_clear_X0 tyX0 tyX0_ok nmX0 hown hK hP hD hS 0 rfl rfl 1 (by decide) k15 (fun _ h9 => h9) rfl (by decide +kernel) rfl rfl (Nat.le_of_ble_eq_true rfl) dX0_clear_7 (fun H locs hP hD hS => ?_)
  have hP : va_P D vwCl [(qF, .inr (0, [.int 0, .int 0]))] H := hP
  have hD : va_D A [(qF, .inr (0, [.int 0, .int 0]))] := hD
  exact st_retv hx hb hr hlocks hP hD hS dX0_clear_10
theorem nX0_raise_X0 : ∀ w ∈ wsX00, w ∈ wsX0_raise := fun w h => List.mem_cons_of_mem _ (List.mem_append_right _ h)
set_option maxHeartbeats 4000000 in
set_option maxRecDepth 100000 in
theorem k_X0_raise (l : Launch) (D : va_G) (qF : Nat) (fr fe p0 : Int32) : stV l yX0_raise wsX0_raise ({ frames := 0, cells := 0, slots := 0, locals := 0 } : Room) D [] tE [.ref qF, .int p0] [(qF, .inr (0, [.int fr, .int fe]))] [(qF, .inr (0, [.int (fr ||| p0), .int fe]))] := by
  intro sz
  refine Met.ofW (cc := cX0_raise) (maxL := 2) (ret := none) (by decide) rfl ?_
  intro p e s m args below meth c s₁ B hml hv
  obtain ⟨rfl, rfl, hP, hK, hD, hE⟩ := st_open hv
  have hx := B.exec
  have hb := B.bytes
  have hr := B.returns
  have hts := atoms_spec (ws := wsX0_raise) B.pre
  have hown : s.vm.findClass RX0 = some m.cls := findClass_of_methodNamed B.named
  have hlocks := B.notSynchronized
  generalize hAe : va_A [(qF, .inr (0, [.int fr, .int fe]))] s.heap.size = A at hD ⊢
  have hA : ∀ q : Nat, s.heap.size ≤ q → A q := fun q h => by rw [← hAe]; exact Or.inr h
  have hS : va_S A s.heap s.heap [] := va_S.rf
  have k9 := hts (.fieldLink RX0 9 "PortTimers$Flags" "raised" "I") (by decide +kernel)
  have hl := lv_entry ([.ref qF, .int p0]) (n := 2) (Nat.le_of_ble_eq_true rfl)
  rw [lg_entry_eq]
  generalize (lg_sl ([.ref qF, .int p0]) ++ List.replicate (2 - (lg_sl ([.ref qF, .int p0])).length) Slot.unset).toArray = ls at hl ⊢
  have hl : lv_has ls 2 [(0, .ref qF), (1, .int p0)] := hl
  refine lv_aload_n hx hb dX0_raise_0 rfl (lv_at hl 0 rfl) ?_
  refine lv_dup hx hb dX0_raise_1 rfl ?_
  refine va_get (D := D) (ci := 0) (v := .int fr) (C := RX0) (T := TX0) (N := 2) hx hb hts nX0_raise_X0 hown hK hP 0 rfl rfl 0 (by decide) k9 (fun _ h9 => h9) rfl dX0_raise_2 ?_
  refine lv_iload_n hx hb dX0_raise_5 rfl (lv_at hl 1 rfl) ?_
  refine lv_ior hx hb dX0_raise_6 ?_
  refine va_put (D := D) (ci := 0) (v := .int (fr ||| p0)) (ty := .int) (C := RX0) (T := TX0) (N := 2) hx hb hts nX0_raise_X0 tyX0 tyX0_ok nmX0 hown hK hP hD hS 0 rfl rfl 0 (by decide) k9 (fun _ h9 => h9) rfl (by decide +kernel) rfl rfl (Nat.le_of_ble_eq_true rfl) dX0_raise_7 (fun H locs hP hD hS => ?_)
  have hP : va_P D vwCl [(qF, .inr (0, [.int (fr ||| p0), .int fe]))] H := hP
  have hD : va_D A [(qF, .inr (0, [.int (fr ||| p0), .int fe]))] := hD
  exact st_retv hx hb hr hlocks hP hD hS dX0_raise_10
theorem nX0_lower_X0 : ∀ w ∈ wsX00, w ∈ wsX0_lower := fun w h => List.mem_cons_of_mem _ (List.mem_append_right _ h)
set_option maxHeartbeats 4000000 in
set_option maxRecDepth 100000 in
theorem k_X0_lower (l : Launch) (D : va_G) (qF : Nat) (fr fe p0 : Int32) : stV l yX0_lower wsX0_lower ({ frames := 0, cells := 0, slots := 0, locals := 0 } : Room) D [] tE [.ref qF, .int p0] [(qF, .inr (0, [.int fr, .int fe]))] [(qF, .inr (0, [.int (fr &&& (p0 ^^^ (-1 : Int32))), .int fe]))] := by
  intro sz
  refine Met.ofW (cc := cX0_lower) (maxL := 2) (ret := none) (by decide) rfl ?_
  intro p e s m args below meth c s₁ B hml hv
  obtain ⟨rfl, rfl, hP, hK, hD, hE⟩ := st_open hv
  have hx := B.exec
  have hb := B.bytes
  have hr := B.returns
  have hts := atoms_spec (ws := wsX0_lower) B.pre
  have hown : s.vm.findClass RX0 = some m.cls := findClass_of_methodNamed B.named
  have hlocks := B.notSynchronized
  generalize hAe : va_A [(qF, .inr (0, [.int fr, .int fe]))] s.heap.size = A at hD ⊢
  have hA : ∀ q : Nat, s.heap.size ≤ q → A q := fun q h => by rw [← hAe]; exact Or.inr h
  have hS : va_S A s.heap s.heap [] := va_S.rf
  have k9 := hts (.fieldLink RX0 9 "PortTimers$Flags" "raised" "I") (by decide +kernel)
  have hl := lv_entry ([.ref qF, .int p0]) (n := 2) (Nat.le_of_ble_eq_true rfl)
  rw [lg_entry_eq]
  generalize (lg_sl ([.ref qF, .int p0]) ++ List.replicate (2 - (lg_sl ([.ref qF, .int p0])).length) Slot.unset).toArray = ls at hl ⊢
  have hl : lv_has ls 2 [(0, .ref qF), (1, .int p0)] := hl
  refine lv_aload_n hx hb dX0_lower_0 rfl (lv_at hl 0 rfl) ?_
  refine lv_dup hx hb dX0_lower_1 rfl ?_
  refine va_get (D := D) (ci := 0) (v := .int fr) (C := RX0) (T := TX0) (N := 2) hx hb hts nX0_lower_X0 hown hK hP 0 rfl rfl 0 (by decide) k9 (fun _ h9 => h9) rfl dX0_lower_2 ?_
  refine lv_iload_n hx hb dX0_lower_5 rfl (lv_at hl 1 rfl) ?_
  refine lv_iconst (v := (-1)) hx hb dX0_lower_6 (by decide) ?_
  refine lv_ixor hx hb dX0_lower_7 ?_
  refine lv_iand hx hb dX0_lower_8 ?_
  refine va_put (D := D) (ci := 0) (v := .int (fr &&& (p0 ^^^ (-1 : Int32)))) (ty := .int) (C := RX0) (T := TX0) (N := 2) hx hb hts nX0_lower_X0 tyX0 tyX0_ok nmX0 hown hK hP hD hS 0 rfl rfl 0 (by decide) k9 (fun _ h9 => h9) rfl (by decide +kernel) rfl rfl (Nat.le_of_ble_eq_true rfl) dX0_lower_9 (fun H locs hP hD hS => ?_)
  have hP : va_P D vwCl [(qF, .inr (0, [.int (fr &&& (p0 ^^^ (-1 : Int32))), .int fe]))] H := hP
  have hD : va_D A [(qF, .inr (0, [.int (fr &&& (p0 ^^^ (-1 : Int32))), .int fe]))] := hD
  exact st_retv hx hb hr hlocks hP hD hS dX0_lower_12
def f_X0_has_ret (fr p0 : Int32) : Int32 := if (fr &&& p0) = 0 then 0 else 1
theorem z_X0_has (fr p0 : Int32) : f_X0_has_ret fr p0 = 0 ∨ f_X0_has_ret fr p0 = 1 := by
  unfold f_X0_has_ret
  (repeat' split) <;> decide
theorem nX0_has_X0 : ∀ w ∈ wsX00, w ∈ wsX0_has := fun w h => List.mem_cons_of_mem _ (List.mem_append_right _ h)
set_option maxHeartbeats 4000000 in
set_option maxRecDepth 100000 in
theorem k_X0_has (l : Launch) (D : va_G) (qF : Nat) (fr fe p0 : Int32) : stI l yX0_has wsX0_has ({ frames := 0, cells := 0, slots := 0, locals := 0 } : Room) D [] tE [.ref qF, .int p0] [(qF, .inr (0, [.int fr, .int fe]))] [(qF, .inr (0, [.int fr, .int fe]))] (f_X0_has_ret fr p0) := by
  intro sz
  refine Met.ofW (cc := cX0_has) (maxL := 2) (ret := (some .boolean)) (by decide) rfl ?_
  intro p e s m args below meth c s₁ B hml hv
  obtain ⟨rfl, rfl, hP, hK, hD, hE⟩ := st_open hv
  have hx := B.exec
  have hb := B.bytes
  have hr := B.returns
  have hts := atoms_spec (ws := wsX0_has) B.pre
  have hown : s.vm.findClass RX0 = some m.cls := findClass_of_methodNamed B.named
  have hlocks := B.notSynchronized
  generalize hAe : va_A [(qF, .inr (0, [.int fr, .int fe]))] s.heap.size = A at hD ⊢
  have hA : ∀ q : Nat, s.heap.size ≤ q → A q := fun q h => by rw [← hAe]; exact Or.inr h
  have hS : va_S A s.heap s.heap [] := va_S.rf
  have k9 := hts (.fieldLink RX0 9 "PortTimers$Flags" "raised" "I") (by decide +kernel)
  have hl := lv_entry ([.ref qF, .int p0]) (n := 2) (Nat.le_of_ble_eq_true rfl)
  rw [lg_entry_eq]
  generalize (lg_sl ([.ref qF, .int p0]) ++ List.replicate (2 - (lg_sl ([.ref qF, .int p0])).length) Slot.unset).toArray = ls at hl ⊢
  have hl : lv_has ls 2 [(0, .ref qF), (1, .int p0)] := hl
  refine lv_aload_n hx hb dX0_has_0 rfl (lv_at hl 0 rfl) ?_
  refine va_get (D := D) (ci := 0) (v := .int fr) (C := RX0) (T := TX0) (N := 2) hx hb hts nX0_has_X0 hown hK hP 0 rfl rfl 0 (by decide) k9 (fun _ h9 => h9) rfl dX0_has_1 ?_
  refine lv_iload_n hx hb dX0_has_4 rfl (lv_at hl 1 rfl) ?_
  refine lv_iand hx hb dX0_has_5 ?_
  refine lv_if_eq (tgt := 13) hx hb dX0_has_6 (by decide) (fun c_1 => ?_) (fun c_1 => ?_)
  · refine lv_iconst (v := 0) hx hb dX0_has_13 (by decide) ?_
    exact st_retz hx hb hr hlocks (by decide) (by simp only [f_X0_has_ret, if_pos c_1]) hP hD hS dX0_has_14
  · refine lv_iconst (v := 1) hx hb dX0_has_9 (by decide) ?_
    refine lv_goto (tgt := 14) hx hb dX0_has_10 (by decide) ?_
    exact st_retz hx hb hr hlocks (by decide) (by simp only [f_X0_has_ret, if_neg c_1]) hP hD hS dX0_has_14
def f_X0_enable_fe (fe p0 : Int32) : Int32 := if (p0 &&& (128 : Int32)) = 0 then (fe &&& (p0 ^^^ (-1 : Int32))) else (fe ||| (p0 &&& (127 : Int32)))
theorem nX0_enable_X0 : ∀ w ∈ wsX00, w ∈ wsX0_enable := fun w h => List.mem_cons_of_mem _ (List.mem_append_right _ h)
set_option maxHeartbeats 4000000 in
set_option maxRecDepth 100000 in
theorem k_X0_enable (l : Launch) (D : va_G) (qF : Nat) (fr fe p0 : Int32) : stV l yX0_enable wsX0_enable ({ frames := 0, cells := 0, slots := 0, locals := 0 } : Room) D [] tE [.ref qF, .int p0] [(qF, .inr (0, [.int fr, .int fe]))] [(qF, .inr (0, [.int fr, .int (f_X0_enable_fe fe p0)]))] := by
  intro sz
  refine Met.ofW (cc := cX0_enable) (maxL := 2) (ret := none) (by decide) rfl ?_
  intro p e s m args below meth c s₁ B hml hv
  obtain ⟨rfl, rfl, hP, hK, hD, hE⟩ := st_open hv
  have hx := B.exec
  have hb := B.bytes
  have hr := B.returns
  have hts := atoms_spec (ws := wsX0_enable) B.pre
  have hown : s.vm.findClass RX0 = some m.cls := findClass_of_methodNamed B.named
  have hlocks := B.notSynchronized
  generalize hAe : va_A [(qF, .inr (0, [.int fr, .int fe]))] s.heap.size = A at hD ⊢
  have hA : ∀ q : Nat, s.heap.size ≤ q → A q := fun q h => by rw [← hAe]; exact Or.inr h
  have hS : va_S A s.heap s.heap [] := va_S.rf
  have k15 := hts (.fieldLink RX0 15 "PortTimers$Flags" "enabled" "I") (by decide +kernel)
  have hl := lv_entry ([.ref qF, .int p0]) (n := 2) (Nat.le_of_ble_eq_true rfl)
  rw [lg_entry_eq]
  generalize (lg_sl ([.ref qF, .int p0]) ++ List.replicate (2 - (lg_sl ([.ref qF, .int p0])).length) Slot.unset).toArray = ls at hl ⊢
  have hl : lv_has ls 2 [(0, .ref qF), (1, .int p0)] := hl
  refine lv_iload_n hx hb dX0_enable_0 rfl (lv_at hl 1 rfl) ?_
  refine lv_sipush (v := 128) hx hb dX0_enable_1 (by decide) ?_
  refine lv_iand hx hb dX0_enable_4 ?_
  refine lv_if_eq (tgt := 24) hx hb dX0_enable_5 (by decide) (fun c_1 => ?_) (fun c_1 => ?_)
  · refine lv_aload_n hx hb dX0_enable_24 rfl (lv_at hl 0 rfl) ?_
    refine lv_dup hx hb dX0_enable_25 rfl ?_
    refine va_get (D := D) (ci := 0) (v := .int fe) (C := RX0) (T := TX0) (N := 2) hx hb hts nX0_enable_X0 hown hK hP 0 rfl rfl 1 (by decide) k15 (fun _ h9 => h9) rfl dX0_enable_26 ?_
    refine lv_iload_n hx hb dX0_enable_29 rfl (lv_at hl 1 rfl) ?_
    refine lv_iconst (v := (-1)) hx hb dX0_enable_30 (by decide) ?_
    refine lv_ixor hx hb dX0_enable_31 ?_
    refine lv_iand hx hb dX0_enable_32 ?_
    refine va_put (D := D) (ci := 0) (v := .int (fe &&& (p0 ^^^ (-1 : Int32)))) (ty := .int) (C := RX0) (T := TX0) (N := 2) hx hb hts nX0_enable_X0 tyX0 tyX0_ok nmX0 hown hK hP hD hS 0 rfl rfl 1 (by decide) k15 (fun _ h9 => h9) rfl (by decide +kernel) rfl rfl (Nat.le_of_ble_eq_true rfl) dX0_enable_33 (fun H locs hP hD hS => ?_)
    have hP : va_P D vwCl [(qF, .inr (0, [.int fr, .int (fe &&& (p0 ^^^ (-1 : Int32)))]))] H := hP
    have hD : va_D A [(qF, .inr (0, [.int fr, .int (fe &&& (p0 ^^^ (-1 : Int32)))]))] := hD
    have hw : ([(qF, .inr (0, [.int fr, .int (f_X0_enable_fe fe p0)]))] : va_W) = [(qF, .inr (0, [.int fr, .int (fe &&& (p0 ^^^ (-1 : Int32)))]))] := by simp only [f_X0_enable_fe, if_pos c_1]
    exact st_retv hx hb hr hlocks (by rw [hw]; exact hP) (by rw [hw]; exact hD) hS dX0_enable_36
  · refine lv_aload_n hx hb dX0_enable_8 rfl (lv_at hl 0 rfl) ?_
    refine lv_dup hx hb dX0_enable_9 rfl ?_
    refine va_get (D := D) (ci := 0) (v := .int fe) (C := RX0) (T := TX0) (N := 2) hx hb hts nX0_enable_X0 hown hK hP 0 rfl rfl 1 (by decide) k15 (fun _ h9 => h9) rfl dX0_enable_10 ?_
    refine lv_iload_n hx hb dX0_enable_13 rfl (lv_at hl 1 rfl) ?_
    refine lv_bipush (v := 127) hx hb dX0_enable_14 (by decide) ?_
    refine lv_iand hx hb dX0_enable_16 ?_
    refine lv_ior hx hb dX0_enable_17 ?_
    refine va_put (D := D) (ci := 0) (v := .int (fe ||| (p0 &&& (127 : Int32)))) (ty := .int) (C := RX0) (T := TX0) (N := 2) hx hb hts nX0_enable_X0 tyX0 tyX0_ok nmX0 hown hK hP hD hS 0 rfl rfl 1 (by decide) k15 (fun _ h9 => h9) rfl (by decide +kernel) rfl rfl (Nat.le_of_ble_eq_true rfl) dX0_enable_18 (fun H locs hP hD hS => ?_)
    have hP : va_P D vwCl [(qF, .inr (0, [.int fr, .int (fe ||| (p0 &&& (127 : Int32)))]))] H := hP
    have hD : va_D A [(qF, .inr (0, [.int fr, .int (fe ||| (p0 &&& (127 : Int32)))]))] := hD
    refine lv_goto (tgt := 36) hx hb dX0_enable_21 (by decide) ?_
    have hw : ([(qF, .inr (0, [.int fr, .int (f_X0_enable_fe fe p0)]))] : va_W) = [(qF, .inr (0, [.int fr, .int (fe ||| (p0 &&& (127 : Int32)))]))] := by simp only [f_X0_enable_fe, if_neg c_1]
    exact st_retv hx hb hr hlocks (by rw [hw]; exact hP) (by rw [hw]; exact hD) hS dX0_enable_36
def f_X0_call_ret (fr fe : Int32) : Int32 := if (fr &&& fe) = 0 then 0 else 1
theorem z_X0_call (fr fe : Int32) : f_X0_call_ret fr fe = 0 ∨ f_X0_call_ret fr fe = 1 := by
  unfold f_X0_call_ret
  (repeat' split) <;> decide
theorem nX0_call_X0 : ∀ w ∈ wsX00, w ∈ wsX0_call := fun w h => List.mem_cons_of_mem _ (List.mem_append_right _ h)
set_option maxHeartbeats 4000000 in
set_option maxRecDepth 100000 in
theorem k_X0_call (l : Launch) (D : va_G) (qF : Nat) (fr fe : Int32) : stI l yX0_call wsX0_call ({ frames := 0, cells := 0, slots := 0, locals := 0 } : Room) D [] tE [.ref qF] [(qF, .inr (0, [.int fr, .int fe]))] [(qF, .inr (0, [.int fr, .int fe]))] (f_X0_call_ret fr fe) := by
  intro sz
  refine Met.ofW (cc := cX0_call) (maxL := 1) (ret := (some .boolean)) (by decide) rfl ?_
  intro p e s m args below meth c s₁ B hml hv
  obtain ⟨rfl, rfl, hP, hK, hD, hE⟩ := st_open hv
  have hx := B.exec
  have hb := B.bytes
  have hr := B.returns
  have hts := atoms_spec (ws := wsX0_call) B.pre
  have hown : s.vm.findClass RX0 = some m.cls := findClass_of_methodNamed B.named
  have hlocks := B.notSynchronized
  generalize hAe : va_A [(qF, .inr (0, [.int fr, .int fe]))] s.heap.size = A at hD ⊢
  have hA : ∀ q : Nat, s.heap.size ≤ q → A q := fun q h => by rw [← hAe]; exact Or.inr h
  have hS : va_S A s.heap s.heap [] := va_S.rf
  have k9 := hts (.fieldLink RX0 9 "PortTimers$Flags" "raised" "I") (by decide +kernel)
  have k15 := hts (.fieldLink RX0 15 "PortTimers$Flags" "enabled" "I") (by decide +kernel)
  have hl := lv_entry ([.ref qF]) (n := 1) (Nat.le_of_ble_eq_true rfl)
  rw [lg_entry_eq]
  generalize (lg_sl ([.ref qF]) ++ List.replicate (1 - (lg_sl ([.ref qF])).length) Slot.unset).toArray = ls at hl ⊢
  have hl : lv_has ls 1 [(0, .ref qF)] := hl
  refine lv_aload_n hx hb dX0_call_0 rfl (lv_at hl 0 rfl) ?_
  refine va_get (D := D) (ci := 0) (v := .int fr) (C := RX0) (T := TX0) (N := 2) hx hb hts nX0_call_X0 hown hK hP 0 rfl rfl 0 (by decide) k9 (fun _ h9 => h9) rfl dX0_call_1 ?_
  refine lv_aload_n hx hb dX0_call_4 rfl (lv_at hl 0 rfl) ?_
  refine va_get (D := D) (ci := 0) (v := .int fe) (C := RX0) (T := TX0) (N := 2) hx hb hts nX0_call_X0 hown hK hP 0 rfl rfl 1 (by decide) k15 (fun _ h9 => h9) rfl dX0_call_5 ?_
  refine lv_iand hx hb dX0_call_8 ?_
  refine lv_if_eq (tgt := 16) hx hb dX0_call_9 (by decide) (fun c_1 => ?_) (fun c_1 => ?_)
  · refine lv_iconst (v := 0) hx hb dX0_call_16 (by decide) ?_
    exact st_retz hx hb hr hlocks (by decide) (by simp only [f_X0_call_ret, if_pos c_1]) hP hD hS dX0_call_17
  · refine lv_iconst (v := 1) hx hb dX0_call_12 (by decide) ?_
    refine lv_goto (tgt := 17) hx hb dX0_call_13 (by decide) ?_
    exact st_retz hx hb hr hlocks (by decide) (by simp only [f_X0_call_ret, if_neg c_1]) hP hD hS dX0_call_17
def f_X0_withCall_ret (fr fe : Int32) : Int32 := if (f_X0_call_ret fr fe) = 0 then fr else (fr ||| (128 : Int32))
theorem nX0_withCall_X0 : ∀ w ∈ wsX00, w ∈ wsX0_withCall := fun w h => List.mem_cons_of_mem _ (List.mem_append_right _ h)
set_option maxHeartbeats 4000000 in
set_option maxRecDepth 100000 in
theorem k_X0_withCall (l : Launch) (D : va_G) (qF : Nat) (fr fe : Int32) : stI l yX0_withCall wsX0_withCall ({ frames := 1, cells := 0, slots := 0, locals := 20 } : Room) D [] tE [.ref qF] [(qF, .inr (0, [.int fr, .int fe]))] [(qF, .inr (0, [.int fr, .int fe]))] (f_X0_withCall_ret fr fe) := by
  intro sz
  refine Met.ofW (cc := cX0_withCall) (maxL := 1) (ret := (some .int)) (by decide) rfl ?_
  intro p e s m args below meth c s₁ B hml hv
  obtain ⟨rfl, rfl, hP, hK, hD, hE⟩ := st_open hv
  have hx := B.exec
  have hb := B.bytes
  have hr := B.returns
  have hts := atoms_spec (ws := wsX0_withCall) B.pre
  have hown : s.vm.findClass RX0 = some m.cls := findClass_of_methodNamed B.named
  have hlocks := B.notSynchronized
  generalize hAe : va_A [(qF, .inr (0, [.int fr, .int fe]))] s.heap.size = A at hD ⊢
  have hA : ∀ q : Nat, s.heap.size ≤ q → A q := fun q h => by rw [← hAe]; exact Or.inr h
  have hS : va_S A s.heap s.heap [] := va_S.rf
  have k9 := hts (.fieldLink RX0 9 "PortTimers$Flags" "raised" "I") (by decide +kernel)
  have hl := lv_entry ([.ref qF]) (n := 1) (Nat.le_of_ble_eq_true rfl)
  rw [lg_entry_eq]
  generalize (lg_sl ([.ref qF]) ++ List.replicate (1 - (lg_sl ([.ref qF])).length) Slot.unset).toArray = ls at hl ⊢
  have hl : lv_has ls 1 [(0, .ref qF)] := hl
  refine lv_aload_n hx hb dX0_withCall_0 rfl (lv_at hl 0 rfl) ?_
  refine st_iV (As := []) (rest := []) (wc := [(qF, .inr (0, [.int fr, .int fe]))]) (wr := []) (w1 := [(qF, .inr (0, [.int fr, .int fe]))]) (wn := [(qF, .inr (0, [.int fr, .int fe]))]) (r := f_X0_call_ret fr fe) ⟨hx, hb, hml, hown, hts⟩ (k_X0_call l D qF fr fe) (cwV 0 hts gX0_withCall_X0_call rfl rfl rfl (by decide +kernel) ⟨Nat.le_of_ble_eq_true rfl, Nat.le_of_ble_eq_true rfl⟩) tE_v (fun _ _ => trivial) hK hP hD hS hA (fun hPc => va_recv hK hPc (ci := 0) (q0 := 0) rfl rfl) [0] [] [0] rfl rfl (by decide) rfl rfl rfl hl.1 (Nat.le_of_ble_eq_true rfl) dX0_withCall_1 ⟨Nat.zero_le _, Nat.zero_le _⟩ (fun H locs hP hD hS => ?_)
  refine lv_if_eq (tgt := 18) hx hb dX0_withCall_4 (by decide) (fun c_1 => ?_) (fun c_1 => ?_)
  · refine lv_aload_n hx hb dX0_withCall_18 rfl (lv_at hl 0 rfl) ?_
    refine va_get (D := D) (ci := 0) (v := .int fr) (C := RX0) (T := TX0) (N := 2) hx hb hts nX0_withCall_X0 hown hK hP 0 rfl rfl 0 (by decide) k9 (fun _ h9 => h9) rfl dX0_withCall_19 ?_
    exact st_reti hx hb hr hlocks (by simp only [f_X0_withCall_ret, if_pos c_1]) hP hD hS dX0_withCall_22
  · refine lv_aload_n hx hb dX0_withCall_7 rfl (lv_at hl 0 rfl) ?_
    refine va_get (D := D) (ci := 0) (v := .int fr) (C := RX0) (T := TX0) (N := 2) hx hb hts nX0_withCall_X0 hown hK hP 0 rfl rfl 0 (by decide) k9 (fun _ h9 => h9) rfl dX0_withCall_8 ?_
    refine lv_sipush (v := 128) hx hb dX0_withCall_11 (by decide) ?_
    refine lv_ior hx hb dX0_withCall_14 ?_
    refine lv_goto (tgt := 22) hx hb dX0_withCall_15 (by decide) ?_
    exact st_reti hx hb hr hlocks (by simp only [f_X0_withCall_ret, if_neg c_1]) hP hD hS dX0_withCall_22
