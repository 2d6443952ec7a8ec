theorem nX3_clear_X3 : ∀ w ∈ wsX30, w ∈ wsX3_clear := fun w h => List.mem_cons_of_mem _ (List.mem_append_right _ h)
set_option maxHeartbeats 4000000 in
set_option maxRecDepth 100000 in
theorem k_X3_clear (l : Launch) (D : va_G) (q1 qF : Nat) (tc tl tb ta td : Int32) : stV l yX3_clear wsX3_clear ({ frames := 0, cells := 0, slots := 0, locals := 0 } : Room) D [] tE [.ref q1] [(q1, .inr (3, [.ref qF, .int tc, .int tl, .int tb, .int ta, .int td]))] [(q1, .inr (3, [.ref qF, .int 0, .int 0, .int 1, .int 0, .int 0]))] := by
  intro sz
  refine Met.ofW (cc := cX3_clear) (maxL := 1) (ret := none) (by decide) rfl ?_
  intro p e s m args below meth c s₁ B hml hv
  obtain ⟨rfl, rfl, hP, hK, hD, hE⟩ := st_open hv
  have hx := B.exec
  have hb := B.bytes
  have hr := B.returns
  have hts := atoms_spec (ws := wsX3_clear) B.pre
  have hown : s.vm.findClass RX3 = some m.cls := findClass_of_methodNamed B.named
  have hlocks := B.notSynchronized
  generalize hAe : va_A [(q1, .inr (3, [.ref qF, .int tc, .int tl, .int tb, .int ta, .int td]))] s.heap.size = A at hD ⊢
  have hA : ∀ q : Nat, s.heap.size ≤ q → A q := fun q h => by rw [← hAe]; exact Or.inr h
  have hS : va_S A s.heap s.heap [] := va_S.rf
  have k9 := hts (.fieldLink RX3 9 "PortTimers$Timer1" "bit" "I") (by decide +kernel)
  have k19 := hts (.fieldLink RX3 19 "PortTimers$Timer1" "count" "I") (by decide +kernel)
  have k22 := hts (.fieldLink RX3 22 "PortTimers$Timer1" "latch" "I") (by decide +kernel)
  have k25 := hts (.fieldLink RX3 25 "PortTimers$Timer1" "armed" "Z") (by decide +kernel)
  have k29 := hts (.fieldLink RX3 29 "PortTimers$Timer1" "latchIsDue" "Z") (by decide +kernel)
  have hl := lv_entry ([.ref q1]) (n := 1) (Nat.le_of_ble_eq_true rfl)
  rw [lg_entry_eq]
  generalize (lg_sl ([.ref q1]) ++ List.replicate (1 - (lg_sl ([.ref q1])).length) Slot.unset).toArray = ls at hl ⊢
  have hl : lv_has ls 1 [(0, .ref q1)] := hl
  refine lv_aload_n hx hb dX3_clear_0 rfl (lv_at hl 0 rfl) ?_
  refine lv_iconst (v := 0) hx hb dX3_clear_1 (by decide) ?_
  refine va_put (D := D) (ci := 3) (v := .int 0) (ty := .int) (C := RX3) (T := TX3) (N := 6) hx hb hts nX3_clear_X3 tyX3 tyX3_ok nmX3 hown hK hP hD hS 0 rfl rfl 1 (by decide) k19 (fun _ h9 => h9) rfl (by decide +kernel) rfl rfl (Nat.le_of_ble_eq_true rfl) dX3_clear_2 (fun H locs hP hD hS => ?_)
  have hP : va_P D vwCl [(q1, .inr (3, [.ref qF, .int 0, .int tl, .int tb, .int ta, .int td]))] H := hP
  have hD : va_D A [(q1, .inr (3, [.ref qF, .int 0, .int tl, .int tb, .int ta, .int td]))] := hD
  refine lv_aload_n hx hb dX3_clear_5 rfl (lv_at hl 0 rfl) ?_
  refine lv_iconst (v := 0) hx hb dX3_clear_6 (by decide) ?_
  refine va_put (D := D) (ci := 3) (v := .int 0) (ty := .int) (C := RX3) (T := TX3) (N := 6) hx hb hts nX3_clear_X3 tyX3 tyX3_ok nmX3 hown hK hP hD hS 0 rfl rfl 2 (by decide) k22 (fun _ h9 => h9) rfl (by decide +kernel) rfl rfl (Nat.le_of_ble_eq_true rfl) dX3_clear_7 (fun H locs hP hD hS => ?_)
  have hP : va_P D vwCl [(q1, .inr (3, [.ref qF, .int 0, .int 0, .int tb, .int ta, .int td]))] H := hP
  have hD : va_D A [(q1, .inr (3, [.ref qF, .int 0, .int 0, .int tb, .int ta, .int td]))] := hD
  refine lv_aload_n hx hb dX3_clear_10 rfl (lv_at hl 0 rfl) ?_
  refine lv_iconst (v := 1) hx hb dX3_clear_11 (by decide) ?_
  refine va_put (D := D) (ci := 3) (v := .int 1) (ty := .int) (C := RX3) (T := TX3) (N := 6) hx hb hts nX3_clear_X3 tyX3 tyX3_ok nmX3 hown hK hP hD hS 0 rfl rfl 3 (by decide) k9 (fun _ h9 => h9) rfl (by decide +kernel) rfl rfl (Nat.le_of_ble_eq_true rfl) dX3_clear_12 (fun H locs hP hD hS => ?_)
  have hP : va_P D vwCl [(q1, .inr (3, [.ref qF, .int 0, .int 0, .int 1, .int ta, .int td]))] H := hP
  have hD : va_D A [(q1, .inr (3, [.ref qF, .int 0, .int 0, .int 1, .int ta, .int td]))] := hD
  refine lv_aload_n hx hb dX3_clear_15 rfl (lv_at hl 0 rfl) ?_
  refine lv_iconst (v := 0) hx hb dX3_clear_16 (by decide) ?_
  refine va_put (D := D) (ci := 3) (v := .int 0) (ty := .boolean) (C := RX3) (T := TX3) (N := 6) hx hb hts nX3_clear_X3 tyX3 tyX3_ok nmX3 hown hK hP hD hS 0 rfl rfl 4 (by decide) k25 (fun _ h9 => h9) rfl (by decide +kernel) rfl rfl (Nat.le_of_ble_eq_true rfl) dX3_clear_17 (fun H locs hP hD hS => ?_)
  have hP : va_P D vwCl [(q1, .inr (3, [.ref qF, .int 0, .int 0, .int 1, .int 0, .int td]))] H := hP
  have hD : va_D A [(q1, .inr (3, [.ref qF, .int 0, .int 0, .int 1, .int 0, .int td]))] := hD
  refine lv_aload_n hx hb dX3_clear_20 rfl (lv_at hl 0 rfl) ?_
  refine lv_iconst (v := 0) hx hb dX3_clear_21 (by decide) ?_
  refine va_put (D := D) (ci := 3) (v := .int 0) (ty := .boolean) (C := RX3) (T := TX3) (N := 6) hx hb hts nX3_clear_X3 tyX3 tyX3_ok nmX3 hown hK hP hD hS 0 rfl rfl 5 (by decide) k29 (fun _ h9 => h9) rfl (by decide +kernel) rfl rfl (Nat.le_of_ble_eq_true rfl) dX3_clear_22 (fun H locs hP hD hS => ?_)
  have hP : va_P D vwCl [(q1, .inr (3, [.ref qF, .int 0, .int 0, .int 1, .int 0, .int 0]))] H := hP
  have hD : va_D A [(q1, .inr (3, [.ref qF, .int 0, .int 0, .int 1, .int 0, .int 0]))] := hD
  exact st_retv hx hb hr hlocks hP hD hS dX3_clear_25
theorem nX3_latchLow_X3 : ∀ w ∈ wsX30, w ∈ wsX3_latchLow := fun w h => List.mem_cons_of_mem _ (List.mem_append_right _ h)
set_option maxHeartbeats 4000000 in
set_option maxRecDepth 100000 in
theorem k_X3_latchLow (l : Launch) (D : va_G) (q1 qF : Nat) (tc tl tb ta td p0 : Int32) : stV l yX3_latchLow wsX3_latchLow ({ frames := 0, cells := 0, slots := 0, locals := 0 } : Room) D [] tE [.ref q1, .int p0] [(q1, .inr (3, [.ref qF, .int tc, .int tl, .int tb, .int ta, .int td]))] [(q1, .inr (3, [.ref qF, .int tc, .int ((tl &&& (-256 : Int32)) ||| p0), .int tb, .int ta, .int td]))] := by
  intro sz
  refine Met.ofW (cc := cX3_latchLow) (maxL := 2) (ret := none) (by decide) rfl ?_
  intro p e s m args below meth c s₁ B hml hv
  obtain ⟨rfl, rfl, hP, hK, hD, hE⟩ := st_open hv
  have hx := B.exec
  have hb := B.bytes
  have hr := B.returns
  have hts := atoms_spec (ws := wsX3_latchLow) B.pre
  have hown : s.vm.findClass RX3 = some m.cls := findClass_of_methodNamed B.named
  have hlocks := B.notSynchronized
  generalize hAe : va_A [(q1, .inr (3, [.ref qF, .int tc, .int tl, .int tb, .int ta, .int td]))] s.heap.size = A at hD ⊢
  have hA : ∀ q : Nat, s.heap.size ≤ q → A q := fun q h => by rw [← hAe]; exact Or.inr h
  have hS : va_S A s.heap s.heap [] := va_S.rf
  have k22 := hts (.fieldLink RX3 22 "PortTimers$Timer1" "latch" "I") (by decide +kernel)
  have hl := lv_entry ([.ref q1, .int p0]) (n := 2) (Nat.le_of_ble_eq_true rfl)
  rw [lg_entry_eq]
  generalize (lg_sl ([.ref q1, .int p0]) ++ List.replicate (2 - (lg_sl ([.ref q1, .int p0])).length) Slot.unset).toArray = ls at hl ⊢
  have hl : lv_has ls 2 [(0, .ref q1), (1, .int p0)] := hl
  refine lv_aload_n hx hb dX3_latchLow_0 rfl (lv_at hl 0 rfl) ?_
  refine lv_aload_n hx hb dX3_latchLow_1 rfl (lv_at hl 0 rfl) ?_
  refine va_get (D := D) (ci := 3) (v := .int tl) (C := RX3) (T := TX3) (N := 6) hx hb hts nX3_latchLow_X3 hown hK hP 0 rfl rfl 2 (by decide) k22 (fun _ h9 => h9) rfl dX3_latchLow_2 ?_
  refine lv_sipush (v := (-256)) hx hb dX3_latchLow_5 (by decide) ?_
  refine lv_iand hx hb dX3_latchLow_8 ?_
  refine lv_iload_n hx hb dX3_latchLow_9 rfl (lv_at hl 1 rfl) ?_
  refine lv_ior hx hb dX3_latchLow_10 ?_
  refine va_put (D := D) (ci := 3) (v := .int ((tl &&& (-256 : Int32)) ||| p0)) (ty := .int) (C := RX3) (T := TX3) (N := 6) hx hb hts nX3_latchLow_X3 tyX3 tyX3_ok nmX3 hown hK hP hD hS 0 rfl rfl 2 (by decide) k22 (fun _ h9 => h9) rfl (by decide +kernel) rfl rfl (Nat.le_of_ble_eq_true rfl) dX3_latchLow_11 (fun H locs hP hD hS => ?_)
  have hP : va_P D vwCl [(q1, .inr (3, [.ref qF, .int tc, .int ((tl &&& (-256 : Int32)) ||| p0), .int tb, .int ta, .int td]))] H := hP
  have hD : va_D A [(q1, .inr (3, [.ref qF, .int tc, .int ((tl &&& (-256 : Int32)) ||| p0), .int tb, .int ta, .int td]))] := hD
  exact st_retv hx hb hr hlocks hP hD hS dX3_latchLow_14
theorem nX3_latchHigh_X3 : ∀ w ∈ wsX30, w ∈ wsX3_latchHigh := fun w h => List.mem_cons_of_mem _ (List.mem_append_left _ (List.mem_append_right _ h))
set_option maxHeartbeats 4000000 in
set_option maxRecDepth 100000 in
theorem k_X3_latchHigh (l : Launch) (D : va_G) (q1 qF : Nat) (tc tl tb ta td fr fe p0 : Int32) : stV l yX3_latchHigh wsX3_latchHigh ({ frames := 1, cells := 0, slots := 0, locals := 21 } : Room) D [] tE [.ref q1, .int p0] [(q1, .inr (3, [.ref qF, .int tc, .int tl, .int tb, .int ta, .int td])), (qF, .inr (0, [.int fr, .int fe]))] [(q1, .inr (3, [.ref qF, .int tc, .int ((p0 <<< ((8 : Int32) &&& (31 : Int32)) : Int32) ||| (tl &&& (255 : Int32))), .int tb, .int ta, .int td])), (qF, .inr (0, [.int (fr &&& (64 ^^^ (-1 : Int32))), .int fe]))] := by
  intro sz
  refine Met.ofW (cc := cX3_latchHigh) (maxL := 2) (ret := none) (by decide) rfl ?_
  intro p e s m args below meth c s₁ B hml hv
  obtain ⟨rfl, rfl, hP, hK, hD, hE⟩ := st_open hv
  have hx := B.exec
  have hb := B.bytes
  have hr := B.returns
  have hts := atoms_spec (ws := wsX3_latchHigh) B.pre
  have hown : s.vm.findClass RX3 = some m.cls := findClass_of_methodNamed B.named
  have hlocks := B.notSynchronized
  generalize hAe : va_A [(q1, .inr (3, [.ref qF, .int tc, .int tl, .int tb, .int ta, .int td])), (qF, .inr (0, [.int fr, .int fe]))] s.heap.size = A at hD ⊢
  have hA : ∀ q : Nat, s.heap.size ≤ q → A q := fun q h => by rw [← hAe]; exact Or.inr h
  have hS : va_S A s.heap s.heap [] := va_S.rf
  have k15 := hts (.fieldLink RX3 15 "PortTimers$Timer1" "flags" "LPortTimers$Flags;") (by decide +kernel)
  have k22 := hts (.fieldLink RX3 22 "PortTimers$Timer1" "latch" "I") (by decide +kernel)
  have hl := lv_entry ([.ref q1, .int p0]) (n := 2) (Nat.le_of_ble_eq_true rfl)
  rw [lg_entry_eq]
  generalize (lg_sl ([.ref q1, .int p0]) ++ List.replicate (2 - (lg_sl ([.ref q1, .int p0])).length) Slot.unset).toArray = ls at hl ⊢
  have hl : lv_has ls 2 [(0, .ref q1), (1, .int p0)] := hl
  refine lv_aload_n hx hb dX3_latchHigh_0 rfl (lv_at hl 0 rfl) ?_
  refine lv_iload_n hx hb dX3_latchHigh_1 rfl (lv_at hl 1 rfl) ?_
  refine lv_bipush (v := 8) hx hb dX3_latchHigh_2 (by decide) ?_
  refine lv_ishl hx hb dX3_latchHigh_4 ?_
  refine lv_aload_n hx hb dX3_latchHigh_5 rfl (lv_at hl 0 rfl) ?_
  refine va_get (D := D) (ci := 3) (v := .int tl) (C := RX3) (T := TX3) (N := 6) hx hb hts nX3_latchHigh_X3 hown hK hP 0 rfl rfl 2 (by decide) k22 (fun _ h9 => h9) rfl dX3_latchHigh_6 ?_
  refine lv_sipush (v := 255) hx hb dX3_latchHigh_9 (by decide) ?_
  refine lv_iand hx hb dX3_latchHigh_12 ?_
  refine lv_ior hx hb dX3_latchHigh_13 ?_
  refine va_put (D := D) (ci := 3) (v := .int ((p0 <<< ((8 : Int32) &&& (31 : Int32)) : Int32) ||| (tl &&& (255 : Int32)))) (ty := .int) (C := RX3) (T := TX3) (N := 6) hx hb hts nX3_latchHigh_X3 tyX3 tyX3_ok nmX3 hown hK hP hD hS 0 rfl rfl 2 (by decide) k22 (fun _ h9 => h9) rfl (by decide +kernel) rfl rfl (Nat.le_of_ble_eq_true rfl) dX3_latchHigh_14 (fun H locs hP hD hS => ?_)
  have hP : va_P D vwCl [(q1, .inr (3, [.ref qF, .int tc, .int ((p0 <<< ((8 : Int32) &&& (31 : Int32)) : Int32) ||| (tl &&& (255 : Int32))), .int tb, .int ta, .int td])), (qF, .inr (0, [.int fr, .int fe]))] H := hP
  have hD : va_D A [(q1, .inr (3, [.ref qF, .int tc, .int ((p0 <<< ((8 : Int32) &&& (31 : Int32)) : Int32) ||| (tl &&& (255 : Int32))), .int tb, .int ta, .int td])), (qF, .inr (0, [.int fr, .int fe]))] := hD
  refine lv_aload_n hx hb dX3_latchHigh_17 rfl (lv_at hl 0 rfl) ?_
  refine va_get (D := D) (ci := 3) (v := .ref qF) (C := RX3) (T := TX3) (N := 6) hx hb hts nX3_latchHigh_X3 hown hK hP 0 rfl rfl 0 (by decide) k15 (fun _ h9 => h9) rfl dX3_latchHigh_18 ?_
  refine lv_bipush (v := 64) hx hb dX3_latchHigh_21 (by decide) ?_
  refine st_vV (As := [.int 64]) (rest := []) (wc := [(qF, .inr (0, [.int fr, .int fe]))]) (wr := [(q1, .inr (3, [.ref qF, .int tc, .int ((p0 <<< ((8 : Int32) &&& (31 : Int32)) : Int32) ||| (tl &&& (255 : Int32))), .int tb, .int ta, .int td]))]) (w1 := [(qF, .inr (0, [.int (fr &&& (64 ^^^ (-1 : Int32))), .int fe]))]) (wn := [(q1, .inr (3, [.ref qF, .int tc, .int ((p0 <<< ((8 : Int32) &&& (31 : Int32)) : Int32) ||| (tl &&& (255 : Int32))), .int tb, .int ta, .int td])), (qF, .inr (0, [.int (fr &&& (64 ^^^ (-1 : Int32))), .int fe]))]) ⟨hx, hb, hml, hown, hts⟩ (k_X0_lower l D qF fr fe 64) (cwV 1 hts gX3_latchHigh_X0_lower rfl rfl rfl (by decide +kernel) ⟨Nat.le_of_ble_eq_true rfl, Nat.le_of_ble_eq_true rfl⟩) tE_v (fun _ _ => trivial) hK hP hD hS hA (fun hPc => va_recv hK hPc (ci := 0) (q0 := 0) rfl rfl) [1] [0] [0, 1] rfl rfl (by decide) rfl rfl rfl hl.1 (Nat.le_of_ble_eq_true rfl) dX3_latchHigh_23 ⟨Nat.zero_le _, Nat.zero_le _⟩ (fun H locs hP hD hS => ?_)
  exact st_retv hx hb hr hlocks hP hD hS dX3_latchHigh_26
theorem nX3_start_X3 : ∀ w ∈ wsX30, w ∈ wsX3_start := fun w h => List.mem_cons_of_mem _ (List.mem_append_right _ h)
set_option maxHeartbeats 4000000 in
set_option maxRecDepth 100000 in
theorem k_X3_start (l : Launch) (D : va_G) (q1 qF : Nat) (tc tl tb ta td : Int32) : stV l yX3_start wsX3_start ({ frames := 0, cells := 0, slots := 0, locals := 0 } : Room) D [] tE [.ref q1] [(q1, .inr (3, [.ref qF, .int tc, .int tl, .int tb, .int ta, .int td]))] [(q1, .inr (3, [.ref qF, .int tl, .int tl, .int 0, .int 1, .int 0]))] := by
  intro sz
  refine Met.ofW (cc := cX3_start) (maxL := 1) (ret := none) (by decide) rfl ?_
  intro p e s m args below meth c s₁ B hml hv
  obtain ⟨rfl, rfl, hP, hK, hD, hE⟩ := st_open hv
  have hx := B.exec
  have hb := B.bytes
  have hr := B.returns
  have hts := atoms_spec (ws := wsX3_start) B.pre
  have hown : s.vm.findClass RX3 = some m.cls := findClass_of_methodNamed B.named
  have hlocks := B.notSynchronized
  generalize hAe : va_A [(q1, .inr (3, [.ref qF, .int tc, .int tl, .int tb, .int ta, .int td]))] s.heap.size = A at hD ⊢
  have hA : ∀ q : Nat, s.heap.size ≤ q → A q := fun q h => by rw [← hAe]; exact Or.inr h
  have hS : va_S A s.heap s.heap [] := va_S.rf
  have k9 := hts (.fieldLink RX3 9 "PortTimers$Timer1" "bit" "I") (by decide +kernel)
  have k19 := hts (.fieldLink RX3 19 "PortTimers$Timer1" "count" "I") (by decide +kernel)
  have k22 := hts (.fieldLink RX3 22 "PortTimers$Timer1" "latch" "I") (by decide +kernel)
  have k25 := hts (.fieldLink RX3 25 "PortTimers$Timer1" "armed" "Z") (by decide +kernel)
  have k29 := hts (.fieldLink RX3 29 "PortTimers$Timer1" "latchIsDue" "Z") (by decide +kernel)
  have hl := lv_entry ([.ref q1]) (n := 1) (Nat.le_of_ble_eq_true rfl)
  rw [lg_entry_eq]
  generalize (lg_sl ([.ref q1]) ++ List.replicate (1 - (lg_sl ([.ref q1])).length) Slot.unset).toArray = ls at hl ⊢
  have hl : lv_has ls 1 [(0, .ref q1)] := hl
  refine lv_aload_n hx hb dX3_start_0 rfl (lv_at hl 0 rfl) ?_
  refine lv_aload_n hx hb dX3_start_1 rfl (lv_at hl 0 rfl) ?_
  refine va_get (D := D) (ci := 3) (v := .int tl) (C := RX3) (T := TX3) (N := 6) hx hb hts nX3_start_X3 hown hK hP 0 rfl rfl 2 (by decide) k22 (fun _ h9 => h9) rfl dX3_start_2 ?_
  refine va_put (D := D) (ci := 3) (v := .int tl) (ty := .int) (C := RX3) (T := TX3) (N := 6) hx hb hts nX3_start_X3 tyX3 tyX3_ok nmX3 hown hK hP hD hS 0 rfl rfl 1 (by decide) k19 (fun _ h9 => h9) rfl (by decide +kernel) rfl rfl (Nat.le_of_ble_eq_true rfl) dX3_start_5 (fun H locs hP hD hS => ?_)
  have hP : va_P D vwCl [(q1, .inr (3, [.ref qF, .int tl, .int tl, .int tb, .int ta, .int td]))] H := hP
  have hD : va_D A [(q1, .inr (3, [.ref qF, .int tl, .int tl, .int tb, .int ta, .int td]))] := hD
  refine lv_aload_n hx hb dX3_start_8 rfl (lv_at hl 0 rfl) ?_
  refine lv_iconst (v := 1) hx hb dX3_start_9 (by decide) ?_
  refine va_put (D := D) (ci := 3) (v := .int 1) (ty := .boolean) (C := RX3) (T := TX3) (N := 6) hx hb hts nX3_start_X3 tyX3 tyX3_ok nmX3 hown hK hP hD hS 0 rfl rfl 4 (by decide) k25 (fun _ h9 => h9) rfl (by decide +kernel) rfl rfl (Nat.le_of_ble_eq_true rfl) dX3_start_10 (fun H locs hP hD hS => ?_)
  have hP : va_P D vwCl [(q1, .inr (3, [.ref qF, .int tl, .int tl, .int tb, .int 1, .int td]))] H := hP
  have hD : va_D A [(q1, .inr (3, [.ref qF, .int tl, .int tl, .int tb, .int 1, .int td]))] := hD
  refine lv_aload_n hx hb dX3_start_13 rfl (lv_at hl 0 rfl) ?_
  refine lv_iconst (v := 0) hx hb dX3_start_14 (by decide) ?_
  refine va_put (D := D) (ci := 3) (v := .int 0) (ty := .int) (C := RX3) (T := TX3) (N := 6) hx hb hts nX3_start_X3 tyX3 tyX3_ok nmX3 hown hK hP hD hS 0 rfl rfl 3 (by decide) k9 (fun _ h9 => h9) rfl (by decide +kernel) rfl rfl (Nat.le_of_ble_eq_true rfl) dX3_start_15 (fun H locs hP hD hS => ?_)
  have hP : va_P D vwCl [(q1, .inr (3, [.ref qF, .int tl, .int tl, .int 0, .int 1, .int td]))] H := hP
  have hD : va_D A [(q1, .inr (3, [.ref qF, .int tl, .int tl, .int 0, .int 1, .int td]))] := hD
  refine lv_aload_n hx hb dX3_start_18 rfl (lv_at hl 0 rfl) ?_
  refine lv_iconst (v := 0) hx hb dX3_start_19 (by decide) ?_
  refine va_put (D := D) (ci := 3) (v := .int 0) (ty := .boolean) (C := RX3) (T := TX3) (N := 6) hx hb hts nX3_start_X3 tyX3 tyX3_ok nmX3 hown hK hP hD hS 0 rfl rfl 5 (by decide) k29 (fun _ h9 => h9) rfl (by decide +kernel) rfl rfl (Nat.le_of_ble_eq_true rfl) dX3_start_20 (fun H locs hP hD hS => ?_)
  have hP : va_P D vwCl [(q1, .inr (3, [.ref qF, .int tl, .int tl, .int 0, .int 1, .int 0]))] H := hP
  have hD : va_D A [(q1, .inr (3, [.ref qF, .int tl, .int tl, .int 0, .int 1, .int 0]))] := hD
  exact st_retv hx hb hr hlocks hP hD hS dX3_start_23
def f_X3_runOut_tc (tl p0 : Int32) : Int32 := if (p0 - p0 / (tl + (2 : Int32)) * (tl + (2 : Int32))) = 0 then 65535 else ((tl + (1 : Int32)) - (p0 - p0 / (tl + (2 : Int32)) * (tl + (2 : Int32))))
def f_X3_runOut_td (tl p0 : Int32) : Int32 := if (p0 - p0 / (tl + (2 : Int32)) * (tl + (2 : Int32))) = 0 then 1 else 0
theorem nX3_runOut_X3 : ∀ w ∈ wsX30, w ∈ wsX3_runOut := fun w h => List.mem_cons_of_mem _ (List.mem_append_left _ (List.mem_append_right _ h))
set_option maxHeartbeats 4000000 in
set_option maxRecDepth 100000 in
theorem k_X3_runOut (l : Launch) (D : va_G) (q1 qF : Nat) (tc tl tb ta td fr fe p0 : Int32) (hne : ¬ tl + 2 = 0) : stV l yX3_runOut wsX3_runOut ({ frames := 1, cells := 0, slots := 0, locals := 21 } : Room) D [] tE [.ref q1, .int p0] [(q1, .inr (3, [.ref qF, .int tc, .int tl, .int tb, .int ta, .int td])), (qF, .inr (0, [.int fr, .int fe]))] [(q1, .inr (3, [.ref qF, .int (f_X3_runOut_tc tl p0), .int tl, .int (tb ^^^ (((1 : Int32) + (p0 / (tl + (2 : Int32)))) &&& (1 : Int32))), .int ta, .int (f_X3_runOut_td tl p0)])), (qF, .inr (0, [.int (fr ||| 64), .int fe]))] := by
  intro sz
  refine Met.ofW (cc := cX3_runOut) (maxL := 5) (ret := none) (by decide) rfl ?_
  intro p e s m args below meth c s₁ B hml hv
  obtain ⟨rfl, rfl, hP, hK, hD, hE⟩ := st_open hv
  have hx := B.exec
  have hb := B.bytes
  have hr := B.returns
  have hts := atoms_spec (ws := wsX3_runOut) B.pre
  have hown : s.vm.findClass RX3 = some m.cls := findClass_of_methodNamed B.named
  have hlocks := B.notSynchronized
  generalize hAe : va_A [(q1, .inr (3, [.ref qF, .int tc, .int tl, .int tb, .int ta, .int td])), (qF, .inr (0, [.int fr, .int fe]))] s.heap.size = A at hD ⊢
  have hA : ∀ q : Nat, s.heap.size ≤ q → A q := fun q h => by rw [← hAe]; exact Or.inr h
  have hS : va_S A s.heap s.heap [] := va_S.rf
  have k9 := hts (.fieldLink RX3 9 "PortTimers$Timer1" "bit" "I") (by decide +kernel)
  have k15 := hts (.fieldLink RX3 15 "PortTimers$Timer1" "flags" "LPortTimers$Flags;") (by decide +kernel)
  have k19 := hts (.fieldLink RX3 19 "PortTimers$Timer1" "count" "I") (by decide +kernel)
  have k22 := hts (.fieldLink RX3 22 "PortTimers$Timer1" "latch" "I") (by decide +kernel)
  have k29 := hts (.fieldLink RX3 29 "PortTimers$Timer1" "latchIsDue" "Z") (by decide +kernel)
  have k47 := hts (.constant RX3 47 (65535)) (by decide +kernel)
  have hl := lv_entry ([.ref q1, .int p0]) (n := 5) (Nat.le_of_ble_eq_true rfl)
  rw [lg_entry_eq]
  generalize (lg_sl ([.ref q1, .int p0]) ++ List.replicate (5 - (lg_sl ([.ref q1, .int p0])).length) Slot.unset).toArray = ls at hl ⊢
  have hl : lv_has ls 5 [(0, .ref q1), (1, .int p0)] := hl
  refine lv_aload_n hx hb dX3_runOut_0 rfl (lv_at hl 0 rfl) ?_
  refine va_get (D := D) (ci := 3) (v := .int tl) (C := RX3) (T := TX3) (N := 6) hx hb hts nX3_runOut_X3 hown hK hP 0 rfl rfl 2 (by decide) k22 (fun _ h9 => h9) rfl dX3_runOut_1 ?_
  refine lv_iconst (v := 2) hx hb dX3_runOut_4 (by decide) ?_
  refine lv_iadd hx hb dX3_runOut_5 ?_
  refine lv_istore_n (lv' := [(2, .int (tl + (2 : Int32))), (0, .ref q1), (1, .int p0)]) hx hb dX3_runOut_6 rfl hl (by decide) rfl (fun ls hl => ?_)
  refine lv_iconst (v := 1) hx hb dX3_runOut_7 (by decide) ?_
  refine lv_iload_n hx hb dX3_runOut_8 rfl (lv_at hl 2 rfl) ?_
  refine lv_iload_n hx hb dX3_runOut_9 rfl (lv_at hl 0 rfl) ?_
  refine lv_idiv hx hb dX3_runOut_10 hne ?_
  refine lv_iadd hx hb dX3_runOut_11 ?_
  refine lv_istore_n (lv' := [(3, .int ((1 : Int32) + (p0 / (tl + (2 : Int32))))), (2, .int (tl + (2 : Int32))), (0, .ref q1), (1, .int p0)]) hx hb dX3_runOut_12 rfl hl (by decide) rfl (fun ls hl => ?_)
  refine lv_iload_n hx hb dX3_runOut_13 rfl (lv_at hl 3 rfl) ?_
  refine lv_iload_n hx hb dX3_runOut_14 rfl (lv_at hl 1 rfl) ?_
  refine lv_irem hx hb dX3_runOut_15 hne ?_
  refine lv_istore (lv' := [(4, .int (p0 - p0 / (tl + (2 : Int32)) * (tl + (2 : Int32)))), (3, .int ((1 : Int32) + (p0 / (tl + (2 : Int32))))), (2, .int (tl + (2 : Int32))), (0, .ref q1), (1, .int p0)]) hx hb dX3_runOut_16 hl (by decide) rfl (fun ls hl => ?_)
  refine lv_aload_n hx hb dX3_runOut_18 rfl (lv_at hl 3 rfl) ?_
  refine va_get (D := D) (ci := 3) (v := .ref qF) (C := RX3) (T := TX3) (N := 6) hx hb hts nX3_runOut_X3 hown hK hP 0 rfl rfl 0 (by decide) k15 (fun _ h9 => h9) rfl dX3_runOut_19 ?_
  refine lv_bipush (v := 64) hx hb dX3_runOut_22 (by decide) ?_
  refine st_vV (As := [.int 64]) (rest := []) (wc := [(qF, .inr (0, [.int fr, .int fe]))]) (wr := [(q1, .inr (3, [.ref qF, .int tc, .int tl, .int tb, .int ta, .int td]))]) (w1 := [(qF, .inr (0, [.int (fr ||| 64), .int fe]))]) (wn := [(q1, .inr (3, [.ref qF, .int tc, .int tl, .int tb, .int ta, .int td])), (qF, .inr (0, [.int (fr ||| 64), .int fe]))]) ⟨hx, hb, hml, hown, hts⟩ (k_X0_raise l D qF fr fe 64) (cwV 1 hts gX3_runOut_X0_raise rfl rfl rfl (by decide +kernel) ⟨Nat.le_of_ble_eq_true rfl, Nat.le_of_ble_eq_true rfl⟩) tE_v (fun _ _ => trivial) hK hP hD hS hA (fun hPc => va_recv hK hPc (ci := 0) (q0 := 0) rfl rfl) [1] [0] [0, 1] rfl rfl (by decide) rfl rfl rfl hl.1 (Nat.le_of_ble_eq_true rfl) dX3_runOut_24 ⟨Nat.zero_le _, Nat.zero_le _⟩ (fun H locs hP hD hS => ?_)
  refine lv_aload_n hx hb dX3_runOut_27 rfl (lv_at hl 3 rfl) ?_
  refine lv_dup hx hb dX3_runOut_28 rfl ?_
  refine va_get (D := D) (ci := 3) (v := .int tb) (C := RX3) (T := TX3) (N := 6) hx hb hts nX3_runOut_X3 hown hK hP 0 rfl rfl 3 (by decide) k9 (fun _ h9 => h9) rfl dX3_runOut_29 ?_
  refine lv_iload_n hx hb dX3_runOut_32 rfl (lv_at hl 1 rfl) ?_
  refine lv_iconst (v := 1) hx hb dX3_runOut_33 (by decide) ?_
  refine lv_iand hx hb dX3_runOut_34 ?_
  refine lv_ixor hx hb dX3_runOut_35 ?_
  refine va_put (D := D) (ci := 3) (v := .int (tb ^^^ (((1 : Int32) + (p0 / (tl + (2 : Int32)))) &&& (1 : Int32)))) (ty := .int) (C := RX3) (T := TX3) (N := 6) hx hb hts nX3_runOut_X3 tyX3 tyX3_ok nmX3 hown hK hP hD hS 0 rfl rfl 3 (by decide) k9 (fun _ h9 => h9) rfl (by decide +kernel) rfl rfl (Nat.le_of_ble_eq_true rfl) dX3_runOut_36 (fun H locs hP hD hS => ?_)
  have hP : va_P D vwCl [(q1, .inr (3, [.ref qF, .int tc, .int tl, .int (tb ^^^ (((1 : Int32) + (p0 / (tl + (2 : Int32)))) &&& (1 : Int32))), .int ta, .int td])), (qF, .inr (0, [.int (fr ||| 64), .int fe]))] H := hP
  have hD : va_D A [(q1, .inr (3, [.ref qF, .int tc, .int tl, .int (tb ^^^ (((1 : Int32) + (p0 / (tl + (2 : Int32)))) &&& (1 : Int32))), .int ta, .int td])), (qF, .inr (0, [.int (fr ||| 64), .int fe]))] := hD
  refine lv_aload_n hx hb dX3_runOut_39 rfl (lv_at hl 3 rfl) ?_
  refine lv_iload hx hb dX3_runOut_40 (lv_at hl 0 rfl) ?_
  refine lv_if_ne (tgt := 49) hx hb dX3_runOut_42 (by decide) (fun c_1 => ?_) (fun c_1 => ?_)
  · refine lv_iconst (v := 0) hx hb dX3_runOut_49 (by decide) ?_
    refine va_put (D := D) (ci := 3) (v := .int 0) (ty := .boolean) (C := RX3) (T := TX3) (N := 6) hx hb hts nX3_runOut_X3 tyX3 tyX3_ok nmX3 hown hK hP hD hS 0 rfl rfl 5 (by decide) k29 (fun _ h9 => h9) rfl (by decide +kernel) rfl rfl (Nat.le_of_ble_eq_true rfl) dX3_runOut_50 (fun H locs hP hD hS => ?_)
    have hP : va_P D vwCl [(q1, .inr (3, [.ref qF, .int tc, .int tl, .int (tb ^^^ (((1 : Int32) + (p0 / (tl + (2 : Int32)))) &&& (1 : Int32))), .int ta, .int 0])), (qF, .inr (0, [.int (fr ||| 64), .int fe]))] H := hP
    have hD : va_D A [(q1, .inr (3, [.ref qF, .int tc, .int tl, .int (tb ^^^ (((1 : Int32) + (p0 / (tl + (2 : Int32)))) &&& (1 : Int32))), .int ta, .int 0])), (qF, .inr (0, [.int (fr ||| 64), .int fe]))] := hD
    refine lv_aload_n hx hb dX3_runOut_53 rfl (lv_at hl 3 rfl) ?_
    refine lv_aload_n hx hb dX3_runOut_54 rfl (lv_at hl 3 rfl) ?_
    refine va_get (D := D) (ci := 3) (v := .int 0) (C := RX3) (T := TX3) (N := 6) hx hb hts nX3_runOut_X3 hown hK hP 0 rfl rfl 5 (by decide) k29 (fun _ h9 => h9) rfl dX3_runOut_55 ?_
    refine lv_if_eq (tgt := 66) hx hb dX3_runOut_58 (by decide) (fun _ => ?_) (fun cc => absurd cc (by decide))
    refine lv_aload_n hx hb dX3_runOut_66 rfl (lv_at hl 3 rfl) ?_
    refine va_get (D := D) (ci := 3) (v := .int tl) (C := RX3) (T := TX3) (N := 6) hx hb hts nX3_runOut_X3 hown hK hP 0 rfl rfl 2 (by decide) k22 (fun _ h9 => h9) rfl dX3_runOut_67 ?_
    refine lv_iconst (v := 1) hx hb dX3_runOut_70 (by decide) ?_
    refine lv_iadd hx hb dX3_runOut_71 ?_
    refine lv_iload hx hb dX3_runOut_72 (lv_at hl 0 rfl) ?_
    refine lv_isub hx hb dX3_runOut_74 ?_
    refine va_put (D := D) (ci := 3) (v := .int ((tl + (1 : Int32)) - (p0 - p0 / (tl + (2 : Int32)) * (tl + (2 : Int32))))) (ty := .int) (C := RX3) (T := TX3) (N := 6) hx hb hts nX3_runOut_X3 tyX3 tyX3_ok nmX3 hown hK hP hD hS 0 rfl rfl 1 (by decide) k19 (fun _ h9 => h9) rfl (by decide +kernel) rfl rfl (Nat.le_of_ble_eq_true rfl) dX3_runOut_75 (fun H locs hP hD hS => ?_)
    have hP : va_P D vwCl [(q1, .inr (3, [.ref qF, .int ((tl + (1 : Int32)) - (p0 - p0 / (tl + (2 : Int32)) * (tl + (2 : Int32)))), .int tl, .int (tb ^^^ (((1 : Int32) + (p0 / (tl + (2 : Int32)))) &&& (1 : Int32))), .int ta, .int 0])), (qF, .inr (0, [.int (fr ||| 64), .int fe]))] H := hP
    have hD : va_D A [(q1, .inr (3, [.ref qF, .int ((tl + (1 : Int32)) - (p0 - p0 / (tl + (2 : Int32)) * (tl + (2 : Int32)))), .int tl, .int (tb ^^^ (((1 : Int32) + (p0 / (tl + (2 : Int32)))) &&& (1 : Int32))), .int ta, .int 0])), (qF, .inr (0, [.int (fr ||| 64), .int fe]))] := hD
    have hw : ([(q1, .inr (3, [.ref qF, .int (f_X3_runOut_tc tl p0), .int tl, .int (tb ^^^ (((1 : Int32) + (p0 / (tl + (2 : Int32)))) &&& (1 : Int32))), .int ta, .int (f_X3_runOut_td tl p0)])), (qF, .inr (0, [.int (fr ||| 64), .int fe]))] : va_W) = [(q1, .inr (3, [.ref qF, .int ((tl + (1 : Int32)) - (p0 - p0 / (tl + (2 : Int32)) * (tl + (2 : Int32)))), .int tl, .int (tb ^^^ (((1 : Int32) + (p0 / (tl + (2 : Int32)))) &&& (1 : Int32))), .int ta, .int 0])), (qF, .inr (0, [.int (fr ||| 64), .int fe]))] := by simp only [f_X3_runOut_tc, f_X3_runOut_td, if_neg c_1]
    exact st_retv hx hb hr hlocks (by rw [hw]; exact hP) (by rw [hw]; exact hD) hS dX3_runOut_78
  · refine lv_iconst (v := 1) hx hb dX3_runOut_45 (by decide) ?_
    refine lv_goto (tgt := 50) hx hb dX3_runOut_46 (by decide) ?_
    refine va_put (D := D) (ci := 3) (v := .int 1) (ty := .boolean) (C := RX3) (T := TX3) (N := 6) hx hb hts nX3_runOut_X3 tyX3 tyX3_ok nmX3 hown hK hP hD hS 0 rfl rfl 5 (by decide) k29 (fun _ h9 => h9) rfl (by decide +kernel) rfl rfl (Nat.le_of_ble_eq_true rfl) dX3_runOut_50 (fun H locs hP hD hS => ?_)
    have hP : va_P D vwCl [(q1, .inr (3, [.ref qF, .int tc, .int tl, .int (tb ^^^ (((1 : Int32) + (p0 / (tl + (2 : Int32)))) &&& (1 : Int32))), .int ta, .int 1])), (qF, .inr (0, [.int (fr ||| 64), .int fe]))] H := hP
    have hD : va_D A [(q1, .inr (3, [.ref qF, .int tc, .int tl, .int (tb ^^^ (((1 : Int32) + (p0 / (tl + (2 : Int32)))) &&& (1 : Int32))), .int ta, .int 1])), (qF, .inr (0, [.int (fr ||| 64), .int fe]))] := hD
    refine lv_aload_n hx hb dX3_runOut_53 rfl (lv_at hl 3 rfl) ?_
    refine lv_aload_n hx hb dX3_runOut_54 rfl (lv_at hl 3 rfl) ?_
    refine va_get (D := D) (ci := 3) (v := .int 1) (C := RX3) (T := TX3) (N := 6) hx hb hts nX3_runOut_X3 hown hK hP 0 rfl rfl 5 (by decide) k29 (fun _ h9 => h9) rfl dX3_runOut_55 ?_
    refine lv_if_eq (tgt := 66) hx hb dX3_runOut_58 (by decide) (fun cc => absurd cc (by decide)) (fun _ => ?_)
    refine lv_ldc (v := 65535) hx hb hown k47 dX3_runOut_61 ?_
    refine lv_goto (tgt := 75) hx hb dX3_runOut_63 (by decide) ?_
    refine va_put (D := D) (ci := 3) (v := .int 65535) (ty := .int) (C := RX3) (T := TX3) (N := 6) hx hb hts nX3_runOut_X3 tyX3 tyX3_ok nmX3 hown hK hP hD hS 0 rfl rfl 1 (by decide) k19 (fun _ h9 => h9) rfl (by decide +kernel) rfl rfl (Nat.le_of_ble_eq_true rfl) dX3_runOut_75 (fun H locs hP hD hS => ?_)
    have hP : va_P D vwCl [(q1, .inr (3, [.ref qF, .int 65535, .int tl, .int (tb ^^^ (((1 : Int32) + (p0 / (tl + (2 : Int32)))) &&& (1 : Int32))), .int ta, .int 1])), (qF, .inr (0, [.int (fr ||| 64), .int fe]))] H := hP
    have hD : va_D A [(q1, .inr (3, [.ref qF, .int 65535, .int tl, .int (tb ^^^ (((1 : Int32) + (p0 / (tl + (2 : Int32)))) &&& (1 : Int32))), .int ta, .int 1])), (qF, .inr (0, [.int (fr ||| 64), .int fe]))] := hD
    have hw : ([(q1, .inr (3, [.ref qF, .int (f_X3_runOut_tc tl p0), .int tl, .int (tb ^^^ (((1 : Int32) + (p0 / (tl + (2 : Int32)))) &&& (1 : Int32))), .int ta, .int (f_X3_runOut_td tl p0)])), (qF, .inr (0, [.int (fr ||| 64), .int fe]))] : va_W) = [(q1, .inr (3, [.ref qF, .int 65535, .int tl, .int (tb ^^^ (((1 : Int32) + (p0 / (tl + (2 : Int32)))) &&& (1 : Int32))), .int ta, .int 1])), (qF, .inr (0, [.int (fr ||| 64), .int fe]))] := by simp only [f_X3_runOut_tc, f_X3_runOut_td, if_pos c_1]
    exact st_retv hx hb hr hlocks (by rw [hw]; exact hP) (by rw [hw]; exact hD) hS dX3_runOut_78
def f_X3_runFreely_tc (tc tl td p0 : Int32) : Int32 := if td = 0 then (if p0 ≤ tc then (tc - p0) else (f_X3_runOut_tc tl ((p0 - tc) - (1 : Int32)))) else (if (p0 + (-1)) ≤ tl then (tl - (p0 + (-1))) else (f_X3_runOut_tc tl (((p0 + (-1)) - tl) - (1 : Int32))))
def f_X3_runFreely_tb (tc tl tb td p0 : Int32) : Int32 := if td = 0 then (if p0 ≤ tc then tb else (tb ^^^ (((1 : Int32) + (((p0 - tc) - (1 : Int32)) / (tl + (2 : Int32)))) &&& (1 : Int32)))) else (if (p0 + (-1)) ≤ tl then tb else (tb ^^^ (((1 : Int32) + ((((p0 + (-1)) - tl) - (1 : Int32)) / (tl + (2 : Int32)))) &&& (1 : Int32))))
def f_X3_runFreely_td (tc tl td p0 : Int32) : Int32 := if td = 0 then (if p0 ≤ tc then td else (f_X3_runOut_td tl ((p0 - tc) - (1 : Int32)))) else (if (p0 + (-1)) ≤ tl then 0 else (f_X3_runOut_td tl (((p0 + (-1)) - tl) - (1 : Int32))))
def f_X3_runFreely_fr (tc tl td fr p0 : Int32) : Int32 := if td = 0 then (if p0 ≤ tc then fr else (fr ||| 64)) else (if (p0 + (-1)) ≤ tl then fr else (fr ||| 64))
theorem nX3_runFreely_X3 : ∀ w ∈ wsX30, w ∈ wsX3_runFreely := fun w h => List.mem_cons_of_mem _ (List.mem_append_left _ (List.mem_append_right _ h))
set_option maxHeartbeats 4000000 in
set_option maxRecDepth 100000 in
theorem k_X3_runFreely (l : Launch) (D : va_G) (q1 qF : Nat) (tc tl tb ta td fr fe p0 : Int32) (hne : ¬ tl + 2 = 0) : stV l yX3_runFreely wsX3_runFreely ({ frames := 2, cells := 0, slots := 0, locals := 45 } : Room) D [] tE [.ref q1, .int p0] [(q1, .inr (3, [.ref qF, .int tc, .int tl, .int tb, .int ta, .int td])), (qF, .inr (0, [.int fr, .int fe]))] [(q1, .inr (3, [.ref qF, .int (f_X3_runFreely_tc tc tl td p0), .int tl, .int (f_X3_runFreely_tb tc tl tb td p0), .int ta, .int (f_X3_runFreely_td tc tl td p0)])), (qF, .inr (0, [.int (f_X3_runFreely_fr tc tl td fr p0), .int fe]))] := by
  intro sz
  refine Met.ofW (cc := cX3_runFreely) (maxL := 3) (ret := none) (by decide) rfl ?_
  intro p e s m args below meth c s₁ B hml hv
  obtain ⟨rfl, rfl, hP, hK, hD, hE⟩ := st_open hv
  have hx := B.exec
  have hb := B.bytes
  have hr := B.returns
  have hts := atoms_spec (ws := wsX3_runFreely) B.pre
  have hown : s.vm.findClass RX3 = some m.cls := findClass_of_methodNamed B.named
  have hlocks := B.notSynchronized
  generalize hAe : va_A [(q1, .inr (3, [.ref qF, .int tc, .int tl, .int tb, .int ta, .int td])), (qF, .inr (0, [.int fr, .int fe]))] s.heap.size = A at hD ⊢
  have hA : ∀ q : Nat, s.heap.size ≤ q → A q := fun q h => by rw [← hAe]; exact Or.inr h
  have hS : va_S A s.heap s.heap [] := va_S.rf
  have k19 := hts (.fieldLink RX3 19 "PortTimers$Timer1" "count" "I") (by decide +kernel)
  have k22 := hts (.fieldLink RX3 22 "PortTimers$Timer1" "latch" "I") (by decide +kernel)
  have k29 := hts (.fieldLink RX3 29 "PortTimers$Timer1" "latchIsDue" "Z") (by decide +kernel)
  have hl := lv_entry ([.ref q1, .int p0]) (n := 3) (Nat.le_of_ble_eq_true rfl)
  rw [lg_entry_eq]
  generalize (lg_sl ([.ref q1, .int p0]) ++ List.replicate (3 - (lg_sl ([.ref q1, .int p0])).length) Slot.unset).toArray = ls at hl ⊢
  have hl : lv_has ls 3 [(0, .ref q1), (1, .int p0)] := hl
  refine lv_iload_n hx hb dX3_runFreely_0 rfl (lv_at hl 1 rfl) ?_
  refine lv_istore_n (lv' := [(2, .int p0), (0, .ref q1), (1, .int p0)]) hx hb dX3_runFreely_1 rfl hl (by decide) rfl (fun ls hl => ?_)
  refine lv_aload_n hx hb dX3_runFreely_2 rfl (lv_at hl 1 rfl) ?_
  refine va_get (D := D) (ci := 3) (v := .int td) (C := RX3) (T := TX3) (N := 6) hx hb hts nX3_runFreely_X3 hown hK hP 0 rfl rfl 5 (by decide) k29 (fun _ h9 => h9) rfl dX3_runFreely_3 ?_
  refine lv_if_eq (tgt := 25) hx hb dX3_runFreely_6 (by decide) (fun c_1 => ?_) (fun c_1 => ?_)
  · refine lv_iload_n hx hb dX3_runFreely_25 rfl (lv_at hl 0 rfl) ?_
    refine lv_aload_n hx hb dX3_runFreely_26 rfl (lv_at hl 1 rfl) ?_
    refine va_get (D := D) (ci := 3) (v := .int tc) (C := RX3) (T := TX3) (N := 6) hx hb hts nX3_runFreely_X3 hown hK hP 0 rfl rfl 1 (by decide) k19 (fun _ h9 => h9) rfl dX3_runFreely_27 ?_
    refine lv_icmp_le (tgt := 48) hx hb dX3_runFreely_30 (by decide) (fun c_2 => ?_) (fun c_2 => ?_)
    · refine lv_aload_n hx hb dX3_runFreely_48 rfl (lv_at hl 1 rfl) ?_
      refine lv_dup hx hb dX3_runFreely_49 rfl ?_
      refine va_get (D := D) (ci := 3) (v := .int tc) (C := RX3) (T := TX3) (N := 6) hx hb hts nX3_runFreely_X3 hown hK hP 0 rfl rfl 1 (by decide) k19 (fun _ h9 => h9) rfl dX3_runFreely_50 ?_
      refine lv_iload_n hx hb dX3_runFreely_53 rfl (lv_at hl 0 rfl) ?_
      refine lv_isub hx hb dX3_runFreely_54 ?_
      refine va_put (D := D) (ci := 3) (v := .int (tc - p0)) (ty := .int) (C := RX3) (T := TX3) (N := 6) hx hb hts nX3_runFreely_X3 tyX3 tyX3_ok nmX3 hown hK hP hD hS 0 rfl rfl 1 (by decide) k19 (fun _ h9 => h9) rfl (by decide +kernel) rfl rfl (Nat.le_of_ble_eq_true rfl) dX3_runFreely_55 (fun H locs hP hD hS => ?_)
      have hP : va_P D vwCl [(q1, .inr (3, [.ref qF, .int (tc - p0), .int tl, .int tb, .int ta, .int td])), (qF, .inr (0, [.int fr, .int fe]))] H := hP
      have hD : va_D A [(q1, .inr (3, [.ref qF, .int (tc - p0), .int tl, .int tb, .int ta, .int td])), (qF, .inr (0, [.int fr, .int fe]))] := hD
      have hw : ([(q1, .inr (3, [.ref qF, .int (f_X3_runFreely_tc tc tl td p0), .int tl, .int (f_X3_runFreely_tb tc tl tb td p0), .int ta, .int (f_X3_runFreely_td tc tl td p0)])), (qF, .inr (0, [.int (f_X3_runFreely_fr tc tl td fr p0), .int fe]))] : va_W) = [(q1, .inr (3, [.ref qF, .int (tc - p0), .int tl, .int tb, .int ta, .int td])), (qF, .inr (0, [.int fr, .int fe]))] := by simp only [f_X3_runFreely_tc, f_X3_runFreely_tb, f_X3_runFreely_td, f_X3_runFreely_fr, if_pos c_1, if_pos c_2]
      exact st_retv hx hb hr hlocks (by rw [hw]; exact hP) (by rw [hw]; exact hD) hS dX3_runFreely_58
    · refine lv_aload_n hx hb dX3_runFreely_33 rfl (lv_at hl 1 rfl) ?_
      refine lv_iload_n hx hb dX3_runFreely_34 rfl (lv_at hl 0 rfl) ?_
      refine lv_aload_n hx hb dX3_runFreely_35 rfl (lv_at hl 1 rfl) ?_
      refine va_get (D := D) (ci := 3) (v := .int tc) (C := RX3) (T := TX3) (N := 6) hx hb hts nX3_runFreely_X3 hown hK hP 0 rfl rfl 1 (by decide) k19 (fun _ h9 => h9) rfl dX3_runFreely_36 ?_
      refine lv_isub hx hb dX3_runFreely_39 ?_
      refine lv_iconst (v := 1) hx hb dX3_runFreely_40 (by decide) ?_
      refine lv_isub hx hb dX3_runFreely_41 ?_
      refine st_vV (As := [.int ((p0 - tc) - (1 : Int32))]) (rest := []) (wc := [(q1, .inr (3, [.ref qF, .int tc, .int tl, .int tb, .int ta, .int td])), (qF, .inr (0, [.int fr, .int fe]))]) (wr := []) (w1 := [(q1, .inr (3, [.ref qF, .int (f_X3_runOut_tc tl ((p0 - tc) - (1 : Int32))), .int tl, .int (tb ^^^ (((1 : Int32) + (((p0 - tc) - (1 : Int32)) / (tl + (2 : Int32)))) &&& (1 : Int32))), .int ta, .int (f_X3_runOut_td tl ((p0 - tc) - (1 : Int32)))])), (qF, .inr (0, [.int (fr ||| 64), .int fe]))]) (wn := [(q1, .inr (3, [.ref qF, .int (f_X3_runOut_tc tl ((p0 - tc) - (1 : Int32))), .int tl, .int (tb ^^^ (((1 : Int32) + (((p0 - tc) - (1 : Int32)) / (tl + (2 : Int32)))) &&& (1 : Int32))), .int ta, .int (f_X3_runOut_td tl ((p0 - tc) - (1 : Int32)))])), (qF, .inr (0, [.int (fr ||| 64), .int fe]))]) ⟨hx, hb, hml, hown, hts⟩ (k_X3_runOut l D q1 qF tc tl tb ta td fr fe ((p0 - tc) - (1 : Int32)) hne) (cwV 1 hts gX3_runFreely_X3_runOut rfl rfl rfl (by decide +kernel) ⟨Nat.le_of_ble_eq_true rfl, Nat.le_of_ble_eq_true rfl⟩) tE_v (fun _ _ => trivial) hK hP hD hS hA (fun hPc => va_recv hK hPc (ci := 3) (q0 := 0) rfl rfl) [0, 1] [] [0, 1] rfl rfl (by decide) rfl rfl rfl hl.1 (Nat.le_of_ble_eq_true rfl) dX3_runFreely_42 ⟨Nat.zero_le _, Nat.zero_le _⟩ (fun H locs hP hD hS => ?_)
      refine lv_goto (tgt := 58) hx hb dX3_runFreely_45 (by decide) ?_
      have hw : ([(q1, .inr (3, [.ref qF, .int (f_X3_runFreely_tc tc tl td p0), .int tl, .int (f_X3_runFreely_tb tc tl tb td p0), .int ta, .int (f_X3_runFreely_td tc tl td p0)])), (qF, .inr (0, [.int (f_X3_runFreely_fr tc tl td fr p0), .int fe]))] : va_W) = [(q1, .inr (3, [.ref qF, .int (f_X3_runOut_tc tl ((p0 - tc) - (1 : Int32))), .int tl, .int (tb ^^^ (((1 : Int32) + (((p0 - tc) - (1 : Int32)) / (tl + (2 : Int32)))) &&& (1 : Int32))), .int ta, .int (f_X3_runOut_td tl ((p0 - tc) - (1 : Int32)))])), (qF, .inr (0, [.int (fr ||| 64), .int fe]))] := by simp only [f_X3_runFreely_tc, f_X3_runFreely_tb, f_X3_runFreely_td, f_X3_runFreely_fr, if_pos c_1, if_neg c_2]
      exact st_retv hx hb hr hlocks (by rw [hw]; exact hP) (by rw [hw]; exact hD) hS dX3_runFreely_58
  · refine lv_aload_n hx hb dX3_runFreely_9 rfl (lv_at hl 1 rfl) ?_
    refine lv_aload_n hx hb dX3_runFreely_10 rfl (lv_at hl 1 rfl) ?_
    refine va_get (D := D) (ci := 3) (v := .int tl) (C := RX3) (T := TX3) (N := 6) hx hb hts nX3_runFreely_X3 hown hK hP 0 rfl rfl 2 (by decide) k22 (fun _ h9 => h9) rfl dX3_runFreely_11 ?_
    refine va_put (D := D) (ci := 3) (v := .int tl) (ty := .int) (C := RX3) (T := TX3) (N := 6) hx hb hts nX3_runFreely_X3 tyX3 tyX3_ok nmX3 hown hK hP hD hS 0 rfl rfl 1 (by decide) k19 (fun _ h9 => h9) rfl (by decide +kernel) rfl rfl (Nat.le_of_ble_eq_true rfl) dX3_runFreely_14 (fun H locs hP hD hS => ?_)
    have hP : va_P D vwCl [(q1, .inr (3, [.ref qF, .int tl, .int tl, .int tb, .int ta, .int td])), (qF, .inr (0, [.int fr, .int fe]))] H := hP
    have hD : va_D A [(q1, .inr (3, [.ref qF, .int tl, .int tl, .int tb, .int ta, .int td])), (qF, .inr (0, [.int fr, .int fe]))] := hD
    refine lv_aload_n hx hb dX3_runFreely_17 rfl (lv_at hl 1 rfl) ?_
    refine lv_iconst (v := 0) hx hb dX3_runFreely_18 (by decide) ?_
    refine va_put (D := D) (ci := 3) (v := .int 0) (ty := .boolean) (C := RX3) (T := TX3) (N := 6) hx hb hts nX3_runFreely_X3 tyX3 tyX3_ok nmX3 hown hK hP hD hS 0 rfl rfl 5 (by decide) k29 (fun _ h9 => h9) rfl (by decide +kernel) rfl rfl (Nat.le_of_ble_eq_true rfl) dX3_runFreely_19 (fun H locs hP hD hS => ?_)
    have hP : va_P D vwCl [(q1, .inr (3, [.ref qF, .int tl, .int tl, .int tb, .int ta, .int 0])), (qF, .inr (0, [.int fr, .int fe]))] H := hP
    have hD : va_D A [(q1, .inr (3, [.ref qF, .int tl, .int tl, .int tb, .int ta, .int 0])), (qF, .inr (0, [.int fr, .int fe]))] := hD
    refine lv_iinc (v := p0 + (-1)) (lv' := [(2, .int (p0 + (-1))), (0, .ref q1), (1, .int p0)]) hx hb dX3_runFreely_22 hl (k := 0) rfl rfl (by decide) rfl (fun ls hl => ?_)
    refine lv_iload_n hx hb dX3_runFreely_25 rfl (lv_at hl 0 rfl) ?_
    refine lv_aload_n hx hb dX3_runFreely_26 rfl (lv_at hl 1 rfl) ?_
    refine va_get (D := D) (ci := 3) (v := .int tl) (C := RX3) (T := TX3) (N := 6) hx hb hts nX3_runFreely_X3 hown hK hP 0 rfl rfl 1 (by decide) k19 (fun _ h9 => h9) rfl dX3_runFreely_27 ?_
    refine lv_icmp_le (tgt := 48) hx hb dX3_runFreely_30 (by decide) (fun c_3 => ?_) (fun c_3 => ?_)
    · refine lv_aload_n hx hb dX3_runFreely_48 rfl (lv_at hl 1 rfl) ?_
      refine lv_dup hx hb dX3_runFreely_49 rfl ?_
      refine va_get (D := D) (ci := 3) (v := .int tl) (C := RX3) (T := TX3) (N := 6) hx hb hts nX3_runFreely_X3 hown hK hP 0 rfl rfl 1 (by decide) k19 (fun _ h9 => h9) rfl dX3_runFreely_50 ?_
      refine lv_iload_n hx hb dX3_runFreely_53 rfl (lv_at hl 0 rfl) ?_
      refine lv_isub hx hb dX3_runFreely_54 ?_
      refine va_put (D := D) (ci := 3) (v := .int (tl - (p0 + (-1)))) (ty := .int) (C := RX3) (T := TX3) (N := 6) hx hb hts nX3_runFreely_X3 tyX3 tyX3_ok nmX3 hown hK hP hD hS 0 rfl rfl 1 (by decide) k19 (fun _ h9 => h9) rfl (by decide +kernel) rfl rfl (Nat.le_of_ble_eq_true rfl) dX3_runFreely_55 (fun H locs hP hD hS => ?_)
      have hP : va_P D vwCl [(q1, .inr (3, [.ref qF, .int (tl - (p0 + (-1))), .int tl, .int tb, .int ta, .int 0])), (qF, .inr (0, [.int fr, .int fe]))] H := hP
      have hD : va_D A [(q1, .inr (3, [.ref qF, .int (tl - (p0 + (-1))), .int tl, .int tb, .int ta, .int 0])), (qF, .inr (0, [.int fr, .int fe]))] := hD
      have hw : ([(q1, .inr (3, [.ref qF, .int (f_X3_runFreely_tc tc tl td p0), .int tl, .int (f_X3_runFreely_tb tc tl tb td p0), .int ta, .int (f_X3_runFreely_td tc tl td p0)])), (qF, .inr (0, [.int (f_X3_runFreely_fr tc tl td fr p0), .int fe]))] : va_W) = [(q1, .inr (3, [.ref qF, .int (tl - (p0 + (-1))), .int tl, .int tb, .int ta, .int 0])), (qF, .inr (0, [.int fr, .int fe]))] := by simp only [f_X3_runFreely_tc, f_X3_runFreely_tb, f_X3_runFreely_td, f_X3_runFreely_fr, if_neg c_1, if_pos c_3]
      exact st_retv hx hb hr hlocks (by rw [hw]; exact hP) (by rw [hw]; exact hD) hS dX3_runFreely_58
    · refine lv_aload_n hx hb dX3_runFreely_33 rfl (lv_at hl 1 rfl) ?_
      refine lv_iload_n hx hb dX3_runFreely_34 rfl (lv_at hl 0 rfl) ?_
      refine lv_aload_n hx hb dX3_runFreely_35 rfl (lv_at hl 1 rfl) ?_
      refine va_get (D := D) (ci := 3) (v := .int tl) (C := RX3) (T := TX3) (N := 6) hx hb hts nX3_runFreely_X3 hown hK hP 0 rfl rfl 1 (by decide) k19 (fun _ h9 => h9) rfl dX3_runFreely_36 ?_
      refine lv_isub hx hb dX3_runFreely_39 ?_
      refine lv_iconst (v := 1) hx hb dX3_runFreely_40 (by decide) ?_
      refine lv_isub hx hb dX3_runFreely_41 ?_
      refine st_vV (As := [.int (((p0 + (-1)) - tl) - (1 : Int32))]) (rest := []) (wc := [(q1, .inr (3, [.ref qF, .int tl, .int tl, .int tb, .int ta, .int 0])), (qF, .inr (0, [.int fr, .int fe]))]) (wr := []) (w1 := [(q1, .inr (3, [.ref qF, .int (f_X3_runOut_tc tl (((p0 + (-1)) - tl) - (1 : Int32))), .int tl, .int (tb ^^^ (((1 : Int32) + ((((p0 + (-1)) - tl) - (1 : Int32)) / (tl + (2 : Int32)))) &&& (1 : Int32))), .int ta, .int (f_X3_runOut_td tl (((p0 + (-1)) - tl) - (1 : Int32)))])), (qF, .inr (0, [.int (fr ||| 64), .int fe]))]) (wn := [(q1, .inr (3, [.ref qF, .int (f_X3_runOut_tc tl (((p0 + (-1)) - tl) - (1 : Int32))), .int tl, .int (tb ^^^ (((1 : Int32) + ((((p0 + (-1)) - tl) - (1 : Int32)) / (tl + (2 : Int32)))) &&& (1 : Int32))), .int ta, .int (f_X3_runOut_td tl (((p0 + (-1)) - tl) - (1 : Int32)))])), (qF, .inr (0, [.int (fr ||| 64), .int fe]))]) ⟨hx, hb, hml, hown, hts⟩ (k_X3_runOut l D q1 qF tl tl tb ta 0 fr fe (((p0 + (-1)) - tl) - (1 : Int32)) hne) (cwV 1 hts gX3_runFreely_X3_runOut rfl rfl rfl (by decide +kernel) ⟨Nat.le_of_ble_eq_true rfl, Nat.le_of_ble_eq_true rfl⟩) tE_v (fun _ _ => trivial) hK hP hD hS hA (fun hPc => va_recv hK hPc (ci := 3) (q0 := 0) rfl rfl) [0, 1] [] [0, 1] rfl rfl (by decide) rfl rfl rfl hl.1 (Nat.le_of_ble_eq_true rfl) dX3_runFreely_42 ⟨Nat.zero_le _, Nat.zero_le _⟩ (fun H locs hP hD hS => ?_)
      refine lv_goto (tgt := 58) hx hb dX3_runFreely_45 (by decide) ?_
      have hw : ([(q1, .inr (3, [.ref qF, .int (f_X3_runFreely_tc tc tl td p0), .int tl, .int (f_X3_runFreely_tb tc tl tb td p0), .int ta, .int (f_X3_runFreely_td tc tl td p0)])), (qF, .inr (0, [.int (f_X3_runFreely_fr tc tl td fr p0), .int fe]))] : va_W) = [(q1, .inr (3, [.ref qF, .int (f_X3_runOut_tc tl (((p0 + (-1)) - tl) - (1 : Int32))), .int tl, .int (tb ^^^ (((1 : Int32) + ((((p0 + (-1)) - tl) - (1 : Int32)) / (tl + (2 : Int32)))) &&& (1 : Int32))), .int ta, .int (f_X3_runOut_td tl (((p0 + (-1)) - tl) - (1 : Int32)))])), (qF, .inr (0, [.int (fr ||| 64), .int fe]))] := by simp only [f_X3_runFreely_tc, f_X3_runFreely_tb, f_X3_runFreely_td, f_X3_runFreely_fr, if_neg c_1, if_neg c_3]
      exact st_retv hx hb hr hlocks (by rw [hw]; exact hP) (by rw [hw]; exact hD) hS dX3_runFreely_58
def f_X3_runOnce_tb (tc tb ta p0 : Int32) : Int32 := if p0 ≤ tc then tb else (if ta = 0 then tb else 1)
def f_X3_runOnce_ta (tc ta p0 : Int32) : Int32 := if p0 ≤ tc then ta else (if ta = 0 then ta else 0)
def f_X3_runOnce_fr (tc ta fr p0 : Int32) : Int32 := if p0 ≤ tc then fr else (if ta = 0 then fr else (fr ||| 64))
theorem nX3_runOnce_X3 : ∀ w ∈ wsX30, w ∈ wsX3_runOnce := fun w h => List.mem_cons_of_mem _ (List.mem_append_left _ (List.mem_append_right _ h))
set_option maxHeartbeats 4000000 in
set_option maxRecDepth 100000 in
theorem k_X3_runOnce (l : Launch) (D : va_G) (q1 qF : Nat) (tc tl tb ta td fr fe p0 : Int32) : stV l yX3_runOnce wsX3_runOnce ({ frames := 1, cells := 0, slots := 0, locals := 21 } : Room) D [] tE [.ref q1, .int p0] [(q1, .inr (3, [.ref qF, .int tc, .int tl, .int tb, .int ta, .int td])), (qF, .inr (0, [.int fr, .int fe]))] [(q1, .inr (3, [.ref qF, .int ((tc - p0) &&& (65535 : Int32)), .int tl, .int (f_X3_runOnce_tb tc tb ta p0), .int (f_X3_runOnce_ta tc ta p0), .int 0])), (qF, .inr (0, [.int (f_X3_runOnce_fr tc ta fr p0), .int fe]))] := by
  intro sz
  refine Met.ofW (cc := cX3_runOnce) (maxL := 2) (ret := none) (by decide) rfl ?_
  intro p e s m args below meth c s₁ B hml hv
  obtain ⟨rfl, rfl, hP, hK, hD, hE⟩ := st_open hv
  have hx := B.exec
  have hb := B.bytes
  have hr := B.returns
  have hts := atoms_spec (ws := wsX3_runOnce) B.pre
  have hown : s.vm.findClass RX3 = some m.cls := findClass_of_methodNamed B.named
  have hlocks := B.notSynchronized
  generalize hAe : va_A [(q1, .inr (3, [.ref qF, .int tc, .int tl, .int tb, .int ta, .int td])), (qF, .inr (0, [.int fr, .int fe]))] s.heap.size = A at hD ⊢
  have hA : ∀ q : Nat, s.heap.size ≤ q → A q := fun q h => by rw [← hAe]; exact Or.inr h
  have hS : va_S A s.heap s.heap [] := va_S.rf
  have k9 := hts (.fieldLink RX3 9 "PortTimers$Timer1" "bit" "I") (by decide +kernel)
  have k15 := hts (.fieldLink RX3 15 "PortTimers$Timer1" "flags" "LPortTimers$Flags;") (by decide +kernel)
  have k19 := hts (.fieldLink RX3 19 "PortTimers$Timer1" "count" "I") (by decide +kernel)
  have k25 := hts (.fieldLink RX3 25 "PortTimers$Timer1" "armed" "Z") (by decide +kernel)
  have k29 := hts (.fieldLink RX3 29 "PortTimers$Timer1" "latchIsDue" "Z") (by decide +kernel)
  have k47 := hts (.constant RX3 47 (65535)) (by decide +kernel)
  have hl := lv_entry ([.ref q1, .int p0]) (n := 2) (Nat.le_of_ble_eq_true rfl)
  rw [lg_entry_eq]
  generalize (lg_sl ([.ref q1, .int p0]) ++ List.replicate (2 - (lg_sl ([.ref q1, .int p0])).length) Slot.unset).toArray = ls at hl ⊢
  have hl : lv_has ls 2 [(0, .ref q1), (1, .int p0)] := hl
  refine lv_aload_n hx hb dX3_runOnce_0 rfl (lv_at hl 0 rfl) ?_
  refine lv_iconst (v := 0) hx hb dX3_runOnce_1 (by decide) ?_
  refine va_put (D := D) (ci := 3) (v := .int 0) (ty := .boolean) (C := RX3) (T := TX3) (N := 6) hx hb hts nX3_runOnce_X3 tyX3 tyX3_ok nmX3 hown hK hP hD hS 0 rfl rfl 5 (by decide) k29 (fun _ h9 => h9) rfl (by decide +kernel) rfl rfl (Nat.le_of_ble_eq_true rfl) dX3_runOnce_2 (fun H locs hP hD hS => ?_)
  have hP : va_P D vwCl [(q1, .inr (3, [.ref qF, .int tc, .int tl, .int tb, .int ta, .int 0])), (qF, .inr (0, [.int fr, .int fe]))] H := hP
  have hD : va_D A [(q1, .inr (3, [.ref qF, .int tc, .int tl, .int tb, .int ta, .int 0])), (qF, .inr (0, [.int fr, .int fe]))] := hD
  refine lv_iload_n hx hb dX3_runOnce_5 rfl (lv_at hl 1 rfl) ?_
  refine lv_aload_n hx hb dX3_runOnce_6 rfl (lv_at hl 0 rfl) ?_
  refine va_get (D := D) (ci := 3) (v := .int tc) (C := RX3) (T := TX3) (N := 6) hx hb hts nX3_runOnce_X3 hown hK hP 0 rfl rfl 1 (by decide) k19 (fun _ h9 => h9) rfl dX3_runOnce_7 ?_
  refine lv_icmp_le (tgt := 39) hx hb dX3_runOnce_10 (by decide) (fun c_1 => ?_) (fun c_1 => ?_)
  · refine lv_aload_n hx hb dX3_runOnce_39 rfl (lv_at hl 0 rfl) ?_
    refine lv_aload_n hx hb dX3_runOnce_40 rfl (lv_at hl 0 rfl) ?_
    refine va_get (D := D) (ci := 3) (v := .int tc) (C := RX3) (T := TX3) (N := 6) hx hb hts nX3_runOnce_X3 hown hK hP 0 rfl rfl 1 (by decide) k19 (fun _ h9 => h9) rfl dX3_runOnce_41 ?_
    refine lv_iload_n hx hb dX3_runOnce_44 rfl (lv_at hl 1 rfl) ?_
    refine lv_isub hx hb dX3_runOnce_45 ?_
    refine lv_ldc (v := 65535) hx hb hown k47 dX3_runOnce_46 ?_
    refine lv_iand hx hb dX3_runOnce_48 ?_
    refine va_put (D := D) (ci := 3) (v := .int ((tc - p0) &&& (65535 : Int32))) (ty := .int) (C := RX3) (T := TX3) (N := 6) hx hb hts nX3_runOnce_X3 tyX3 tyX3_ok nmX3 hown hK hP hD hS 0 rfl rfl 1 (by decide) k19 (fun _ h9 => h9) rfl (by decide +kernel) rfl rfl (Nat.le_of_ble_eq_true rfl) dX3_runOnce_49 (fun H locs hP hD hS => ?_)
    have hP : va_P D vwCl [(q1, .inr (3, [.ref qF, .int ((tc - p0) &&& (65535 : Int32)), .int tl, .int tb, .int ta, .int 0])), (qF, .inr (0, [.int fr, .int fe]))] H := hP
    have hD : va_D A [(q1, .inr (3, [.ref qF, .int ((tc - p0) &&& (65535 : Int32)), .int tl, .int tb, .int ta, .int 0])), (qF, .inr (0, [.int fr, .int fe]))] := hD
    have hw : ([(q1, .inr (3, [.ref qF, .int ((tc - p0) &&& (65535 : Int32)), .int tl, .int (f_X3_runOnce_tb tc tb ta p0), .int (f_X3_runOnce_ta tc ta p0), .int 0])), (qF, .inr (0, [.int (f_X3_runOnce_fr tc ta fr p0), .int fe]))] : va_W) = [(q1, .inr (3, [.ref qF, .int ((tc - p0) &&& (65535 : Int32)), .int tl, .int tb, .int ta, .int 0])), (qF, .inr (0, [.int fr, .int fe]))] := by simp only [f_X3_runOnce_tb, f_X3_runOnce_ta, f_X3_runOnce_fr, if_pos c_1]
    exact st_retv hx hb hr hlocks (by rw [hw]; exact hP) (by rw [hw]; exact hD) hS dX3_runOnce_52
  · refine lv_aload_n hx hb dX3_runOnce_13 rfl (lv_at hl 0 rfl) ?_
    refine va_get (D := D) (ci := 3) (v := .int ta) (C := RX3) (T := TX3) (N := 6) hx hb hts nX3_runOnce_X3 hown hK hP 0 rfl rfl 4 (by decide) k25 (fun _ h9 => h9) rfl dX3_runOnce_14 ?_
    refine lv_if_eq (tgt := 39) hx hb dX3_runOnce_17 (by decide) (fun c_2 => ?_) (fun c_2 => ?_)
    · refine lv_aload_n hx hb dX3_runOnce_39 rfl (lv_at hl 0 rfl) ?_
      refine lv_aload_n hx hb dX3_runOnce_40 rfl (lv_at hl 0 rfl) ?_
      refine va_get (D := D) (ci := 3) (v := .int tc) (C := RX3) (T := TX3) (N := 6) hx hb hts nX3_runOnce_X3 hown hK hP 0 rfl rfl 1 (by decide) k19 (fun _ h9 => h9) rfl dX3_runOnce_41 ?_
      refine lv_iload_n hx hb dX3_runOnce_44 rfl (lv_at hl 1 rfl) ?_
      refine lv_isub hx hb dX3_runOnce_45 ?_
      refine lv_ldc (v := 65535) hx hb hown k47 dX3_runOnce_46 ?_
      refine lv_iand hx hb dX3_runOnce_48 ?_
      refine va_put (D := D) (ci := 3) (v := .int ((tc - p0) &&& (65535 : Int32))) (ty := .int) (C := RX3) (T := TX3) (N := 6) hx hb hts nX3_runOnce_X3 tyX3 tyX3_ok nmX3 hown hK hP hD hS 0 rfl rfl 1 (by decide) k19 (fun _ h9 => h9) rfl (by decide +kernel) rfl rfl (Nat.le_of_ble_eq_true rfl) dX3_runOnce_49 (fun H locs hP hD hS => ?_)
      have hP : va_P D vwCl [(q1, .inr (3, [.ref qF, .int ((tc - p0) &&& (65535 : Int32)), .int tl, .int tb, .int ta, .int 0])), (qF, .inr (0, [.int fr, .int fe]))] H := hP
      have hD : va_D A [(q1, .inr (3, [.ref qF, .int ((tc - p0) &&& (65535 : Int32)), .int tl, .int tb, .int ta, .int 0])), (qF, .inr (0, [.int fr, .int fe]))] := hD
      have hw : ([(q1, .inr (3, [.ref qF, .int ((tc - p0) &&& (65535 : Int32)), .int tl, .int (f_X3_runOnce_tb tc tb ta p0), .int (f_X3_runOnce_ta tc ta p0), .int 0])), (qF, .inr (0, [.int (f_X3_runOnce_fr tc ta fr p0), .int fe]))] : va_W) = [(q1, .inr (3, [.ref qF, .int ((tc - p0) &&& (65535 : Int32)), .int tl, .int tb, .int ta, .int 0])), (qF, .inr (0, [.int fr, .int fe]))] := by simp only [f_X3_runOnce_tb, f_X3_runOnce_ta, f_X3_runOnce_fr, if_neg c_1, if_pos c_2]
      exact st_retv hx hb hr hlocks (by rw [hw]; exact hP) (by rw [hw]; exact hD) hS dX3_runOnce_52
    · refine lv_aload_n hx hb dX3_runOnce_20 rfl (lv_at hl 0 rfl) ?_
      refine va_get (D := D) (ci := 3) (v := .ref qF) (C := RX3) (T := TX3) (N := 6) hx hb hts nX3_runOnce_X3 hown hK hP 0 rfl rfl 0 (by decide) k15 (fun _ h9 => h9) rfl dX3_runOnce_21 ?_
      refine lv_bipush (v := 64) hx hb dX3_runOnce_24 (by decide) ?_
      refine st_vV (As := [.int 64]) (rest := []) (wc := [(qF, .inr (0, [.int fr, .int fe]))]) (wr := [(q1, .inr (3, [.ref qF, .int tc, .int tl, .int tb, .int ta, .int 0]))]) (w1 := [(qF, .inr (0, [.int (fr ||| 64), .int fe]))]) (wn := [(q1, .inr (3, [.ref qF, .int tc, .int tl, .int tb, .int ta, .int 0])), (qF, .inr (0, [.int (fr ||| 64), .int fe]))]) ⟨hx, hb, hml, hown, hts⟩ (k_X0_raise l D qF fr fe 64) (cwV 1 hts gX3_runOnce_X0_raise rfl rfl rfl (by decide +kernel) ⟨Nat.le_of_ble_eq_true rfl, Nat.le_of_ble_eq_true rfl⟩) tE_v (fun _ _ => trivial) hK hP hD hS hA (fun hPc => va_recv hK hPc (ci := 0) (q0 := 0) rfl rfl) [1] [0] [0, 1] rfl rfl (by decide) rfl rfl rfl hl.1 (Nat.le_of_ble_eq_true rfl) dX3_runOnce_26 ⟨Nat.zero_le _, Nat.zero_le _⟩ (fun H locs hP hD hS => ?_)
      refine lv_aload_n hx hb dX3_runOnce_29 rfl (lv_at hl 0 rfl) ?_
      refine lv_iconst (v := 1) hx hb dX3_runOnce_30 (by decide) ?_
      refine va_put (D := D) (ci := 3) (v := .int 1) (ty := .int) (C := RX3) (T := TX3) (N := 6) hx hb hts nX3_runOnce_X3 tyX3 tyX3_ok nmX3 hown hK hP hD hS 0 rfl rfl 3 (by decide) k9 (fun _ h9 => h9) rfl (by decide +kernel) rfl rfl (Nat.le_of_ble_eq_true rfl) dX3_runOnce_31 (fun H locs hP hD hS => ?_)
      have hP : va_P D vwCl [(q1, .inr (3, [.ref qF, .int tc, .int tl, .int 1, .int ta, .int 0])), (qF, .inr (0, [.int (fr ||| 64), .int fe]))] H := hP
      have hD : va_D A [(q1, .inr (3, [.ref qF, .int tc, .int tl, .int 1, .int ta, .int 0])), (qF, .inr (0, [.int (fr ||| 64), .int fe]))] := hD
      refine lv_aload_n hx hb dX3_runOnce_34 rfl (lv_at hl 0 rfl) ?_
      refine lv_iconst (v := 0) hx hb dX3_runOnce_35 (by decide) ?_
      refine va_put (D := D) (ci := 3) (v := .int 0) (ty := .boolean) (C := RX3) (T := TX3) (N := 6) hx hb hts nX3_runOnce_X3 tyX3 tyX3_ok nmX3 hown hK hP hD hS 0 rfl rfl 4 (by decide) k25 (fun _ h9 => h9) rfl (by decide +kernel) rfl rfl (Nat.le_of_ble_eq_true rfl) dX3_runOnce_36 (fun H locs hP hD hS => ?_)
      have hP : va_P D vwCl [(q1, .inr (3, [.ref qF, .int tc, .int tl, .int 1, .int 0, .int 0])), (qF, .inr (0, [.int (fr ||| 64), .int fe]))] H := hP
      have hD : va_D A [(q1, .inr (3, [.ref qF, .int tc, .int tl, .int 1, .int 0, .int 0])), (qF, .inr (0, [.int (fr ||| 64), .int fe]))] := hD
      refine lv_aload_n hx hb dX3_runOnce_39 rfl (lv_at hl 0 rfl) ?_
      refine lv_aload_n hx hb dX3_runOnce_40 rfl (lv_at hl 0 rfl) ?_
      refine va_get (D := D) (ci := 3) (v := .int tc) (C := RX3) (T := TX3) (N := 6) hx hb hts nX3_runOnce_X3 hown hK hP 0 rfl rfl 1 (by decide) k19 (fun _ h9 => h9) rfl dX3_runOnce_41 ?_
      refine lv_iload_n hx hb dX3_runOnce_44 rfl (lv_at hl 1 rfl) ?_
      refine lv_isub hx hb dX3_runOnce_45 ?_
      refine lv_ldc (v := 65535) hx hb hown k47 dX3_runOnce_46 ?_
      refine lv_iand hx hb dX3_runOnce_48 ?_
      refine va_put (D := D) (ci := 3) (v := .int ((tc - p0) &&& (65535 : Int32))) (ty := .int) (C := RX3) (T := TX3) (N := 6) hx hb hts nX3_runOnce_X3 tyX3 tyX3_ok nmX3 hown hK hP hD hS 0 rfl rfl 1 (by decide) k19 (fun _ h9 => h9) rfl (by decide +kernel) rfl rfl (Nat.le_of_ble_eq_true rfl) dX3_runOnce_49 (fun H locs hP hD hS => ?_)
      have hP : va_P D vwCl [(q1, .inr (3, [.ref qF, .int ((tc - p0) &&& (65535 : Int32)), .int tl, .int 1, .int 0, .int 0])), (qF, .inr (0, [.int (fr ||| 64), .int fe]))] H := hP
      have hD : va_D A [(q1, .inr (3, [.ref qF, .int ((tc - p0) &&& (65535 : Int32)), .int tl, .int 1, .int 0, .int 0])), (qF, .inr (0, [.int (fr ||| 64), .int fe]))] := hD
      have hw : ([(q1, .inr (3, [.ref qF, .int ((tc - p0) &&& (65535 : Int32)), .int tl, .int (f_X3_runOnce_tb tc tb ta p0), .int (f_X3_runOnce_ta tc ta p0), .int 0])), (qF, .inr (0, [.int (f_X3_runOnce_fr tc ta fr p0), .int fe]))] : va_W) = [(q1, .inr (3, [.ref qF, .int ((tc - p0) &&& (65535 : Int32)), .int tl, .int 1, .int 0, .int 0])), (qF, .inr (0, [.int (fr ||| 64), .int fe]))] := by simp only [f_X3_runOnce_tb, f_X3_runOnce_ta, f_X3_runOnce_fr, if_neg c_1, if_neg c_2]
      exact st_retv hx hb hr hlocks (by rw [hw]; exact hP) (by rw [hw]; exact hD) hS dX3_runOnce_52
def f_X3_goOn_tc (tc tl td p0 p1 : Int32) : Int32 := if p1 = 0 then ((tc - p0) &&& (65535 : Int32)) else (f_X3_runFreely_tc tc tl td p0)
def f_X3_goOn_tb (tc tl tb ta td p0 p1 : Int32) : Int32 := if p1 = 0 then (f_X3_runOnce_tb tc tb ta p0) else (f_X3_runFreely_tb tc tl tb td p0)
def f_X3_goOn_ta (tc ta p0 p1 : Int32) : Int32 := if p1 = 0 then (f_X3_runOnce_ta tc ta p0) else ta
def f_X3_goOn_td (tc tl td p0 p1 : Int32) : Int32 := if p1 = 0 then 0 else (f_X3_runFreely_td tc tl td p0)
def f_X3_goOn_fr (tc tl ta td fr p0 p1 : Int32) : Int32 := if p1 = 0 then (f_X3_runOnce_fr tc ta fr p0) else (f_X3_runFreely_fr tc tl td fr p0)
set_option maxHeartbeats 4000000 in
set_option maxRecDepth 100000 in
theorem k_X3_goOn (l : Launch) (D : va_G) (q1 qF : Nat) (tc tl tb ta td fr fe p0 p1 : Int32) (hne : ¬ tl + 2 = 0) : stV l yX3_goOn wsX3_goOn ({ frames := 3, cells := 0, slots := 0, locals := 67 } : Room) D [] tE [.ref q1, .int p0, .int p1] [(q1, .inr (3, [.ref qF, .int tc, .int tl, .int tb, .int ta, .int td])), (qF, .inr (0, [.int fr, .int fe]))] [(q1, .inr (3, [.ref qF, .int (f_X3_goOn_tc tc tl td p0 p1), .int tl, .int (f_X3_goOn_tb tc tl tb ta td p0 p1), .int (f_X3_goOn_ta tc ta p0 p1), .int (f_X3_goOn_td tc tl td p0 p1)])), (qF, .inr (0, [.int (f_X3_goOn_fr tc tl ta td fr p0 p1), .int fe]))] := by
  intro sz
  refine Met.ofW (cc := cX3_goOn) (maxL := 3) (ret := none) (by decide) rfl ?_
  intro p e s m args below meth c s₁ B hml hv
  obtain ⟨rfl, rfl, hP, hK, hD, hE⟩ := st_open hv
  have hx := B.exec
  have hb := B.bytes
  have hr := B.returns
  have hts := atoms_spec (ws := wsX3_goOn) B.pre
  have hown : s.vm.findClass RX3 = some m.cls := findClass_of_methodNamed B.named
  have hlocks := B.notSynchronized
  generalize hAe : va_A [(q1, .inr (3, [.ref qF, .int tc, .int tl, .int tb, .int ta, .int td])), (qF, .inr (0, [.int fr, .int fe]))] s.heap.size = A at hD ⊢
  have hA : ∀ q : Nat, s.heap.size ≤ q → A q := fun q h => by rw [← hAe]; exact Or.inr h
  have hS : va_S A s.heap s.heap [] := va_S.rf
  have hl := lv_entry ([.ref q1, .int p0, .int p1]) (n := 3) (Nat.le_of_ble_eq_true rfl)
  rw [lg_entry_eq]
  generalize (lg_sl ([.ref q1, .int p0, .int p1]) ++ List.replicate (3 - (lg_sl ([.ref q1, .int p0, .int p1])).length) Slot.unset).toArray = ls at hl ⊢
  have hl : lv_has ls 3 [(0, .ref q1), (1, .int p0), (2, .int p1)] := hl
  refine lv_iload_n hx hb dX3_goOn_0 rfl (lv_at hl 2 rfl) ?_
  refine lv_if_eq (tgt := 12) hx hb dX3_goOn_1 (by decide) (fun c_1 => ?_) (fun c_1 => ?_)
  · refine lv_aload_n hx hb dX3_goOn_12 rfl (lv_at hl 0 rfl) ?_
    refine lv_iload_n hx hb dX3_goOn_13 rfl (lv_at hl 1 rfl) ?_
    refine st_vV (As := [.int p0]) (rest := []) (wc := [(q1, .inr (3, [.ref qF, .int tc, .int tl, .int tb, .int ta, .int td])), (qF, .inr (0, [.int fr, .int fe]))]) (wr := []) (w1 := [(q1, .inr (3, [.ref qF, .int ((tc - p0) &&& (65535 : Int32)), .int tl, .int (f_X3_runOnce_tb tc tb ta p0), .int (f_X3_runOnce_ta tc ta p0), .int 0])), (qF, .inr (0, [.int (f_X3_runOnce_fr tc ta fr p0), .int fe]))]) (wn := [(q1, .inr (3, [.ref qF, .int ((tc - p0) &&& (65535 : Int32)), .int tl, .int (f_X3_runOnce_tb tc tb ta p0), .int (f_X3_runOnce_ta tc ta p0), .int 0])), (qF, .inr (0, [.int (f_X3_runOnce_fr tc ta fr p0), .int fe]))]) ⟨hx, hb, hml, hown, hts⟩ (k_X3_runOnce l D q1 qF tc tl tb ta td fr fe p0) (cwV 1 hts gX3_goOn_X3_runOnce rfl rfl rfl (by decide +kernel) ⟨Nat.le_of_ble_eq_true rfl, Nat.le_of_ble_eq_true rfl⟩) tE_v (fun _ _ => trivial) hK hP hD hS hA (fun hPc => va_recv hK hPc (ci := 3) (q0 := 0) rfl rfl) [0, 1] [] [0, 1] rfl rfl (by decide) rfl rfl rfl hl.1 (Nat.le_of_ble_eq_true rfl) dX3_goOn_14 ⟨Nat.zero_le _, Nat.zero_le _⟩ (fun H locs hP hD hS => ?_)
    have hw : ([(q1, .inr (3, [.ref qF, .int (f_X3_goOn_tc tc tl td p0 p1), .int tl, .int (f_X3_goOn_tb tc tl tb ta td p0 p1), .int (f_X3_goOn_ta tc ta p0 p1), .int (f_X3_goOn_td tc tl td p0 p1)])), (qF, .inr (0, [.int (f_X3_goOn_fr tc tl ta td fr p0 p1), .int fe]))] : va_W) = [(q1, .inr (3, [.ref qF, .int ((tc - p0) &&& (65535 : Int32)), .int tl, .int (f_X3_runOnce_tb tc tb ta p0), .int (f_X3_runOnce_ta tc ta p0), .int 0])), (qF, .inr (0, [.int (f_X3_runOnce_fr tc ta fr p0), .int fe]))] := by simp only [f_X3_goOn_tc, f_X3_goOn_tb, f_X3_goOn_ta, f_X3_goOn_td, f_X3_goOn_fr, if_pos c_1]
    exact st_retv hx hb hr hlocks (by rw [hw]; exact hP) (by rw [hw]; exact hD) hS dX3_goOn_17
  · refine lv_aload_n hx hb dX3_goOn_4 rfl (lv_at hl 0 rfl) ?_
    refine lv_iload_n hx hb dX3_goOn_5 rfl (lv_at hl 1 rfl) ?_
    refine st_vV (As := [.int p0]) (rest := []) (wc := [(q1, .inr (3, [.ref qF, .int tc, .int tl, .int tb, .int ta, .int td])), (qF, .inr (0, [.int fr, .int fe]))]) (wr := []) (w1 := [(q1, .inr (3, [.ref qF, .int (f_X3_runFreely_tc tc tl td p0), .int tl, .int (f_X3_runFreely_tb tc tl tb td p0), .int ta, .int (f_X3_runFreely_td tc tl td p0)])), (qF, .inr (0, [.int (f_X3_runFreely_fr tc tl td fr p0), .int fe]))]) (wn := [(q1, .inr (3, [.ref qF, .int (f_X3_runFreely_tc tc tl td p0), .int tl, .int (f_X3_runFreely_tb tc tl tb td p0), .int ta, .int (f_X3_runFreely_td tc tl td p0)])), (qF, .inr (0, [.int (f_X3_runFreely_fr tc tl td fr p0), .int fe]))]) ⟨hx, hb, hml, hown, hts⟩ (k_X3_runFreely l D q1 qF tc tl tb ta td fr fe p0 hne) (cwV 1 hts gX3_goOn_X3_runFreely rfl rfl rfl (by decide +kernel) ⟨Nat.le_of_ble_eq_true rfl, Nat.le_of_ble_eq_true rfl⟩) tE_v (fun _ _ => trivial) hK hP hD hS hA (fun hPc => va_recv hK hPc (ci := 3) (q0 := 0) rfl rfl) [0, 1] [] [0, 1] rfl rfl (by decide) rfl rfl rfl hl.1 (Nat.le_of_ble_eq_true rfl) dX3_goOn_6 ⟨Nat.zero_le _, Nat.zero_le _⟩ (fun H locs hP hD hS => ?_)
    refine lv_goto (tgt := 17) hx hb dX3_goOn_9 (by decide) ?_
    have hw : ([(q1, .inr (3, [.ref qF, .int (f_X3_goOn_tc tc tl td p0 p1), .int tl, .int (f_X3_goOn_tb tc tl tb ta td p0 p1), .int (f_X3_goOn_ta tc ta p0 p1), .int (f_X3_goOn_td tc tl td p0 p1)])), (qF, .inr (0, [.int (f_X3_goOn_fr tc tl ta td fr p0 p1), .int fe]))] : va_W) = [(q1, .inr (3, [.ref qF, .int (f_X3_runFreely_tc tc tl td p0), .int tl, .int (f_X3_runFreely_tb tc tl tb td p0), .int ta, .int (f_X3_runFreely_td tc tl td p0)])), (qF, .inr (0, [.int (f_X3_runFreely_fr tc tl td fr p0), .int fe]))] := by simp only [f_X3_goOn_tc, f_X3_goOn_tb, f_X3_goOn_ta, f_X3_goOn_td, f_X3_goOn_fr, if_neg c_1]
    exact st_retv hx hb hr hlocks (by rw [hw]; exact hP) (by rw [hw]; exact hD) hS dX3_goOn_17
theorem nX4_clear_X4 : ∀ w ∈ wsX40, w ∈ wsX4_clear := fun w h => List.mem_cons_of_mem _ (List.mem_append_right _ h)
set_option maxHeartbeats 4000000 in
set_option maxRecDepth 100000 in
theorem k_X4_clear (l : Launch) (D : va_G) (q2 qF : Nat) (vc vl va : Int32) : stV l yX4_clear wsX4_clear ({ frames := 0, cells := 0, slots := 0, locals := 0 } : Room) D [] tE [.ref q2] [(q2, .inr (4, [.ref qF, .int vc, .int vl, .int va]))] [(q2, .inr (4, [.ref qF, .int 0, .int 0, .int 0]))] := by
  intro sz
  refine Met.ofW (cc := cX4_clear) (maxL := 1) (ret := none) (by decide) rfl ?_
  intro p e s m args below meth c s₁ B hml hv
  obtain ⟨rfl, rfl, hP, hK, hD, hE⟩ := st_open hv
  have hx := B.exec
  have hb := B.bytes
  have hr := B.returns
  have hts := atoms_spec (ws := wsX4_clear) B.pre
  have hown : s.vm.findClass RX4 = some m.cls := findClass_of_methodNamed B.named
  have hlocks := B.notSynchronized
  generalize hAe : va_A [(q2, .inr (4, [.ref qF, .int vc, .int vl, .int va]))] s.heap.size = A at hD ⊢
  have hA : ∀ q : Nat, s.heap.size ≤ q → A q := fun q h => by rw [← hAe]; exact Or.inr h
  have hS : va_S A s.heap s.heap [] := va_S.rf
  have k15 := hts (.fieldLink RX4 15 "PortTimers$Timer2" "count" "I") (by decide +kernel)
  have k19 := hts (.fieldLink RX4 19 "PortTimers$Timer2" "latch" "I") (by decide +kernel)
  have k22 := hts (.fieldLink RX4 22 "PortTimers$Timer2" "armed" "Z") (by decide +kernel)
  have hl := lv_entry ([.ref q2]) (n := 1) (Nat.le_of_ble_eq_true rfl)
  rw [lg_entry_eq]
  generalize (lg_sl ([.ref q2]) ++ List.replicate (1 - (lg_sl ([.ref q2])).length) Slot.unset).toArray = ls at hl ⊢
  have hl : lv_has ls 1 [(0, .ref q2)] := hl
  refine lv_aload_n hx hb dX4_clear_0 rfl (lv_at hl 0 rfl) ?_
  refine lv_iconst (v := 0) hx hb dX4_clear_1 (by decide) ?_
  refine va_put (D := D) (ci := 4) (v := .int 0) (ty := .int) (C := RX4) (T := TX4) (N := 4) hx hb hts nX4_clear_X4 tyX4 tyX4_ok nmX4 hown hK hP hD hS 0 rfl rfl 1 (by decide) k15 (fun _ h9 => h9) rfl (by decide +kernel) rfl rfl (Nat.le_of_ble_eq_true rfl) dX4_clear_2 (fun H locs hP hD hS => ?_)
  have hP : va_P D vwCl [(q2, .inr (4, [.ref qF, .int 0, .int vl, .int va]))] H := hP
  have hD : va_D A [(q2, .inr (4, [.ref qF, .int 0, .int vl, .int va]))] := hD
  refine lv_aload_n hx hb dX4_clear_5 rfl (lv_at hl 0 rfl) ?_
  refine lv_iconst (v := 0) hx hb dX4_clear_6 (by decide) ?_
  refine va_put (D := D) (ci := 4) (v := .int 0) (ty := .int) (C := RX4) (T := TX4) (N := 4) hx hb hts nX4_clear_X4 tyX4 tyX4_ok nmX4 hown hK hP hD hS 0 rfl rfl 2 (by decide) k19 (fun _ h9 => h9) rfl (by decide +kernel) rfl rfl (Nat.le_of_ble_eq_true rfl) dX4_clear_7 (fun H locs hP hD hS => ?_)
  have hP : va_P D vwCl [(q2, .inr (4, [.ref qF, .int 0, .int 0, .int va]))] H := hP
  have hD : va_D A [(q2, .inr (4, [.ref qF, .int 0, .int 0, .int va]))] := hD
  refine lv_aload_n hx hb dX4_clear_10 rfl (lv_at hl 0 rfl) ?_
  refine lv_iconst (v := 0) hx hb dX4_clear_11 (by decide) ?_
  refine va_put (D := D) (ci := 4) (v := .int 0) (ty := .boolean) (C := RX4) (T := TX4) (N := 4) hx hb hts nX4_clear_X4 tyX4 tyX4_ok nmX4 hown hK hP hD hS 0 rfl rfl 3 (by decide) k22 (fun _ h9 => h9) rfl (by decide +kernel) rfl rfl (Nat.le_of_ble_eq_true rfl) dX4_clear_12 (fun H locs hP hD hS => ?_)
  have hP : va_P D vwCl [(q2, .inr (4, [.ref qF, .int 0, .int 0, .int 0]))] H := hP
  have hD : va_D A [(q2, .inr (4, [.ref qF, .int 0, .int 0, .int 0]))] := hD
  exact st_retv hx hb hr hlocks hP hD hS dX4_clear_15
theorem nX4_start_X4 : ∀ w ∈ wsX40, w ∈ wsX4_start := fun w h => List.mem_cons_of_mem _ (List.mem_append_left _ (List.mem_append_right _ h))
set_option maxHeartbeats 4000000 in
set_option maxRecDepth 100000 in
theorem k_X4_start (l : Launch) (D : va_G) (q2 qF : Nat) (vc vl va fr fe p0 : Int32) : stV l yX4_start wsX4_start ({ frames := 1, cells := 0, slots := 0, locals := 21 } : Room) D [] tE [.ref q2, .int p0] [(q2, .inr (4, [.ref qF, .int vc, .int vl, .int va])), (qF, .inr (0, [.int fr, .int fe]))] [(q2, .inr (4, [.ref qF, .int ((p0 <<< ((8 : Int32) &&& (31 : Int32)) : Int32) ||| vl), .int vl, .int 1])), (qF, .inr (0, [.int (fr &&& (32 ^^^ (-1 : Int32))), .int fe]))] := by
  intro sz
  refine Met.ofW (cc := cX4_start) (maxL := 2) (ret := none) (by decide) rfl ?_
  intro p e s m args below meth c s₁ B hml hv
  obtain ⟨rfl, rfl, hP, hK, hD, hE⟩ := st_open hv
  have hx := B.exec
  have hb := B.bytes
  have hr := B.returns
  have hts := atoms_spec (ws := wsX4_start) B.pre
  have hown : s.vm.findClass RX4 = some m.cls := findClass_of_methodNamed B.named
  have hlocks := B.notSynchronized
  generalize hAe : va_A [(q2, .inr (4, [.ref qF, .int vc, .int vl, .int va])), (qF, .inr (0, [.int fr, .int fe]))] s.heap.size = A at hD ⊢
  have hA : ∀ q : Nat, s.heap.size ≤ q → A q := fun q h => by rw [← hAe]; exact Or.inr h
  have hS : va_S A s.heap s.heap [] := va_S.rf
  have k9 := hts (.fieldLink RX4 9 "PortTimers$Timer2" "flags" "LPortTimers$Flags;") (by decide +kernel)
  have k15 := hts (.fieldLink RX4 15 "PortTimers$Timer2" "count" "I") (by decide +kernel)
  have k19 := hts (.fieldLink RX4 19 "PortTimers$Timer2" "latch" "I") (by decide +kernel)
  have k22 := hts (.fieldLink RX4 22 "PortTimers$Timer2" "armed" "Z") (by decide +kernel)
  have hl := lv_entry ([.ref q2, .int p0]) (n := 2) (Nat.le_of_ble_eq_true rfl)
  rw [lg_entry_eq]
  generalize (lg_sl ([.ref q2, .int p0]) ++ List.replicate (2 - (lg_sl ([.ref q2, .int p0])).length) Slot.unset).toArray = ls at hl ⊢
  have hl : lv_has ls 2 [(0, .ref q2), (1, .int p0)] := hl
  refine lv_aload_n hx hb dX4_start_0 rfl (lv_at hl 0 rfl) ?_
  refine lv_iload_n hx hb dX4_start_1 rfl (lv_at hl 1 rfl) ?_
  refine lv_bipush (v := 8) hx hb dX4_start_2 (by decide) ?_
  refine lv_ishl hx hb dX4_start_4 ?_
  refine lv_aload_n hx hb dX4_start_5 rfl (lv_at hl 0 rfl) ?_
  refine va_get (D := D) (ci := 4) (v := .int vl) (C := RX4) (T := TX4) (N := 4) hx hb hts nX4_start_X4 hown hK hP 0 rfl rfl 2 (by decide) k19 (fun _ h9 => h9) rfl dX4_start_6 ?_
  refine lv_ior hx hb dX4_start_9 ?_
  refine va_put (D := D) (ci := 4) (v := .int ((p0 <<< ((8 : Int32) &&& (31 : Int32)) : Int32) ||| vl)) (ty := .int) (C := RX4) (T := TX4) (N := 4) hx hb hts nX4_start_X4 tyX4 tyX4_ok nmX4 hown hK hP hD hS 0 rfl rfl 1 (by decide) k15 (fun _ h9 => h9) rfl (by decide +kernel) rfl rfl (Nat.le_of_ble_eq_true rfl) dX4_start_10 (fun H locs hP hD hS => ?_)
  have hP : va_P D vwCl [(q2, .inr (4, [.ref qF, .int ((p0 <<< ((8 : Int32) &&& (31 : Int32)) : Int32) ||| vl), .int vl, .int va])), (qF, .inr (0, [.int fr, .int fe]))] H := hP
  have hD : va_D A [(q2, .inr (4, [.ref qF, .int ((p0 <<< ((8 : Int32) &&& (31 : Int32)) : Int32) ||| vl), .int vl, .int va])), (qF, .inr (0, [.int fr, .int fe]))] := hD
  refine lv_aload_n hx hb dX4_start_13 rfl (lv_at hl 0 rfl) ?_
  refine lv_iconst (v := 1) hx hb dX4_start_14 (by decide) ?_
  refine va_put (D := D) (ci := 4) (v := .int 1) (ty := .boolean) (C := RX4) (T := TX4) (N := 4) hx hb hts nX4_start_X4 tyX4 tyX4_ok nmX4 hown hK hP hD hS 0 rfl rfl 3 (by decide) k22 (fun _ h9 => h9) rfl (by decide +kernel) rfl rfl (Nat.le_of_ble_eq_true rfl) dX4_start_15 (fun H locs hP hD hS => ?_)
  have hP : va_P D vwCl [(q2, .inr (4, [.ref qF, .int ((p0 <<< ((8 : Int32) &&& (31 : Int32)) : Int32) ||| vl), .int vl, .int 1])), (qF, .inr (0, [.int fr, .int fe]))] H := hP
  have hD : va_D A [(q2, .inr (4, [.ref qF, .int ((p0 <<< ((8 : Int32) &&& (31 : Int32)) : Int32) ||| vl), .int vl, .int 1])), (qF, .inr (0, [.int fr, .int fe]))] := hD
  refine lv_aload_n hx hb dX4_start_18 rfl (lv_at hl 0 rfl) ?_
  refine va_get (D := D) (ci := 4) (v := .ref qF) (C := RX4) (T := TX4) (N := 4) hx hb hts nX4_start_X4 hown hK hP 0 rfl rfl 0 (by decide) k9 (fun _ h9 => h9) rfl dX4_start_19 ?_
  refine lv_bipush (v := 32) hx hb dX4_start_22 (by decide) ?_
  refine st_vV (As := [.int 32]) (rest := []) (wc := [(qF, .inr (0, [.int fr, .int fe]))]) (wr := [(q2, .inr (4, [.ref qF, .int ((p0 <<< ((8 : Int32) &&& (31 : Int32)) : Int32) ||| vl), .int vl, .int 1]))]) (w1 := [(qF, .inr (0, [.int (fr &&& (32 ^^^ (-1 : Int32))), .int fe]))]) (wn := [(q2, .inr (4, [.ref qF, .int ((p0 <<< ((8 : Int32) &&& (31 : Int32)) : Int32) ||| vl), .int vl, .int 1])), (qF, .inr (0, [.int (fr &&& (32 ^^^ (-1 : Int32))), .int fe]))]) ⟨hx, hb, hml, hown, hts⟩ (k_X0_lower l D qF fr fe 32) (cwV 1 hts gX4_start_X0_lower rfl rfl rfl (by decide +kernel) ⟨Nat.le_of_ble_eq_true rfl, Nat.le_of_ble_eq_true rfl⟩) tE_v (fun _ _ => trivial) hK hP hD hS hA (fun hPc => va_recv hK hPc (ci := 0) (q0 := 0) rfl rfl) [1] [0] [0, 1] rfl rfl (by decide) rfl rfl rfl hl.1 (Nat.le_of_ble_eq_true rfl) dX4_start_24 ⟨Nat.zero_le _, Nat.zero_le _⟩ (fun H locs hP hD hS => ?_)
  exact st_retv hx hb hr hlocks hP hD hS dX4_start_27
def f_X4_countDown_va (vc va p0 : Int32) : Int32 := if p0 ≤ vc then va else (if va = 0 then va else 0)
def f_X4_countDown_fr (vc va fr p0 : Int32) : Int32 := if p0 ≤ vc then fr else (if va = 0 then fr else (fr ||| 32))
theorem nX4_countDown_X4 : ∀ w ∈ wsX40, w ∈ wsX4_countDown := fun w h => List.mem_cons_of_mem _ (List.mem_append_left _ (List.mem_append_right _ h))
set_option maxHeartbeats 4000000 in
set_option maxRecDepth 100000 in
theorem k_X4_countDown (l : Launch) (D : va_G) (q2 qF : Nat) (vc vl va fr fe p0 : Int32) : stV l yX4_countDown wsX4_countDown ({ frames := 1, cells := 0, slots := 0, locals := 21 } : Room) D [] tE [.ref q2, .int p0] [(q2, .inr (4, [.ref qF, .int vc, .int vl, .int va])), (qF, .inr (0, [.int fr, .int fe]))] [(q2, .inr (4, [.ref qF, .int ((vc - p0) &&& (65535 : Int32)), .int vl, .int (f_X4_countDown_va vc va p0)])), (qF, .inr (0, [.int (f_X4_countDown_fr vc va fr p0), .int fe]))] := by
  intro sz
  refine Met.ofW (cc := cX4_countDown) (maxL := 2) (ret := none) (by decide) rfl ?_
  intro p e s m args below meth c s₁ B hml hv
  obtain ⟨rfl, rfl, hP, hK, hD, hE⟩ := st_open hv
  have hx := B.exec
  have hb := B.bytes
  have hr := B.returns
  have hts := atoms_spec (ws := wsX4_countDown) B.pre
  have hown : s.vm.findClass RX4 = some m.cls := findClass_of_methodNamed B.named
  have hlocks := B.notSynchronized
  generalize hAe : va_A [(q2, .inr (4, [.ref qF, .int vc, .int vl, .int va])), (qF, .inr (0, [.int fr, .int fe]))] s.heap.size = A at hD ⊢
  have hA : ∀ q : Nat, s.heap.size ≤ q → A q := fun q h => by rw [← hAe]; exact Or.inr h
  have hS : va_S A s.heap s.heap [] := va_S.rf
  have k9 := hts (.fieldLink RX4 9 "PortTimers$Timer2" "flags" "LPortTimers$Flags;") (by decide +kernel)
  have k15 := hts (.fieldLink RX4 15 "PortTimers$Timer2" "count" "I") (by decide +kernel)
  have k22 := hts (.fieldLink RX4 22 "PortTimers$Timer2" "armed" "Z") (by decide +kernel)
  have k35 := hts (.constant RX4 35 (65535)) (by decide +kernel)
  have hl := lv_entry ([.ref q2, .int p0]) (n := 2) (Nat.le_of_ble_eq_true rfl)
  rw [lg_entry_eq]
  generalize (lg_sl ([.ref q2, .int p0]) ++ List.replicate (2 - (lg_sl ([.ref q2, .int p0])).length) Slot.unset).toArray = ls at hl ⊢
  have hl : lv_has ls 2 [(0, .ref q2), (1, .int p0)] := hl
  refine lv_iload_n hx hb dX4_countDown_0 rfl (lv_at hl 1 rfl) ?_
  refine lv_aload_n hx hb dX4_countDown_1 rfl (lv_at hl 0 rfl) ?_
  refine va_get (D := D) (ci := 4) (v := .int vc) (C := RX4) (T := TX4) (N := 4) hx hb hts nX4_countDown_X4 hown hK hP 0 rfl rfl 1 (by decide) k15 (fun _ h9 => h9) rfl dX4_countDown_2 ?_
  refine lv_icmp_le (tgt := 29) hx hb dX4_countDown_5 (by decide) (fun c_1 => ?_) (fun c_1 => ?_)
  · refine lv_aload_n hx hb dX4_countDown_29 rfl (lv_at hl 0 rfl) ?_
    refine lv_aload_n hx hb dX4_countDown_30 rfl (lv_at hl 0 rfl) ?_
    refine va_get (D := D) (ci := 4) (v := .int vc) (C := RX4) (T := TX4) (N := 4) hx hb hts nX4_countDown_X4 hown hK hP 0 rfl rfl 1 (by decide) k15 (fun _ h9 => h9) rfl dX4_countDown_31 ?_
    refine lv_iload_n hx hb dX4_countDown_34 rfl (lv_at hl 1 rfl) ?_
    refine lv_isub hx hb dX4_countDown_35 ?_
    refine lv_ldc (v := 65535) hx hb hown k35 dX4_countDown_36 ?_
    refine lv_iand hx hb dX4_countDown_38 ?_
    refine va_put (D := D) (ci := 4) (v := .int ((vc - p0) &&& (65535 : Int32))) (ty := .int) (C := RX4) (T := TX4) (N := 4) hx hb hts nX4_countDown_X4 tyX4 tyX4_ok nmX4 hown hK hP hD hS 0 rfl rfl 1 (by decide) k15 (fun _ h9 => h9) rfl (by decide +kernel) rfl rfl (Nat.le_of_ble_eq_true rfl) dX4_countDown_39 (fun H locs hP hD hS => ?_)
    have hP : va_P D vwCl [(q2, .inr (4, [.ref qF, .int ((vc - p0) &&& (65535 : Int32)), .int vl, .int va])), (qF, .inr (0, [.int fr, .int fe]))] H := hP
    have hD : va_D A [(q2, .inr (4, [.ref qF, .int ((vc - p0) &&& (65535 : Int32)), .int vl, .int va])), (qF, .inr (0, [.int fr, .int fe]))] := hD
    have hw : ([(q2, .inr (4, [.ref qF, .int ((vc - p0) &&& (65535 : Int32)), .int vl, .int (f_X4_countDown_va vc va p0)])), (qF, .inr (0, [.int (f_X4_countDown_fr vc va fr p0), .int fe]))] : va_W) = [(q2, .inr (4, [.ref qF, .int ((vc - p0) &&& (65535 : Int32)), .int vl, .int va])), (qF, .inr (0, [.int fr, .int fe]))] := by simp only [f_X4_countDown_va, f_X4_countDown_fr, if_pos c_1]
    exact st_retv hx hb hr hlocks (by rw [hw]; exact hP) (by rw [hw]; exact hD) hS dX4_countDown_42
  · refine lv_aload_n hx hb dX4_countDown_8 rfl (lv_at hl 0 rfl) ?_
    refine va_get (D := D) (ci := 4) (v := .int va) (C := RX4) (T := TX4) (N := 4) hx hb hts nX4_countDown_X4 hown hK hP 0 rfl rfl 3 (by decide) k22 (fun _ h9 => h9) rfl dX4_countDown_9 ?_
    refine lv_if_eq (tgt := 29) hx hb dX4_countDown_12 (by decide) (fun c_2 => ?_) (fun c_2 => ?_)
    · refine lv_aload_n hx hb dX4_countDown_29 rfl (lv_at hl 0 rfl) ?_
      refine lv_aload_n hx hb dX4_countDown_30 rfl (lv_at hl 0 rfl) ?_
      refine va_get (D := D) (ci := 4) (v := .int vc) (C := RX4) (T := TX4) (N := 4) hx hb hts nX4_countDown_X4 hown hK hP 0 rfl rfl 1 (by decide) k15 (fun _ h9 => h9) rfl dX4_countDown_31 ?_
      refine lv_iload_n hx hb dX4_countDown_34 rfl (lv_at hl 1 rfl) ?_
      refine lv_isub hx hb dX4_countDown_35 ?_
      refine lv_ldc (v := 65535) hx hb hown k35 dX4_countDown_36 ?_
      refine lv_iand hx hb dX4_countDown_38 ?_
      refine va_put (D := D) (ci := 4) (v := .int ((vc - p0) &&& (65535 : Int32))) (ty := .int) (C := RX4) (T := TX4) (N := 4) hx hb hts nX4_countDown_X4 tyX4 tyX4_ok nmX4 hown hK hP hD hS 0 rfl rfl 1 (by decide) k15 (fun _ h9 => h9) rfl (by decide +kernel) rfl rfl (Nat.le_of_ble_eq_true rfl) dX4_countDown_39 (fun H locs hP hD hS => ?_)
      have hP : va_P D vwCl [(q2, .inr (4, [.ref qF, .int ((vc - p0) &&& (65535 : Int32)), .int vl, .int va])), (qF, .inr (0, [.int fr, .int fe]))] H := hP
      have hD : va_D A [(q2, .inr (4, [.ref qF, .int ((vc - p0) &&& (65535 : Int32)), .int vl, .int va])), (qF, .inr (0, [.int fr, .int fe]))] := hD
      have hw : ([(q2, .inr (4, [.ref qF, .int ((vc - p0) &&& (65535 : Int32)), .int vl, .int (f_X4_countDown_va vc va p0)])), (qF, .inr (0, [.int (f_X4_countDown_fr vc va fr p0), .int fe]))] : va_W) = [(q2, .inr (4, [.ref qF, .int ((vc - p0) &&& (65535 : Int32)), .int vl, .int va])), (qF, .inr (0, [.int fr, .int fe]))] := by simp only [f_X4_countDown_va, f_X4_countDown_fr, if_neg c_1, if_pos c_2]
      exact st_retv hx hb hr hlocks (by rw [hw]; exact hP) (by rw [hw]; exact hD) hS dX4_countDown_42
    · refine lv_aload_n hx hb dX4_countDown_15 rfl (lv_at hl 0 rfl) ?_
      refine va_get (D := D) (ci := 4) (v := .ref qF) (C := RX4) (T := TX4) (N := 4) hx hb hts nX4_countDown_X4 hown hK hP 0 rfl rfl 0 (by decide) k9 (fun _ h9 => h9) rfl dX4_countDown_16 ?_
      refine lv_bipush (v := 32) hx hb dX4_countDown_19 (by decide) ?_
      refine st_vV (As := [.int 32]) (rest := []) (wc := [(qF, .inr (0, [.int fr, .int fe]))]) (wr := [(q2, .inr (4, [.ref qF, .int vc, .int vl, .int va]))]) (w1 := [(qF, .inr (0, [.int (fr ||| 32), .int fe]))]) (wn := [(q2, .inr (4, [.ref qF, .int vc, .int vl, .int va])), (qF, .inr (0, [.int (fr ||| 32), .int fe]))]) ⟨hx, hb, hml, hown, hts⟩ (k_X0_raise l D qF fr fe 32) (cwV 1 hts gX4_countDown_X0_raise rfl rfl rfl (by decide +kernel) ⟨Nat.le_of_ble_eq_true rfl, Nat.le_of_ble_eq_true rfl⟩) tE_v (fun _ _ => trivial) hK hP hD hS hA (fun hPc => va_recv hK hPc (ci := 0) (q0 := 0) rfl rfl) [1] [0] [0, 1] rfl rfl (by decide) rfl rfl rfl hl.1 (Nat.le_of_ble_eq_true rfl) dX4_countDown_21 ⟨Nat.zero_le _, Nat.zero_le _⟩ (fun H locs hP hD hS => ?_)
      refine lv_aload_n hx hb dX4_countDown_24 rfl (lv_at hl 0 rfl) ?_
      refine lv_iconst (v := 0) hx hb dX4_countDown_25 (by decide) ?_
      refine va_put (D := D) (ci := 4) (v := .int 0) (ty := .boolean) (C := RX4) (T := TX4) (N := 4) hx hb hts nX4_countDown_X4 tyX4 tyX4_ok nmX4 hown hK hP hD hS 0 rfl rfl 3 (by decide) k22 (fun _ h9 => h9) rfl (by decide +kernel) rfl rfl (Nat.le_of_ble_eq_true rfl) dX4_countDown_26 (fun H locs hP hD hS => ?_)
      have hP : va_P D vwCl [(q2, .inr (4, [.ref qF, .int vc, .int vl, .int 0])), (qF, .inr (0, [.int (fr ||| 32), .int fe]))] H := hP
      have hD : va_D A [(q2, .inr (4, [.ref qF, .int vc, .int vl, .int 0])), (qF, .inr (0, [.int (fr ||| 32), .int fe]))] := hD
      refine lv_aload_n hx hb dX4_countDown_29 rfl (lv_at hl 0 rfl) ?_
      refine lv_aload_n hx hb dX4_countDown_30 rfl (lv_at hl 0 rfl) ?_
      refine va_get (D := D) (ci := 4) (v := .int vc) (C := RX4) (T := TX4) (N := 4) hx hb hts nX4_countDown_X4 hown hK hP 0 rfl rfl 1 (by decide) k15 (fun _ h9 => h9) rfl dX4_countDown_31 ?_
      refine lv_iload_n hx hb dX4_countDown_34 rfl (lv_at hl 1 rfl) ?_
      refine lv_isub hx hb dX4_countDown_35 ?_
      refine lv_ldc (v := 65535) hx hb hown k35 dX4_countDown_36 ?_
      refine lv_iand hx hb dX4_countDown_38 ?_
      refine va_put (D := D) (ci := 4) (v := .int ((vc - p0) &&& (65535 : Int32))) (ty := .int) (C := RX4) (T := TX4) (N := 4) hx hb hts nX4_countDown_X4 tyX4 tyX4_ok nmX4 hown hK hP hD hS 0 rfl rfl 1 (by decide) k15 (fun _ h9 => h9) rfl (by decide +kernel) rfl rfl (Nat.le_of_ble_eq_true rfl) dX4_countDown_39 (fun H locs hP hD hS => ?_)
      have hP : va_P D vwCl [(q2, .inr (4, [.ref qF, .int ((vc - p0) &&& (65535 : Int32)), .int vl, .int 0])), (qF, .inr (0, [.int (fr ||| 32), .int fe]))] H := hP
      have hD : va_D A [(q2, .inr (4, [.ref qF, .int ((vc - p0) &&& (65535 : Int32)), .int vl, .int 0])), (qF, .inr (0, [.int (fr ||| 32), .int fe]))] := hD
      have hw : ([(q2, .inr (4, [.ref qF, .int ((vc - p0) &&& (65535 : Int32)), .int vl, .int (f_X4_countDown_va vc va p0)])), (qF, .inr (0, [.int (f_X4_countDown_fr vc va fr p0), .int fe]))] : va_W) = [(q2, .inr (4, [.ref qF, .int ((vc - p0) &&& (65535 : Int32)), .int vl, .int 0])), (qF, .inr (0, [.int (fr ||| 32), .int fe]))] := by simp only [f_X4_countDown_va, f_X4_countDown_fr, if_neg c_1, if_neg c_2]
      exact st_retv hx hb hr hlocks (by rw [hw]; exact hP) (by rw [hw]; exact hD) hS dX4_countDown_42
