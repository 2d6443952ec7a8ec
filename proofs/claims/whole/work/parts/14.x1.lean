theorem nX1_clear_X1 : ∀ w ∈ wsX10, w ∈ wsX1_clear := fun w h => List.mem_cons_of_mem _ (List.mem_append_right _ h)
set_option maxHeartbeats 4000000 in
set_option maxRecDepth 100000 in
theorem k_X1_clear (l : Launch) (D : va_G) (q3 qF : Nat) (sb st sg sh : Int32) : stV l yX1_clear wsX1_clear ({ frames := 0, cells := 0, slots := 0, locals := 0 } : Room) D [] tE [.ref q3] [(q3, .inr (1, [.ref qF, .int sb, .int st, .int sg, .int sh]))] [(q3, .inr (1, [.ref qF, .int 0, .int 0, .int 1, .int 0]))] := by
  intro sz
  refine Met.ofW (cc := cX1_clear) (maxL := 1) (ret := none) (by decide) rfl ?_
  intro p e s m args below meth c s₁ B hml hv
  obtain ⟨rfl, rfl, hP, hK, hD, hE⟩ := st_open hv
  have hx := B.exec
  have hb := B.bytes
  have hr := B.returns
  have hts := atoms_spec (ws := wsX1_clear) B.pre
  have hown : s.vm.findClass RX1 = some m.cls := findClass_of_methodNamed B.named
  have hlocks := B.notSynchronized
  generalize hAe : va_A [(q3, .inr (1, [.ref qF, .int sb, .int st, .int sg, .int sh]))] s.heap.size = A at hD ⊢
  have hA : ∀ q : Nat, s.heap.size ≤ q → A q := fun q h => by rw [← hAe]; exact Or.inr h
  have hS : va_S A s.heap s.heap [] := va_S.rf
  have k9 := hts (.fieldLink RX1 9 "PortTimers$Shifter" "given" "I") (by decide +kernel)
  have k19 := hts (.fieldLink RX1 19 "PortTimers$Shifter" "bits" "I") (by decide +kernel)
  have k22 := hts (.fieldLink RX1 22 "PortTimers$Shifter" "toCome" "I") (by decide +kernel)
  have k25 := hts (.fieldLink RX1 25 "PortTimers$Shifter" "halfway" "Z") (by decide +kernel)
  have hl := lv_entry ([.ref q3]) (n := 1) (Nat.le_of_ble_eq_true rfl)
  rw [lg_entry_eq]
  generalize (lg_sl ([.ref q3]) ++ List.replicate (1 - (lg_sl ([.ref q3])).length) Slot.unset).toArray = ls at hl ⊢
  have hl : lv_has ls 1 [(0, .ref q3)] := hl
  refine lv_aload_n hx hb dX1_clear_0 rfl (lv_at hl 0 rfl) ?_
  refine lv_iconst (v := 0) hx hb dX1_clear_1 (by decide) ?_
  refine va_put (D := D) (ci := 1) (v := .int 0) (ty := .int) (C := RX1) (T := TX1) (N := 5) hx hb hts nX1_clear_X1 tyX1 tyX1_ok nmX1 hown hK hP hD hS 0 rfl rfl 1 (by decide) k19 (fun _ h9 => h9) rfl (by decide +kernel) rfl rfl (Nat.le_of_ble_eq_true rfl) dX1_clear_2 (fun H locs hP hD hS => ?_)
  have hP : va_P D vwCl [(q3, .inr (1, [.ref qF, .int 0, .int st, .int sg, .int sh]))] H := hP
  have hD : va_D A [(q3, .inr (1, [.ref qF, .int 0, .int st, .int sg, .int sh]))] := hD
  refine lv_aload_n hx hb dX1_clear_5 rfl (lv_at hl 0 rfl) ?_
  refine lv_iconst (v := 0) hx hb dX1_clear_6 (by decide) ?_
  refine va_put (D := D) (ci := 1) (v := .int 0) (ty := .int) (C := RX1) (T := TX1) (N := 5) hx hb hts nX1_clear_X1 tyX1 tyX1_ok nmX1 hown hK hP hD hS 0 rfl rfl 2 (by decide) k22 (fun _ h9 => h9) rfl (by decide +kernel) rfl rfl (Nat.le_of_ble_eq_true rfl) dX1_clear_7 (fun H locs hP hD hS => ?_)
  have hP : va_P D vwCl [(q3, .inr (1, [.ref qF, .int 0, .int 0, .int sg, .int sh]))] H := hP
  have hD : va_D A [(q3, .inr (1, [.ref qF, .int 0, .int 0, .int sg, .int sh]))] := hD
  refine lv_aload_n hx hb dX1_clear_10 rfl (lv_at hl 0 rfl) ?_
  refine lv_iconst (v := 1) hx hb dX1_clear_11 (by decide) ?_
  refine va_put (D := D) (ci := 1) (v := .int 1) (ty := .int) (C := RX1) (T := TX1) (N := 5) hx hb hts nX1_clear_X1 tyX1 tyX1_ok nmX1 hown hK hP hD hS 0 rfl rfl 3 (by decide) k9 (fun _ h9 => h9) rfl (by decide +kernel) rfl rfl (Nat.le_of_ble_eq_true rfl) dX1_clear_12 (fun H locs hP hD hS => ?_)
  have hP : va_P D vwCl [(q3, .inr (1, [.ref qF, .int 0, .int 0, .int 1, .int sh]))] H := hP
  have hD : va_D A [(q3, .inr (1, [.ref qF, .int 0, .int 0, .int 1, .int sh]))] := hD
  refine lv_aload_n hx hb dX1_clear_15 rfl (lv_at hl 0 rfl) ?_
  refine lv_iconst (v := 0) hx hb dX1_clear_16 (by decide) ?_
  refine va_put (D := D) (ci := 1) (v := .int 0) (ty := .boolean) (C := RX1) (T := TX1) (N := 5) hx hb hts nX1_clear_X1 tyX1 tyX1_ok nmX1 hown hK hP hD hS 0 rfl rfl 4 (by decide) k25 (fun _ h9 => h9) rfl (by decide +kernel) rfl rfl (Nat.le_of_ble_eq_true rfl) dX1_clear_17 (fun H locs hP hD hS => ?_)
  have hP : va_P D vwCl [(q3, .inr (1, [.ref qF, .int 0, .int 0, .int 1, .int 0]))] H := hP
  have hD : va_D A [(q3, .inr (1, [.ref qF, .int 0, .int 0, .int 1, .int 0]))] := hD
  exact st_retv hx hb hr hlocks hP hD hS dX1_clear_20
theorem nX1_begin_X1 : ∀ w ∈ wsX10, w ∈ wsX1_begin := fun w h => List.mem_cons_of_mem _ (List.mem_append_left _ (List.mem_append_right _ h))
set_option maxHeartbeats 4000000 in
set_option maxRecDepth 100000 in
theorem k_X1_begin (l : Launch) (D : va_G) (q3 qF : Nat) (sb st sg sh fr fe : Int32) : stV l yX1_begin wsX1_begin ({ frames := 1, cells := 0, slots := 0, locals := 21 } : Room) D [] tE [.ref q3] [(q3, .inr (1, [.ref qF, .int sb, .int st, .int sg, .int sh])), (qF, .inr (0, [.int fr, .int fe]))] [(q3, .inr (1, [.ref qF, .int sb, .int 8, .int sg, .int 0])), (qF, .inr (0, [.int (fr &&& (4 ^^^ (-1 : Int32))), .int fe]))] := by
  intro sz
  refine Met.ofW (cc := cX1_begin) (maxL := 1) (ret := none) (by decide) rfl ?_
  intro p e s m args below meth c s₁ B hml hv
  obtain ⟨rfl, rfl, hP, hK, hD, hE⟩ := st_open hv
  have hx := B.exec
  have hb := B.bytes
  have hr := B.returns
  have hts := atoms_spec (ws := wsX1_begin) B.pre
  have hown : s.vm.findClass RX1 = some m.cls := findClass_of_methodNamed B.named
  have hlocks := B.notSynchronized
  generalize hAe : va_A [(q3, .inr (1, [.ref qF, .int sb, .int st, .int sg, .int sh])), (qF, .inr (0, [.int fr, .int fe]))] s.heap.size = A at hD ⊢
  have hA : ∀ q : Nat, s.heap.size ≤ q → A q := fun q h => by rw [← hAe]; exact Or.inr h
  have hS : va_S A s.heap s.heap [] := va_S.rf
  have k15 := hts (.fieldLink RX1 15 "PortTimers$Shifter" "flags" "LPortTimers$Flags;") (by decide +kernel)
  have k22 := hts (.fieldLink RX1 22 "PortTimers$Shifter" "toCome" "I") (by decide +kernel)
  have k25 := hts (.fieldLink RX1 25 "PortTimers$Shifter" "halfway" "Z") (by decide +kernel)
  have hl := lv_entry ([.ref q3]) (n := 1) (Nat.le_of_ble_eq_true rfl)
  rw [lg_entry_eq]
  generalize (lg_sl ([.ref q3]) ++ List.replicate (1 - (lg_sl ([.ref q3])).length) Slot.unset).toArray = ls at hl ⊢
  have hl : lv_has ls 1 [(0, .ref q3)] := hl
  refine lv_aload_n hx hb dX1_begin_0 rfl (lv_at hl 0 rfl) ?_
  refine va_get (D := D) (ci := 1) (v := .ref qF) (C := RX1) (T := TX1) (N := 5) hx hb hts nX1_begin_X1 hown hK hP 0 rfl rfl 0 (by decide) k15 (fun _ h9 => h9) rfl dX1_begin_1 ?_
  refine lv_iconst (v := 4) hx hb dX1_begin_4 (by decide) ?_
  refine st_vV (As := [.int 4]) (rest := []) (wc := [(qF, .inr (0, [.int fr, .int fe]))]) (wr := [(q3, .inr (1, [.ref qF, .int sb, .int st, .int sg, .int sh]))]) (w1 := [(qF, .inr (0, [.int (fr &&& (4 ^^^ (-1 : Int32))), .int fe]))]) (wn := [(q3, .inr (1, [.ref qF, .int sb, .int st, .int sg, .int sh])), (qF, .inr (0, [.int (fr &&& (4 ^^^ (-1 : Int32))), .int fe]))]) ⟨hx, hb, hml, hown, hts⟩ (k_X0_lower l D qF fr fe 4) (cwV 1 hts gX1_begin_X0_lower rfl rfl rfl (by decide +kernel) ⟨Nat.le_of_ble_eq_true rfl, Nat.le_of_ble_eq_true rfl⟩) tE_v (fun _ _ => trivial) hK hP hD hS hA (fun hPc => va_recv hK hPc (ci := 0) (q0 := 0) rfl rfl) [1] [0] [0, 1] rfl rfl (by decide) rfl rfl rfl hl.1 (Nat.le_of_ble_eq_true rfl) dX1_begin_5 ⟨Nat.zero_le _, Nat.zero_le _⟩ (fun H locs hP hD hS => ?_)
  refine lv_aload_n hx hb dX1_begin_8 rfl (lv_at hl 0 rfl) ?_
  refine lv_bipush (v := 8) hx hb dX1_begin_9 (by decide) ?_
  refine va_put (D := D) (ci := 1) (v := .int 8) (ty := .int) (C := RX1) (T := TX1) (N := 5) hx hb hts nX1_begin_X1 tyX1 tyX1_ok nmX1 hown hK hP hD hS 0 rfl rfl 2 (by decide) k22 (fun _ h9 => h9) rfl (by decide +kernel) rfl rfl (Nat.le_of_ble_eq_true rfl) dX1_begin_11 (fun H locs hP hD hS => ?_)
  have hP : va_P D vwCl [(q3, .inr (1, [.ref qF, .int sb, .int 8, .int sg, .int sh])), (qF, .inr (0, [.int (fr &&& (4 ^^^ (-1 : Int32))), .int fe]))] H := hP
  have hD : va_D A [(q3, .inr (1, [.ref qF, .int sb, .int 8, .int sg, .int sh])), (qF, .inr (0, [.int (fr &&& (4 ^^^ (-1 : Int32))), .int fe]))] := hD
  refine lv_aload_n hx hb dX1_begin_14 rfl (lv_at hl 0 rfl) ?_
  refine lv_iconst (v := 0) hx hb dX1_begin_15 (by decide) ?_
  refine va_put (D := D) (ci := 1) (v := .int 0) (ty := .boolean) (C := RX1) (T := TX1) (N := 5) hx hb hts nX1_begin_X1 tyX1 tyX1_ok nmX1 hown hK hP hD hS 0 rfl rfl 4 (by decide) k25 (fun _ h9 => h9) rfl (by decide +kernel) rfl rfl (Nat.le_of_ble_eq_true rfl) dX1_begin_16 (fun H locs hP hD hS => ?_)
  have hP : va_P D vwCl [(q3, .inr (1, [.ref qF, .int sb, .int 8, .int sg, .int 0])), (qF, .inr (0, [.int (fr &&& (4 ^^^ (-1 : Int32))), .int fe]))] H := hP
  have hD : va_D A [(q3, .inr (1, [.ref qF, .int sb, .int 8, .int sg, .int 0])), (qF, .inr (0, [.int (fr &&& (4 ^^^ (-1 : Int32))), .int fe]))] := hD
  exact st_retv hx hb hr hlocks hP hD hS dX1_begin_19
def f_X1_shift_sb (sb p0 p1 : Int32) : Int32 := if p1 = 0 then (if p0 = 6 then (((sb <<< ((1 : Int32) &&& (31 : Int32)) : Int32) &&& (255 : Int32)) ||| (sb >>> ((7 : Int32) &&& (31 : Int32)) : Int32)) else (((sb <<< ((1 : Int32) &&& (31 : Int32)) : Int32) &&& (255 : Int32)) ||| (0 : Int32))) else (if p0 = 6 then (((sb <<< ((1 : Int32) &&& (31 : Int32)) : Int32) &&& (255 : Int32)) ||| (sb >>> ((7 : Int32) &&& (31 : Int32)) : Int32)) else (((sb <<< ((1 : Int32) &&& (31 : Int32)) : Int32) &&& (255 : Int32)) ||| (1 : Int32)))
def f_X1_shift_sg (sb sg p0 : Int32) : Int32 := if p0 = 6 then (sb >>> ((7 : Int32) &&& (31 : Int32)) : Int32) else sg
def f_X1_shift_fr (st fr : Int32) : Int32 := if (st - (1 : Int32)) = 0 then (fr ||| 4) else fr
theorem nX1_shift_X1 : ∀ w ∈ wsX10, w ∈ wsX1_shift := fun w h => List.mem_cons_of_mem _ (List.mem_append_left _ (List.mem_append_right _ h))
set_option maxHeartbeats 4000000 in
set_option maxRecDepth 100000 in
theorem k_X1_shift (l : Launch) (D : va_G) (q3 qF : Nat) (sb st sg sh fr fe p0 p1 : Int32) : stV l yX1_shift wsX1_shift ({ frames := 1, cells := 0, slots := 0, locals := 21 } : Room) D [] tE [.ref q3, .int p0, .int p1] [(q3, .inr (1, [.ref qF, .int sb, .int st, .int sg, .int sh])), (qF, .inr (0, [.int fr, .int fe]))] [(q3, .inr (1, [.ref qF, .int (f_X1_shift_sb sb p0 p1), .int (st - (1 : Int32)), .int (f_X1_shift_sg sb sg p0), .int sh])), (qF, .inr (0, [.int (f_X1_shift_fr st fr), .int fe]))] := by
  intro sz
  refine Met.ofW (cc := cX1_shift) (maxL := 5) (ret := none) (by decide) rfl ?_
  intro p e s m args below meth c s₁ B hml hv
  obtain ⟨rfl, rfl, hP, hK, hD, hE⟩ := st_open hv
  have hx := B.exec
  have hb := B.bytes
  have hr := B.returns
  have hts := atoms_spec (ws := wsX1_shift) B.pre
  have hown : s.vm.findClass RX1 = some m.cls := findClass_of_methodNamed B.named
  have hlocks := B.notSynchronized
  generalize hAe : va_A [(q3, .inr (1, [.ref qF, .int sb, .int st, .int sg, .int sh])), (qF, .inr (0, [.int fr, .int fe]))] s.heap.size = A at hD ⊢
  have hA : ∀ q : Nat, s.heap.size ≤ q → A q := fun q h => by rw [← hAe]; exact Or.inr h
  have hS : va_S A s.heap s.heap [] := va_S.rf
  have k9 := hts (.fieldLink RX1 9 "PortTimers$Shifter" "given" "I") (by decide +kernel)
  have k15 := hts (.fieldLink RX1 15 "PortTimers$Shifter" "flags" "LPortTimers$Flags;") (by decide +kernel)
  have k19 := hts (.fieldLink RX1 19 "PortTimers$Shifter" "bits" "I") (by decide +kernel)
  have k22 := hts (.fieldLink RX1 22 "PortTimers$Shifter" "toCome" "I") (by decide +kernel)
  have hl := lv_entry ([.ref q3, .int p0, .int p1]) (n := 5) (Nat.le_of_ble_eq_true rfl)
  rw [lg_entry_eq]
  generalize (lg_sl ([.ref q3, .int p0, .int p1]) ++ List.replicate (5 - (lg_sl ([.ref q3, .int p0, .int p1])).length) Slot.unset).toArray = ls at hl ⊢
  have hl : lv_has ls 5 [(0, .ref q3), (1, .int p0), (2, .int p1)] := hl
  refine lv_aload_n hx hb dX1_shift_0 rfl (lv_at hl 0 rfl) ?_
  refine va_get (D := D) (ci := 1) (v := .int sb) (C := RX1) (T := TX1) (N := 5) hx hb hts nX1_shift_X1 hown hK hP 0 rfl rfl 1 (by decide) k19 (fun _ h9 => h9) rfl dX1_shift_1 ?_
  refine lv_bipush (v := 7) hx hb dX1_shift_4 (by decide) ?_
  refine lv_ishr hx hb dX1_shift_6 ?_
  refine lv_istore_n (lv' := [(3, .int (sb >>> ((7 : Int32) &&& (31 : Int32)) : Int32)), (0, .ref q3), (1, .int p0), (2, .int p1)]) hx hb dX1_shift_7 rfl hl (by decide) rfl (fun ls hl => ?_)
  refine lv_iload_n hx hb dX1_shift_8 rfl (lv_at hl 3 rfl) ?_
  refine lv_if_eq (tgt := 16) hx hb dX1_shift_9 (by decide) (fun c_1 => ?_) (fun c_1 => ?_)
  · refine lv_iconst (v := 0) hx hb dX1_shift_16 (by decide) ?_
    refine lv_istore (lv' := [(4, .int 0), (3, .int (sb >>> ((7 : Int32) &&& (31 : Int32)) : Int32)), (0, .ref q3), (1, .int p0), (2, .int p1)]) hx hb dX1_shift_17 hl (by decide) rfl (fun ls hl => ?_)
    refine lv_iload_n hx hb dX1_shift_19 rfl (lv_at hl 3 rfl) ?_
    refine lv_bipush (v := 6) hx hb dX1_shift_20 (by decide) ?_
    refine lv_icmp_ne (tgt := 33) hx hb dX1_shift_22 (by decide) (fun c_2 => ?_) (fun c_2 => ?_)
    · refine lv_aload_n hx hb dX1_shift_33 rfl (lv_at hl 2 rfl) ?_
      refine lv_aload_n hx hb dX1_shift_34 rfl (lv_at hl 2 rfl) ?_
      refine va_get (D := D) (ci := 1) (v := .int sb) (C := RX1) (T := TX1) (N := 5) hx hb hts nX1_shift_X1 hown hK hP 0 rfl rfl 1 (by decide) k19 (fun _ h9 => h9) rfl dX1_shift_35 ?_
      refine lv_iconst (v := 1) hx hb dX1_shift_38 (by decide) ?_
      refine lv_ishl hx hb dX1_shift_39 ?_
      refine lv_sipush (v := 255) hx hb dX1_shift_40 (by decide) ?_
      refine lv_iand hx hb dX1_shift_43 ?_
      refine lv_iload hx hb dX1_shift_44 (lv_at hl 0 rfl) ?_
      refine lv_ior hx hb dX1_shift_46 ?_
      refine va_put (D := D) (ci := 1) (v := .int (((sb <<< ((1 : Int32) &&& (31 : Int32)) : Int32) &&& (255 : Int32)) ||| (0 : Int32))) (ty := .int) (C := RX1) (T := TX1) (N := 5) hx hb hts nX1_shift_X1 tyX1 tyX1_ok nmX1 hown hK hP hD hS 0 rfl rfl 1 (by decide) k19 (fun _ h9 => h9) rfl (by decide +kernel) rfl rfl (Nat.le_of_ble_eq_true rfl) dX1_shift_47 (fun H locs hP hD hS => ?_)
      have hP : va_P D vwCl [(q3, .inr (1, [.ref qF, .int (((sb <<< ((1 : Int32) &&& (31 : Int32)) : Int32) &&& (255 : Int32)) ||| (0 : Int32)), .int st, .int sg, .int sh])), (qF, .inr (0, [.int fr, .int fe]))] H := hP
      have hD : va_D A [(q3, .inr (1, [.ref qF, .int (((sb <<< ((1 : Int32) &&& (31 : Int32)) : Int32) &&& (255 : Int32)) ||| (0 : Int32)), .int st, .int sg, .int sh])), (qF, .inr (0, [.int fr, .int fe]))] := hD
      refine lv_aload_n hx hb dX1_shift_50 rfl (lv_at hl 2 rfl) ?_
      refine lv_dup hx hb dX1_shift_51 rfl ?_
      refine va_get (D := D) (ci := 1) (v := .int st) (C := RX1) (T := TX1) (N := 5) hx hb hts nX1_shift_X1 hown hK hP 0 rfl rfl 2 (by decide) k22 (fun _ h9 => h9) rfl dX1_shift_52 ?_
      refine lv_iconst (v := 1) hx hb dX1_shift_55 (by decide) ?_
      refine lv_isub hx hb dX1_shift_56 ?_
      refine va_put (D := D) (ci := 1) (v := .int (st - (1 : Int32))) (ty := .int) (C := RX1) (T := TX1) (N := 5) hx hb hts nX1_shift_X1 tyX1 tyX1_ok nmX1 hown hK hP hD hS 0 rfl rfl 2 (by decide) k22 (fun _ h9 => h9) rfl (by decide +kernel) rfl rfl (Nat.le_of_ble_eq_true rfl) dX1_shift_57 (fun H locs hP hD hS => ?_)
      have hP : va_P D vwCl [(q3, .inr (1, [.ref qF, .int (((sb <<< ((1 : Int32) &&& (31 : Int32)) : Int32) &&& (255 : Int32)) ||| (0 : Int32)), .int (st - (1 : Int32)), .int sg, .int sh])), (qF, .inr (0, [.int fr, .int fe]))] H := hP
      have hD : va_D A [(q3, .inr (1, [.ref qF, .int (((sb <<< ((1 : Int32) &&& (31 : Int32)) : Int32) &&& (255 : Int32)) ||| (0 : Int32)), .int (st - (1 : Int32)), .int sg, .int sh])), (qF, .inr (0, [.int fr, .int fe]))] := hD
      refine lv_aload_n hx hb dX1_shift_60 rfl (lv_at hl 2 rfl) ?_
      refine va_get (D := D) (ci := 1) (v := .int (st - (1 : Int32))) (C := RX1) (T := TX1) (N := 5) hx hb hts nX1_shift_X1 hown hK hP 0 rfl rfl 2 (by decide) k22 (fun _ h9 => h9) rfl dX1_shift_61 ?_
      refine lv_if_ne (tgt := 75) hx hb dX1_shift_64 (by decide) (fun c_3 => ?_) (fun c_3 => ?_)
      · have hw : ([(q3, .inr (1, [.ref qF, .int (f_X1_shift_sb sb p0 p1), .int (st - (1 : Int32)), .int (f_X1_shift_sg sb sg p0), .int sh])), (qF, .inr (0, [.int (f_X1_shift_fr st fr), .int fe]))] : va_W) = [(q3, .inr (1, [.ref qF, .int (((sb <<< ((1 : Int32) &&& (31 : Int32)) : Int32) &&& (255 : Int32)) ||| (0 : Int32)), .int (st - (1 : Int32)), .int sg, .int sh])), (qF, .inr (0, [.int fr, .int fe]))] := by simp only [f_X1_shift_sb, f_X1_shift_sg, f_X1_shift_fr, if_pos c_1, if_neg c_2, if_neg c_3]
        exact st_retv hx hb hr hlocks (by rw [hw]; exact hP) (by rw [hw]; exact hD) hS dX1_shift_75
      · refine lv_aload_n hx hb dX1_shift_67 rfl (lv_at hl 2 rfl) ?_
        refine va_get (D := D) (ci := 1) (v := .ref qF) (C := RX1) (T := TX1) (N := 5) hx hb hts nX1_shift_X1 hown hK hP 0 rfl rfl 0 (by decide) k15 (fun _ h9 => h9) rfl dX1_shift_68 ?_
        refine lv_iconst (v := 4) hx hb dX1_shift_71 (by decide) ?_
        refine st_vV (As := [.int 4]) (rest := []) (wc := [(qF, .inr (0, [.int fr, .int fe]))]) (wr := [(q3, .inr (1, [.ref qF, .int (((sb <<< ((1 : Int32) &&& (31 : Int32)) : Int32) &&& (255 : Int32)) ||| (0 : Int32)), .int (st - (1 : Int32)), .int sg, .int sh]))]) (w1 := [(qF, .inr (0, [.int (fr ||| 4), .int fe]))]) (wn := [(q3, .inr (1, [.ref qF, .int (((sb <<< ((1 : Int32) &&& (31 : Int32)) : Int32) &&& (255 : Int32)) ||| (0 : Int32)), .int (st - (1 : Int32)), .int sg, .int sh])), (qF, .inr (0, [.int (fr ||| 4), .int fe]))]) ⟨hx, hb, hml, hown, hts⟩ (k_X0_raise l D qF fr fe 4) (cwV 1 hts gX1_shift_X0_raise rfl rfl rfl (by decide +kernel) ⟨Nat.le_of_ble_eq_true rfl, Nat.le_of_ble_eq_true rfl⟩) tE_v (fun _ _ => trivial) hK hP hD hS hA (fun hPc => va_recv hK hPc (ci := 0) (q0 := 0) rfl rfl) [1] [0] [0, 1] rfl rfl (by decide) rfl rfl rfl hl.1 (Nat.le_of_ble_eq_true rfl) dX1_shift_72 ⟨Nat.zero_le _, Nat.zero_le _⟩ (fun H locs hP hD hS => ?_)
        have hw : ([(q3, .inr (1, [.ref qF, .int (f_X1_shift_sb sb p0 p1), .int (st - (1 : Int32)), .int (f_X1_shift_sg sb sg p0), .int sh])), (qF, .inr (0, [.int (f_X1_shift_fr st fr), .int fe]))] : va_W) = [(q3, .inr (1, [.ref qF, .int (((sb <<< ((1 : Int32) &&& (31 : Int32)) : Int32) &&& (255 : Int32)) ||| (0 : Int32)), .int (st - (1 : Int32)), .int sg, .int sh])), (qF, .inr (0, [.int (fr ||| 4), .int fe]))] := by simp only [f_X1_shift_sb, f_X1_shift_sg, f_X1_shift_fr, if_pos c_1, if_neg c_2, if_pos c_3]
        exact st_retv hx hb hr hlocks (by rw [hw]; exact hP) (by rw [hw]; exact hD) hS dX1_shift_75
    · refine lv_aload_n hx hb dX1_shift_25 rfl (lv_at hl 2 rfl) ?_
      refine lv_iload_n hx hb dX1_shift_26 rfl (lv_at hl 1 rfl) ?_
      refine va_put (D := D) (ci := 1) (v := .int (sb >>> ((7 : Int32) &&& (31 : Int32)) : Int32)) (ty := .int) (C := RX1) (T := TX1) (N := 5) hx hb hts nX1_shift_X1 tyX1 tyX1_ok nmX1 hown hK hP hD hS 0 rfl rfl 3 (by decide) k9 (fun _ h9 => h9) rfl (by decide +kernel) rfl rfl (Nat.le_of_ble_eq_true rfl) dX1_shift_27 (fun H locs hP hD hS => ?_)
      have hP : va_P D vwCl [(q3, .inr (1, [.ref qF, .int sb, .int st, .int (sb >>> ((7 : Int32) &&& (31 : Int32)) : Int32), .int sh])), (qF, .inr (0, [.int fr, .int fe]))] H := hP
      have hD : va_D A [(q3, .inr (1, [.ref qF, .int sb, .int st, .int (sb >>> ((7 : Int32) &&& (31 : Int32)) : Int32), .int sh])), (qF, .inr (0, [.int fr, .int fe]))] := hD
      refine lv_iload_n hx hb dX1_shift_30 rfl (lv_at hl 1 rfl) ?_
      refine lv_istore (lv' := [(4, .int (sb >>> ((7 : Int32) &&& (31 : Int32)) : Int32)), (3, .int (sb >>> ((7 : Int32) &&& (31 : Int32)) : Int32)), (0, .ref q3), (1, .int p0), (2, .int p1)]) hx hb dX1_shift_31 hl (by decide) rfl (fun ls hl => ?_)
      refine lv_aload_n hx hb dX1_shift_33 rfl (lv_at hl 2 rfl) ?_
      refine lv_aload_n hx hb dX1_shift_34 rfl (lv_at hl 2 rfl) ?_
      refine va_get (D := D) (ci := 1) (v := .int sb) (C := RX1) (T := TX1) (N := 5) hx hb hts nX1_shift_X1 hown hK hP 0 rfl rfl 1 (by decide) k19 (fun _ h9 => h9) rfl dX1_shift_35 ?_
      refine lv_iconst (v := 1) hx hb dX1_shift_38 (by decide) ?_
      refine lv_ishl hx hb dX1_shift_39 ?_
      refine lv_sipush (v := 255) hx hb dX1_shift_40 (by decide) ?_
      refine lv_iand hx hb dX1_shift_43 ?_
      refine lv_iload hx hb dX1_shift_44 (lv_at hl 0 rfl) ?_
      refine lv_ior hx hb dX1_shift_46 ?_
      refine va_put (D := D) (ci := 1) (v := .int (((sb <<< ((1 : Int32) &&& (31 : Int32)) : Int32) &&& (255 : Int32)) ||| (sb >>> ((7 : Int32) &&& (31 : Int32)) : Int32))) (ty := .int) (C := RX1) (T := TX1) (N := 5) hx hb hts nX1_shift_X1 tyX1 tyX1_ok nmX1 hown hK hP hD hS 0 rfl rfl 1 (by decide) k19 (fun _ h9 => h9) rfl (by decide +kernel) rfl rfl (Nat.le_of_ble_eq_true rfl) dX1_shift_47 (fun H locs hP hD hS => ?_)
      have hP : va_P D vwCl [(q3, .inr (1, [.ref qF, .int (((sb <<< ((1 : Int32) &&& (31 : Int32)) : Int32) &&& (255 : Int32)) ||| (sb >>> ((7 : Int32) &&& (31 : Int32)) : Int32)), .int st, .int (sb >>> ((7 : Int32) &&& (31 : Int32)) : Int32), .int sh])), (qF, .inr (0, [.int fr, .int fe]))] H := hP
      have hD : va_D A [(q3, .inr (1, [.ref qF, .int (((sb <<< ((1 : Int32) &&& (31 : Int32)) : Int32) &&& (255 : Int32)) ||| (sb >>> ((7 : Int32) &&& (31 : Int32)) : Int32)), .int st, .int (sb >>> ((7 : Int32) &&& (31 : Int32)) : Int32), .int sh])), (qF, .inr (0, [.int fr, .int fe]))] := hD
      refine lv_aload_n hx hb dX1_shift_50 rfl (lv_at hl 2 rfl) ?_
      refine lv_dup hx hb dX1_shift_51 rfl ?_
      refine va_get (D := D) (ci := 1) (v := .int st) (C := RX1) (T := TX1) (N := 5) hx hb hts nX1_shift_X1 hown hK hP 0 rfl rfl 2 (by decide) k22 (fun _ h9 => h9) rfl dX1_shift_52 ?_
      refine lv_iconst (v := 1) hx hb dX1_shift_55 (by decide) ?_
      refine lv_isub hx hb dX1_shift_56 ?_
      refine va_put (D := D) (ci := 1) (v := .int (st - (1 : Int32))) (ty := .int) (C := RX1) (T := TX1) (N := 5) hx hb hts nX1_shift_X1 tyX1 tyX1_ok nmX1 hown hK hP hD hS 0 rfl rfl 2 (by decide) k22 (fun _ h9 => h9) rfl (by decide +kernel) rfl rfl (Nat.le_of_ble_eq_true rfl) dX1_shift_57 (fun H locs hP hD hS => ?_)
      have hP : va_P D vwCl [(q3, .inr (1, [.ref qF, .int (((sb <<< ((1 : Int32) &&& (31 : Int32)) : Int32) &&& (255 : Int32)) ||| (sb >>> ((7 : Int32) &&& (31 : Int32)) : Int32)), .int (st - (1 : Int32)), .int (sb >>> ((7 : Int32) &&& (31 : Int32)) : Int32), .int sh])), (qF, .inr (0, [.int fr, .int fe]))] H := hP
      have hD : va_D A [(q3, .inr (1, [.ref qF, .int (((sb <<< ((1 : Int32) &&& (31 : Int32)) : Int32) &&& (255 : Int32)) ||| (sb >>> ((7 : Int32) &&& (31 : Int32)) : Int32)), .int (st - (1 : Int32)), .int (sb >>> ((7 : Int32) &&& (31 : Int32)) : Int32), .int sh])), (qF, .inr (0, [.int fr, .int fe]))] := hD
      refine lv_aload_n hx hb dX1_shift_60 rfl (lv_at hl 2 rfl) ?_
      refine va_get (D := D) (ci := 1) (v := .int (st - (1 : Int32))) (C := RX1) (T := TX1) (N := 5) hx hb hts nX1_shift_X1 hown hK hP 0 rfl rfl 2 (by decide) k22 (fun _ h9 => h9) rfl dX1_shift_61 ?_
      refine lv_if_ne (tgt := 75) hx hb dX1_shift_64 (by decide) (fun c_4 => ?_) (fun c_4 => ?_)
      · have hw : ([(q3, .inr (1, [.ref qF, .int (f_X1_shift_sb sb p0 p1), .int (st - (1 : Int32)), .int (f_X1_shift_sg sb sg p0), .int sh])), (qF, .inr (0, [.int (f_X1_shift_fr st fr), .int fe]))] : va_W) = [(q3, .inr (1, [.ref qF, .int (((sb <<< ((1 : Int32) &&& (31 : Int32)) : Int32) &&& (255 : Int32)) ||| (sb >>> ((7 : Int32) &&& (31 : Int32)) : Int32)), .int (st - (1 : Int32)), .int (sb >>> ((7 : Int32) &&& (31 : Int32)) : Int32), .int sh])), (qF, .inr (0, [.int fr, .int fe]))] := by simp only [f_X1_shift_sb, f_X1_shift_sg, f_X1_shift_fr, if_pos c_1, if_pos c_2, if_neg c_4]
        exact st_retv hx hb hr hlocks (by rw [hw]; exact hP) (by rw [hw]; exact hD) hS dX1_shift_75
      · refine lv_aload_n hx hb dX1_shift_67 rfl (lv_at hl 2 rfl) ?_
        refine va_get (D := D) (ci := 1) (v := .ref qF) (C := RX1) (T := TX1) (N := 5) hx hb hts nX1_shift_X1 hown hK hP 0 rfl rfl 0 (by decide) k15 (fun _ h9 => h9) rfl dX1_shift_68 ?_
        refine lv_iconst (v := 4) hx hb dX1_shift_71 (by decide) ?_
        refine st_vV (As := [.int 4]) (rest := []) (wc := [(qF, .inr (0, [.int fr, .int fe]))]) (wr := [(q3, .inr (1, [.ref qF, .int (((sb <<< ((1 : Int32) &&& (31 : Int32)) : Int32) &&& (255 : Int32)) ||| (sb >>> ((7 : Int32) &&& (31 : Int32)) : Int32)), .int (st - (1 : Int32)), .int (sb >>> ((7 : Int32) &&& (31 : Int32)) : Int32), .int sh]))]) (w1 := [(qF, .inr (0, [.int (fr ||| 4), .int fe]))]) (wn := [(q3, .inr (1, [.ref qF, .int (((sb <<< ((1 : Int32) &&& (31 : Int32)) : Int32) &&& (255 : Int32)) ||| (sb >>> ((7 : Int32) &&& (31 : Int32)) : Int32)), .int (st - (1 : Int32)), .int (sb >>> ((7 : Int32) &&& (31 : Int32)) : Int32), .int sh])), (qF, .inr (0, [.int (fr ||| 4), .int fe]))]) ⟨hx, hb, hml, hown, hts⟩ (k_X0_raise l D qF fr fe 4) (cwV 1 hts gX1_shift_X0_raise rfl rfl rfl (by decide +kernel) ⟨Nat.le_of_ble_eq_true rfl, Nat.le_of_ble_eq_true rfl⟩) tE_v (fun _ _ => trivial) hK hP hD hS hA (fun hPc => va_recv hK hPc (ci := 0) (q0 := 0) rfl rfl) [1] [0] [0, 1] rfl rfl (by decide) rfl rfl rfl hl.1 (Nat.le_of_ble_eq_true rfl) dX1_shift_72 ⟨Nat.zero_le _, Nat.zero_le _⟩ (fun H locs hP hD hS => ?_)
        have hw : ([(q3, .inr (1, [.ref qF, .int (f_X1_shift_sb sb p0 p1), .int (st - (1 : Int32)), .int (f_X1_shift_sg sb sg p0), .int sh])), (qF, .inr (0, [.int (f_X1_shift_fr st fr), .int fe]))] : va_W) = [(q3, .inr (1, [.ref qF, .int (((sb <<< ((1 : Int32) &&& (31 : Int32)) : Int32) &&& (255 : Int32)) ||| (sb >>> ((7 : Int32) &&& (31 : Int32)) : Int32)), .int (st - (1 : Int32)), .int (sb >>> ((7 : Int32) &&& (31 : Int32)) : Int32), .int sh])), (qF, .inr (0, [.int (fr ||| 4), .int fe]))] := by simp only [f_X1_shift_sb, f_X1_shift_sg, f_X1_shift_fr, if_pos c_1, if_pos c_2, if_pos c_4]
        exact st_retv hx hb hr hlocks (by rw [hw]; exact hP) (by rw [hw]; exact hD) hS dX1_shift_75
  · refine lv_iconst (v := 1) hx hb dX1_shift_12 (by decide) ?_
    refine lv_goto (tgt := 17) hx hb dX1_shift_13 (by decide) ?_
    refine lv_istore (lv' := [(4, .int 1), (3, .int (sb >>> ((7 : Int32) &&& (31 : Int32)) : Int32)), (0, .ref q3), (1, .int p0), (2, .int p1)]) hx hb dX1_shift_17 hl (by decide) rfl (fun ls hl => ?_)
    refine lv_iload_n hx hb dX1_shift_19 rfl (lv_at hl 3 rfl) ?_
    refine lv_bipush (v := 6) hx hb dX1_shift_20 (by decide) ?_
    refine lv_icmp_ne (tgt := 33) hx hb dX1_shift_22 (by decide) (fun c_5 => ?_) (fun c_5 => ?_)
    · refine lv_aload_n hx hb dX1_shift_33 rfl (lv_at hl 2 rfl) ?_
      refine lv_aload_n hx hb dX1_shift_34 rfl (lv_at hl 2 rfl) ?_
      refine va_get (D := D) (ci := 1) (v := .int sb) (C := RX1) (T := TX1) (N := 5) hx hb hts nX1_shift_X1 hown hK hP 0 rfl rfl 1 (by decide) k19 (fun _ h9 => h9) rfl dX1_shift_35 ?_
      refine lv_iconst (v := 1) hx hb dX1_shift_38 (by decide) ?_
      refine lv_ishl hx hb dX1_shift_39 ?_
      refine lv_sipush (v := 255) hx hb dX1_shift_40 (by decide) ?_
      refine lv_iand hx hb dX1_shift_43 ?_
      refine lv_iload hx hb dX1_shift_44 (lv_at hl 0 rfl) ?_
      refine lv_ior hx hb dX1_shift_46 ?_
      refine va_put (D := D) (ci := 1) (v := .int (((sb <<< ((1 : Int32) &&& (31 : Int32)) : Int32) &&& (255 : Int32)) ||| (1 : Int32))) (ty := .int) (C := RX1) (T := TX1) (N := 5) hx hb hts nX1_shift_X1 tyX1 tyX1_ok nmX1 hown hK hP hD hS 0 rfl rfl 1 (by decide) k19 (fun _ h9 => h9) rfl (by decide +kernel) rfl rfl (Nat.le_of_ble_eq_true rfl) dX1_shift_47 (fun H locs hP hD hS => ?_)
      have hP : va_P D vwCl [(q3, .inr (1, [.ref qF, .int (((sb <<< ((1 : Int32) &&& (31 : Int32)) : Int32) &&& (255 : Int32)) ||| (1 : Int32)), .int st, .int sg, .int sh])), (qF, .inr (0, [.int fr, .int fe]))] H := hP
      have hD : va_D A [(q3, .inr (1, [.ref qF, .int (((sb <<< ((1 : Int32) &&& (31 : Int32)) : Int32) &&& (255 : Int32)) ||| (1 : Int32)), .int st, .int sg, .int sh])), (qF, .inr (0, [.int fr, .int fe]))] := hD
      refine lv_aload_n hx hb dX1_shift_50 rfl (lv_at hl 2 rfl) ?_
      refine lv_dup hx hb dX1_shift_51 rfl ?_
      refine va_get (D := D) (ci := 1) (v := .int st) (C := RX1) (T := TX1) (N := 5) hx hb hts nX1_shift_X1 hown hK hP 0 rfl rfl 2 (by decide) k22 (fun _ h9 => h9) rfl dX1_shift_52 ?_
      refine lv_iconst (v := 1) hx hb dX1_shift_55 (by decide) ?_
      refine lv_isub hx hb dX1_shift_56 ?_
      refine va_put (D := D) (ci := 1) (v := .int (st - (1 : Int32))) (ty := .int) (C := RX1) (T := TX1) (N := 5) hx hb hts nX1_shift_X1 tyX1 tyX1_ok nmX1 hown hK hP hD hS 0 rfl rfl 2 (by decide) k22 (fun _ h9 => h9) rfl (by decide +kernel) rfl rfl (Nat.le_of_ble_eq_true rfl) dX1_shift_57 (fun H locs hP hD hS => ?_)
      have hP : va_P D vwCl [(q3, .inr (1, [.ref qF, .int (((sb <<< ((1 : Int32) &&& (31 : Int32)) : Int32) &&& (255 : Int32)) ||| (1 : Int32)), .int (st - (1 : Int32)), .int sg, .int sh])), (qF, .inr (0, [.int fr, .int fe]))] H := hP
      have hD : va_D A [(q3, .inr (1, [.ref qF, .int (((sb <<< ((1 : Int32) &&& (31 : Int32)) : Int32) &&& (255 : Int32)) ||| (1 : Int32)), .int (st - (1 : Int32)), .int sg, .int sh])), (qF, .inr (0, [.int fr, .int fe]))] := hD
      refine lv_aload_n hx hb dX1_shift_60 rfl (lv_at hl 2 rfl) ?_
      refine va_get (D := D) (ci := 1) (v := .int (st - (1 : Int32))) (C := RX1) (T := TX1) (N := 5) hx hb hts nX1_shift_X1 hown hK hP 0 rfl rfl 2 (by decide) k22 (fun _ h9 => h9) rfl dX1_shift_61 ?_
      refine lv_if_ne (tgt := 75) hx hb dX1_shift_64 (by decide) (fun c_6 => ?_) (fun c_6 => ?_)
      · have hw : ([(q3, .inr (1, [.ref qF, .int (f_X1_shift_sb sb p0 p1), .int (st - (1 : Int32)), .int (f_X1_shift_sg sb sg p0), .int sh])), (qF, .inr (0, [.int (f_X1_shift_fr st fr), .int fe]))] : va_W) = [(q3, .inr (1, [.ref qF, .int (((sb <<< ((1 : Int32) &&& (31 : Int32)) : Int32) &&& (255 : Int32)) ||| (1 : Int32)), .int (st - (1 : Int32)), .int sg, .int sh])), (qF, .inr (0, [.int fr, .int fe]))] := by simp only [f_X1_shift_sb, f_X1_shift_sg, f_X1_shift_fr, if_neg c_1, if_neg c_5, if_neg c_6]
        exact st_retv hx hb hr hlocks (by rw [hw]; exact hP) (by rw [hw]; exact hD) hS dX1_shift_75
      · refine lv_aload_n hx hb dX1_shift_67 rfl (lv_at hl 2 rfl) ?_
        refine va_get (D := D) (ci := 1) (v := .ref qF) (C := RX1) (T := TX1) (N := 5) hx hb hts nX1_shift_X1 hown hK hP 0 rfl rfl 0 (by decide) k15 (fun _ h9 => h9) rfl dX1_shift_68 ?_
        refine lv_iconst (v := 4) hx hb dX1_shift_71 (by decide) ?_
        refine st_vV (As := [.int 4]) (rest := []) (wc := [(qF, .inr (0, [.int fr, .int fe]))]) (wr := [(q3, .inr (1, [.ref qF, .int (((sb <<< ((1 : Int32) &&& (31 : Int32)) : Int32) &&& (255 : Int32)) ||| (1 : Int32)), .int (st - (1 : Int32)), .int sg, .int sh]))]) (w1 := [(qF, .inr (0, [.int (fr ||| 4), .int fe]))]) (wn := [(q3, .inr (1, [.ref qF, .int (((sb <<< ((1 : Int32) &&& (31 : Int32)) : Int32) &&& (255 : Int32)) ||| (1 : Int32)), .int (st - (1 : Int32)), .int sg, .int sh])), (qF, .inr (0, [.int (fr ||| 4), .int fe]))]) ⟨hx, hb, hml, hown, hts⟩ (k_X0_raise l D qF fr fe 4) (cwV 1 hts gX1_shift_X0_raise rfl rfl rfl (by decide +kernel) ⟨Nat.le_of_ble_eq_true rfl, Nat.le_of_ble_eq_true rfl⟩) tE_v (fun _ _ => trivial) hK hP hD hS hA (fun hPc => va_recv hK hPc (ci := 0) (q0 := 0) rfl rfl) [1] [0] [0, 1] rfl rfl (by decide) rfl rfl rfl hl.1 (Nat.le_of_ble_eq_true rfl) dX1_shift_72 ⟨Nat.zero_le _, Nat.zero_le _⟩ (fun H locs hP hD hS => ?_)
        have hw : ([(q3, .inr (1, [.ref qF, .int (f_X1_shift_sb sb p0 p1), .int (st - (1 : Int32)), .int (f_X1_shift_sg sb sg p0), .int sh])), (qF, .inr (0, [.int (f_X1_shift_fr st fr), .int fe]))] : va_W) = [(q3, .inr (1, [.ref qF, .int (((sb <<< ((1 : Int32) &&& (31 : Int32)) : Int32) &&& (255 : Int32)) ||| (1 : Int32)), .int (st - (1 : Int32)), .int sg, .int sh])), (qF, .inr (0, [.int (fr ||| 4), .int fe]))] := by simp only [f_X1_shift_sb, f_X1_shift_sg, f_X1_shift_fr, if_neg c_1, if_neg c_5, if_pos c_6]
        exact st_retv hx hb hr hlocks (by rw [hw]; exact hP) (by rw [hw]; exact hD) hS dX1_shift_75
    · refine lv_aload_n hx hb dX1_shift_25 rfl (lv_at hl 2 rfl) ?_
      refine lv_iload_n hx hb dX1_shift_26 rfl (lv_at hl 1 rfl) ?_
      refine va_put (D := D) (ci := 1) (v := .int (sb >>> ((7 : Int32) &&& (31 : Int32)) : Int32)) (ty := .int) (C := RX1) (T := TX1) (N := 5) hx hb hts nX1_shift_X1 tyX1 tyX1_ok nmX1 hown hK hP hD hS 0 rfl rfl 3 (by decide) k9 (fun _ h9 => h9) rfl (by decide +kernel) rfl rfl (Nat.le_of_ble_eq_true rfl) dX1_shift_27 (fun H locs hP hD hS => ?_)
      have hP : va_P D vwCl [(q3, .inr (1, [.ref qF, .int sb, .int st, .int (sb >>> ((7 : Int32) &&& (31 : Int32)) : Int32), .int sh])), (qF, .inr (0, [.int fr, .int fe]))] H := hP
      have hD : va_D A [(q3, .inr (1, [.ref qF, .int sb, .int st, .int (sb >>> ((7 : Int32) &&& (31 : Int32)) : Int32), .int sh])), (qF, .inr (0, [.int fr, .int fe]))] := hD
      refine lv_iload_n hx hb dX1_shift_30 rfl (lv_at hl 1 rfl) ?_
      refine lv_istore (lv' := [(4, .int (sb >>> ((7 : Int32) &&& (31 : Int32)) : Int32)), (3, .int (sb >>> ((7 : Int32) &&& (31 : Int32)) : Int32)), (0, .ref q3), (1, .int p0), (2, .int p1)]) hx hb dX1_shift_31 hl (by decide) rfl (fun ls hl => ?_)
      refine lv_aload_n hx hb dX1_shift_33 rfl (lv_at hl 2 rfl) ?_
      refine lv_aload_n hx hb dX1_shift_34 rfl (lv_at hl 2 rfl) ?_
      refine va_get (D := D) (ci := 1) (v := .int sb) (C := RX1) (T := TX1) (N := 5) hx hb hts nX1_shift_X1 hown hK hP 0 rfl rfl 1 (by decide) k19 (fun _ h9 => h9) rfl dX1_shift_35 ?_
      refine lv_iconst (v := 1) hx hb dX1_shift_38 (by decide) ?_
      refine lv_ishl hx hb dX1_shift_39 ?_
      refine lv_sipush (v := 255) hx hb dX1_shift_40 (by decide) ?_
      refine lv_iand hx hb dX1_shift_43 ?_
      refine lv_iload hx hb dX1_shift_44 (lv_at hl 0 rfl) ?_
      refine lv_ior hx hb dX1_shift_46 ?_
      refine va_put (D := D) (ci := 1) (v := .int (((sb <<< ((1 : Int32) &&& (31 : Int32)) : Int32) &&& (255 : Int32)) ||| (sb >>> ((7 : Int32) &&& (31 : Int32)) : Int32))) (ty := .int) (C := RX1) (T := TX1) (N := 5) hx hb hts nX1_shift_X1 tyX1 tyX1_ok nmX1 hown hK hP hD hS 0 rfl rfl 1 (by decide) k19 (fun _ h9 => h9) rfl (by decide +kernel) rfl rfl (Nat.le_of_ble_eq_true rfl) dX1_shift_47 (fun H locs hP hD hS => ?_)
      have hP : va_P D vwCl [(q3, .inr (1, [.ref qF, .int (((sb <<< ((1 : Int32) &&& (31 : Int32)) : Int32) &&& (255 : Int32)) ||| (sb >>> ((7 : Int32) &&& (31 : Int32)) : Int32)), .int st, .int (sb >>> ((7 : Int32) &&& (31 : Int32)) : Int32), .int sh])), (qF, .inr (0, [.int fr, .int fe]))] H := hP
      have hD : va_D A [(q3, .inr (1, [.ref qF, .int (((sb <<< ((1 : Int32) &&& (31 : Int32)) : Int32) &&& (255 : Int32)) ||| (sb >>> ((7 : Int32) &&& (31 : Int32)) : Int32)), .int st, .int (sb >>> ((7 : Int32) &&& (31 : Int32)) : Int32), .int sh])), (qF, .inr (0, [.int fr, .int fe]))] := hD
      refine lv_aload_n hx hb dX1_shift_50 rfl (lv_at hl 2 rfl) ?_
      refine lv_dup hx hb dX1_shift_51 rfl ?_
      refine va_get (D := D) (ci := 1) (v := .int st) (C := RX1) (T := TX1) (N := 5) hx hb hts nX1_shift_X1 hown hK hP 0 rfl rfl 2 (by decide) k22 (fun _ h9 => h9) rfl dX1_shift_52 ?_
      refine lv_iconst (v := 1) hx hb dX1_shift_55 (by decide) ?_
      refine lv_isub hx hb dX1_shift_56 ?_
      refine va_put (D := D) (ci := 1) (v := .int (st - (1 : Int32))) (ty := .int) (C := RX1) (T := TX1) (N := 5) hx hb hts nX1_shift_X1 tyX1 tyX1_ok nmX1 hown hK hP hD hS 0 rfl rfl 2 (by decide) k22 (fun _ h9 => h9) rfl (by decide +kernel) rfl rfl (Nat.le_of_ble_eq_true rfl) dX1_shift_57 (fun H locs hP hD hS => ?_)
      have hP : va_P D vwCl [(q3, .inr (1, [.ref qF, .int (((sb <<< ((1 : Int32) &&& (31 : Int32)) : Int32) &&& (255 : Int32)) ||| (sb >>> ((7 : Int32) &&& (31 : Int32)) : Int32)), .int (st - (1 : Int32)), .int (sb >>> ((7 : Int32) &&& (31 : Int32)) : Int32), .int sh])), (qF, .inr (0, [.int fr, .int fe]))] H := hP
      have hD : va_D A [(q3, .inr (1, [.ref qF, .int (((sb <<< ((1 : Int32) &&& (31 : Int32)) : Int32) &&& (255 : Int32)) ||| (sb >>> ((7 : Int32) &&& (31 : Int32)) : Int32)), .int (st - (1 : Int32)), .int (sb >>> ((7 : Int32) &&& (31 : Int32)) : Int32), .int sh])), (qF, .inr (0, [.int fr, .int fe]))] := hD
      refine lv_aload_n hx hb dX1_shift_60 rfl (lv_at hl 2 rfl) ?_
      refine va_get (D := D) (ci := 1) (v := .int (st - (1 : Int32))) (C := RX1) (T := TX1) (N := 5) hx hb hts nX1_shift_X1 hown hK hP 0 rfl rfl 2 (by decide) k22 (fun _ h9 => h9) rfl dX1_shift_61 ?_
      refine lv_if_ne (tgt := 75) hx hb dX1_shift_64 (by decide) (fun c_7 => ?_) (fun c_7 => ?_)
      · have hw : ([(q3, .inr (1, [.ref qF, .int (f_X1_shift_sb sb p0 p1), .int (st - (1 : Int32)), .int (f_X1_shift_sg sb sg p0), .int sh])), (qF, .inr (0, [.int (f_X1_shift_fr st fr), .int fe]))] : va_W) = [(q3, .inr (1, [.ref qF, .int (((sb <<< ((1 : Int32) &&& (31 : Int32)) : Int32) &&& (255 : Int32)) ||| (sb >>> ((7 : Int32) &&& (31 : Int32)) : Int32)), .int (st - (1 : Int32)), .int (sb >>> ((7 : Int32) &&& (31 : Int32)) : Int32), .int sh])), (qF, .inr (0, [.int fr, .int fe]))] := by simp only [f_X1_shift_sb, f_X1_shift_sg, f_X1_shift_fr, if_neg c_1, if_pos c_5, if_neg c_7]
        exact st_retv hx hb hr hlocks (by rw [hw]; exact hP) (by rw [hw]; exact hD) hS dX1_shift_75
      · refine lv_aload_n hx hb dX1_shift_67 rfl (lv_at hl 2 rfl) ?_
        refine va_get (D := D) (ci := 1) (v := .ref qF) (C := RX1) (T := TX1) (N := 5) hx hb hts nX1_shift_X1 hown hK hP 0 rfl rfl 0 (by decide) k15 (fun _ h9 => h9) rfl dX1_shift_68 ?_
        refine lv_iconst (v := 4) hx hb dX1_shift_71 (by decide) ?_
        refine st_vV (As := [.int 4]) (rest := []) (wc := [(qF, .inr (0, [.int fr, .int fe]))]) (wr := [(q3, .inr (1, [.ref qF, .int (((sb <<< ((1 : Int32) &&& (31 : Int32)) : Int32) &&& (255 : Int32)) ||| (sb >>> ((7 : Int32) &&& (31 : Int32)) : Int32)), .int (st - (1 : Int32)), .int (sb >>> ((7 : Int32) &&& (31 : Int32)) : Int32), .int sh]))]) (w1 := [(qF, .inr (0, [.int (fr ||| 4), .int fe]))]) (wn := [(q3, .inr (1, [.ref qF, .int (((sb <<< ((1 : Int32) &&& (31 : Int32)) : Int32) &&& (255 : Int32)) ||| (sb >>> ((7 : Int32) &&& (31 : Int32)) : Int32)), .int (st - (1 : Int32)), .int (sb >>> ((7 : Int32) &&& (31 : Int32)) : Int32), .int sh])), (qF, .inr (0, [.int (fr ||| 4), .int fe]))]) ⟨hx, hb, hml, hown, hts⟩ (k_X0_raise l D qF fr fe 4) (cwV 1 hts gX1_shift_X0_raise rfl rfl rfl (by decide +kernel) ⟨Nat.le_of_ble_eq_true rfl, Nat.le_of_ble_eq_true rfl⟩) tE_v (fun _ _ => trivial) hK hP hD hS hA (fun hPc => va_recv hK hPc (ci := 0) (q0 := 0) rfl rfl) [1] [0] [0, 1] rfl rfl (by decide) rfl rfl rfl hl.1 (Nat.le_of_ble_eq_true rfl) dX1_shift_72 ⟨Nat.zero_le _, Nat.zero_le _⟩ (fun H locs hP hD hS => ?_)
        have hw : ([(q3, .inr (1, [.ref qF, .int (f_X1_shift_sb sb p0 p1), .int (st - (1 : Int32)), .int (f_X1_shift_sg sb sg p0), .int sh])), (qF, .inr (0, [.int (f_X1_shift_fr st fr), .int fe]))] : va_W) = [(q3, .inr (1, [.ref qF, .int (((sb <<< ((1 : Int32) &&& (31 : Int32)) : Int32) &&& (255 : Int32)) ||| (sb >>> ((7 : Int32) &&& (31 : Int32)) : Int32)), .int (st - (1 : Int32)), .int (sb >>> ((7 : Int32) &&& (31 : Int32)) : Int32), .int sh])), (qF, .inr (0, [.int (fr ||| 4), .int fe]))] := by simp only [f_X1_shift_sb, f_X1_shift_sg, f_X1_shift_fr, if_neg c_1, if_pos c_5, if_pos c_7]
        exact st_retv hx hb hr hlocks (by rw [hw]; exact hP) (by rw [hw]; exact hD) hS dX1_shift_75
