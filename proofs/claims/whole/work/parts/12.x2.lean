theorem nX2_clear_X2 : ∀ w ∈ wsX20, w ∈ wsX2_clear := fun w h => List.mem_cons_of_mem _ (List.mem_append_right _ h)
set_option maxHeartbeats 4000000 in
set_option maxRecDepth 100000 in
theorem k_X2_clear (l : Launch) (D : va_G) (qS qF : Nat) (f1 f2 pn l1 l2 ot dr wy hp ue uc : Int32) : stV l yX2_clear wsX2_clear ({ frames := 0, cells := 0, slots := 0, locals := 0 } : Room) D [] tE [.ref qS] [(qS, .inr (2, [.ref qF, .int f1, .int f2, .int pn, .int l1, .int l2, .int ot, .int dr, .int wy, .int hp, .int ue, .int uc]))] [(qS, .inr (2, [.ref qF, .int f1, .int f2, .int pn, .int l1, .int l2, .int 0, .int 0, .int 0, .int 0, .int 0, .int 0]))] := by
  intro sz
  refine Met.ofW (cc := cX2_clear) (maxL := 1) (ret := none) (by decide) rfl ?_
  intro p e s m args below meth c s₁ B hml hv
  obtain ⟨rfl, rfl, hP, hK, hD, hE⟩ := st_open hv
  have hx := B.exec
  have hb := B.bytes
  have hr := B.returns
  have hts := atoms_spec (ws := wsX2_clear) B.pre
  have hown : s.vm.findClass RX2 = some m.cls := findClass_of_methodNamed B.named
  have hlocks := B.notSynchronized
  generalize hAe : va_A [(qS, .inr (2, [.ref qF, .int f1, .int f2, .int pn, .int l1, .int l2, .int ot, .int dr, .int wy, .int hp, .int ue, .int uc]))] s.heap.size = A at hD ⊢
  have hA : ∀ q : Nat, s.heap.size ≤ q → A q := fun q h => by rw [← hAe]; exact Or.inr h
  have hS : va_S A s.heap s.heap [] := va_S.rf
  have k22 := hts (.fieldLink RX2 22 "PortTimers$Side" "out" "I") (by decide +kernel)
  have k25 := hts (.fieldLink RX2 25 "PortTimers$Side" "directions" "I") (by decide +kernel)
  have k28 := hts (.fieldLink RX2 28 "PortTimers$Side" "ways" "I") (by decide +kernel)
  have k31 := hts (.fieldLink RX2 31 "PortTimers$Side" "heldPins" "I") (by decide +kernel)
  have k34 := hts (.fieldLink RX2 34 "PortTimers$Side" "lowUntilEdge" "Z") (by decide +kernel)
  have k38 := hts (.fieldLink RX2 38 "PortTimers$Side" "lowUntilCycle" "Z") (by decide +kernel)
  have hl := lv_entry ([.ref qS]) (n := 1) (Nat.le_of_ble_eq_true rfl)
  rw [lg_entry_eq]
  generalize (lg_sl ([.ref qS]) ++ List.replicate (1 - (lg_sl ([.ref qS])).length) Slot.unset).toArray = ls at hl ⊢
  have hl : lv_has ls 1 [(0, .ref qS)] := hl
  refine lv_aload_n hx hb dX2_clear_0 rfl (lv_at hl 0 rfl) ?_
  refine lv_iconst (v := 0) hx hb dX2_clear_1 (by decide) ?_
  refine va_put (D := D) (ci := 2) (v := .int 0) (ty := .int) (C := RX2) (T := TX2) (N := 12) hx hb hts nX2_clear_X2 tyX2 tyX2_ok nmX2 hown hK hP hD hS 0 rfl rfl 6 (by decide) k22 (fun _ h9 => h9) rfl (by decide +kernel) rfl rfl (Nat.le_of_ble_eq_true rfl) dX2_clear_2 (fun H locs hP hD hS => ?_)
  have hP : va_P D vwCl [(qS, .inr (2, [.ref qF, .int f1, .int f2, .int pn, .int l1, .int l2, .int 0, .int dr, .int wy, .int hp, .int ue, .int uc]))] H := hP
  have hD : va_D A [(qS, .inr (2, [.ref qF, .int f1, .int f2, .int pn, .int l1, .int l2, .int 0, .int dr, .int wy, .int hp, .int ue, .int uc]))] := hD
  refine lv_aload_n hx hb dX2_clear_5 rfl (lv_at hl 0 rfl) ?_
  refine lv_iconst (v := 0) hx hb dX2_clear_6 (by decide) ?_
  refine va_put (D := D) (ci := 2) (v := .int 0) (ty := .int) (C := RX2) (T := TX2) (N := 12) hx hb hts nX2_clear_X2 tyX2 tyX2_ok nmX2 hown hK hP hD hS 0 rfl rfl 7 (by decide) k25 (fun _ h9 => h9) rfl (by decide +kernel) rfl rfl (Nat.le_of_ble_eq_true rfl) dX2_clear_7 (fun H locs hP hD hS => ?_)
  have hP : va_P D vwCl [(qS, .inr (2, [.ref qF, .int f1, .int f2, .int pn, .int l1, .int l2, .int 0, .int 0, .int wy, .int hp, .int ue, .int uc]))] H := hP
  have hD : va_D A [(qS, .inr (2, [.ref qF, .int f1, .int f2, .int pn, .int l1, .int l2, .int 0, .int 0, .int wy, .int hp, .int ue, .int uc]))] := hD
  refine lv_aload_n hx hb dX2_clear_10 rfl (lv_at hl 0 rfl) ?_
  refine lv_iconst (v := 0) hx hb dX2_clear_11 (by decide) ?_
  refine va_put (D := D) (ci := 2) (v := .int 0) (ty := .int) (C := RX2) (T := TX2) (N := 12) hx hb hts nX2_clear_X2 tyX2 tyX2_ok nmX2 hown hK hP hD hS 0 rfl rfl 8 (by decide) k28 (fun _ h9 => h9) rfl (by decide +kernel) rfl rfl (Nat.le_of_ble_eq_true rfl) dX2_clear_12 (fun H locs hP hD hS => ?_)
  have hP : va_P D vwCl [(qS, .inr (2, [.ref qF, .int f1, .int f2, .int pn, .int l1, .int l2, .int 0, .int 0, .int 0, .int hp, .int ue, .int uc]))] H := hP
  have hD : va_D A [(qS, .inr (2, [.ref qF, .int f1, .int f2, .int pn, .int l1, .int l2, .int 0, .int 0, .int 0, .int hp, .int ue, .int uc]))] := hD
  refine lv_aload_n hx hb dX2_clear_15 rfl (lv_at hl 0 rfl) ?_
  refine lv_iconst (v := 0) hx hb dX2_clear_16 (by decide) ?_
  refine va_put (D := D) (ci := 2) (v := .int 0) (ty := .int) (C := RX2) (T := TX2) (N := 12) hx hb hts nX2_clear_X2 tyX2 tyX2_ok nmX2 hown hK hP hD hS 0 rfl rfl 9 (by decide) k31 (fun _ h9 => h9) rfl (by decide +kernel) rfl rfl (Nat.le_of_ble_eq_true rfl) dX2_clear_17 (fun H locs hP hD hS => ?_)
  have hP : va_P D vwCl [(qS, .inr (2, [.ref qF, .int f1, .int f2, .int pn, .int l1, .int l2, .int 0, .int 0, .int 0, .int 0, .int ue, .int uc]))] H := hP
  have hD : va_D A [(qS, .inr (2, [.ref qF, .int f1, .int f2, .int pn, .int l1, .int l2, .int 0, .int 0, .int 0, .int 0, .int ue, .int uc]))] := hD
  refine lv_aload_n hx hb dX2_clear_20 rfl (lv_at hl 0 rfl) ?_
  refine lv_iconst (v := 0) hx hb dX2_clear_21 (by decide) ?_
  refine va_put (D := D) (ci := 2) (v := .int 0) (ty := .boolean) (C := RX2) (T := TX2) (N := 12) hx hb hts nX2_clear_X2 tyX2 tyX2_ok nmX2 hown hK hP hD hS 0 rfl rfl 10 (by decide) k34 (fun _ h9 => h9) rfl (by decide +kernel) rfl rfl (Nat.le_of_ble_eq_true rfl) dX2_clear_22 (fun H locs hP hD hS => ?_)
  have hP : va_P D vwCl [(qS, .inr (2, [.ref qF, .int f1, .int f2, .int pn, .int l1, .int l2, .int 0, .int 0, .int 0, .int 0, .int 0, .int uc]))] H := hP
  have hD : va_D A [(qS, .inr (2, [.ref qF, .int f1, .int f2, .int pn, .int l1, .int l2, .int 0, .int 0, .int 0, .int 0, .int 0, .int uc]))] := hD
  refine lv_aload_n hx hb dX2_clear_25 rfl (lv_at hl 0 rfl) ?_
  refine lv_iconst (v := 0) hx hb dX2_clear_26 (by decide) ?_
  refine va_put (D := D) (ci := 2) (v := .int 0) (ty := .boolean) (C := RX2) (T := TX2) (N := 12) hx hb hts nX2_clear_X2 tyX2 tyX2_ok nmX2 hown hK hP hD hS 0 rfl rfl 11 (by decide) k38 (fun _ h9 => h9) rfl (by decide +kernel) rfl rfl (Nat.le_of_ble_eq_true rfl) dX2_clear_27 (fun H locs hP hD hS => ?_)
  have hP : va_P D vwCl [(qS, .inr (2, [.ref qF, .int f1, .int f2, .int pn, .int l1, .int l2, .int 0, .int 0, .int 0, .int 0, .int 0, .int 0]))] H := hP
  have hD : va_D A [(qS, .inr (2, [.ref qF, .int f1, .int f2, .int pn, .int l1, .int l2, .int 0, .int 0, .int 0, .int 0, .int 0, .int 0]))] := hD
  exact st_retv hx hb hr hlocks hP hD hS dX2_clear_30
theorem nX2_wayOfLine2_X2 : ∀ w ∈ wsX20, w ∈ wsX2_wayOfLine2 := fun w h => List.mem_cons_of_mem _ (List.mem_append_right _ h)
set_option maxHeartbeats 4000000 in
set_option maxRecDepth 100000 in
theorem k_X2_wayOfLine2 (l : Launch) (D : va_G) (qS qF : Nat) (f1 f2 pn l1 l2 ot dr wy hp ue uc : Int32) : stI l yX2_wayOfLine2 wsX2_wayOfLine2 ({ frames := 0, cells := 0, slots := 0, locals := 0 } : Room) D [] tE [.ref qS] [(qS, .inr (2, [.ref qF, .int f1, .int f2, .int pn, .int l1, .int l2, .int ot, .int dr, .int wy, .int hp, .int ue, .int uc]))] [(qS, .inr (2, [.ref qF, .int f1, .int f2, .int pn, .int l1, .int l2, .int ot, .int dr, .int wy, .int hp, .int ue, .int uc]))] ((wy >>> ((1 : Int32) &&& (31 : Int32)) : Int32)) := by
  intro sz
  refine Met.ofW (cc := cX2_wayOfLine2) (maxL := 1) (ret := (some .int)) (by decide) rfl ?_
  intro p e s m args below meth c s₁ B hml hv
  obtain ⟨rfl, rfl, hP, hK, hD, hE⟩ := st_open hv
  have hx := B.exec
  have hb := B.bytes
  have hr := B.returns
  have hts := atoms_spec (ws := wsX2_wayOfLine2) B.pre
  have hown : s.vm.findClass RX2 = some m.cls := findClass_of_methodNamed B.named
  have hlocks := B.notSynchronized
  generalize hAe : va_A [(qS, .inr (2, [.ref qF, .int f1, .int f2, .int pn, .int l1, .int l2, .int ot, .int dr, .int wy, .int hp, .int ue, .int uc]))] s.heap.size = A at hD ⊢
  have hA : ∀ q : Nat, s.heap.size ≤ q → A q := fun q h => by rw [← hAe]; exact Or.inr h
  have hS : va_S A s.heap s.heap [] := va_S.rf
  have k28 := hts (.fieldLink RX2 28 "PortTimers$Side" "ways" "I") (by decide +kernel)
  have hl := lv_entry ([.ref qS]) (n := 1) (Nat.le_of_ble_eq_true rfl)
  rw [lg_entry_eq]
  generalize (lg_sl ([.ref qS]) ++ List.replicate (1 - (lg_sl ([.ref qS])).length) Slot.unset).toArray = ls at hl ⊢
  have hl : lv_has ls 1 [(0, .ref qS)] := hl
  refine lv_aload_n hx hb dX2_wayOfLine2_0 rfl (lv_at hl 0 rfl) ?_
  refine va_get (D := D) (ci := 2) (v := .int wy) (C := RX2) (T := TX2) (N := 12) hx hb hts nX2_wayOfLine2_X2 hown hK hP 0 rfl rfl 8 (by decide) k28 (fun _ h9 => h9) rfl dX2_wayOfLine2_1 ?_
  refine lv_iconst (v := 1) hx hb dX2_wayOfLine2_4 (by decide) ?_
  refine lv_ishr hx hb dX2_wayOfLine2_5 ?_
  exact st_reti hx hb hr hlocks rfl hP hD hS dX2_wayOfLine2_6
def f_X2_port_ret (f1 pn ot dr hp fr p0 : Int32) : Int32 := if p0 = 0 then ((ot &&& dr) ||| (pn &&& (dr ^^^ (-1 : Int32)))) else (if (f_X0_has_ret fr f1) = 0 then ((ot &&& dr) ||| (pn &&& (dr ^^^ (-1 : Int32)))) else ((ot &&& dr) ||| (hp &&& (dr ^^^ (-1 : Int32)))))
theorem nX2_port_X2 : ∀ w ∈ wsX20, w ∈ wsX2_port := fun w h => List.mem_cons_of_mem _ (List.mem_append_left _ (List.mem_append_right _ h))
set_option maxHeartbeats 4000000 in
set_option maxRecDepth 100000 in
theorem k_X2_port (l : Launch) (D : va_G) (qS qF : Nat) (f1 f2 pn l1 l2 ot dr wy hp ue uc fr fe p0 : Int32) : stI l yX2_port wsX2_port ({ frames := 1, cells := 0, slots := 0, locals := 21 } : Room) D [] tE [.ref qS, .int p0] [(qS, .inr (2, [.ref qF, .int f1, .int f2, .int pn, .int l1, .int l2, .int ot, .int dr, .int wy, .int hp, .int ue, .int uc])), (qF, .inr (0, [.int fr, .int fe]))] [(qS, .inr (2, [.ref qF, .int f1, .int f2, .int pn, .int l1, .int l2, .int ot, .int dr, .int wy, .int hp, .int ue, .int uc])), (qF, .inr (0, [.int fr, .int fe]))] (f_X2_port_ret f1 pn ot dr hp fr p0) := by
  intro sz
  refine Met.ofW (cc := cX2_port) (maxL := 3) (ret := (some .int)) (by decide) rfl ?_
  intro p e s m args below meth c s₁ B hml hv
  obtain ⟨rfl, rfl, hP, hK, hD, hE⟩ := st_open hv
  have hx := B.exec
  have hb := B.bytes
  have hr := B.returns
  have hts := atoms_spec (ws := wsX2_port) B.pre
  have hown : s.vm.findClass RX2 = some m.cls := findClass_of_methodNamed B.named
  have hlocks := B.notSynchronized
  generalize hAe : va_A [(qS, .inr (2, [.ref qF, .int f1, .int f2, .int pn, .int l1, .int l2, .int ot, .int dr, .int wy, .int hp, .int ue, .int uc])), (qF, .inr (0, [.int fr, .int fe]))] s.heap.size = A at hD ⊢
  have hA : ∀ q : Nat, s.heap.size ≤ q → A q := fun q h => by rw [← hAe]; exact Or.inr h
  have hS : va_S A s.heap s.heap [] := va_S.rf
  have k9 := hts (.fieldLink RX2 9 "PortTimers$Side" "flags" "LPortTimers$Flags;") (by decide +kernel)
  have k15 := hts (.fieldLink RX2 15 "PortTimers$Side" "flagOfLine1" "I") (by decide +kernel)
  have k22 := hts (.fieldLink RX2 22 "PortTimers$Side" "out" "I") (by decide +kernel)
  have k25 := hts (.fieldLink RX2 25 "PortTimers$Side" "directions" "I") (by decide +kernel)
  have k31 := hts (.fieldLink RX2 31 "PortTimers$Side" "heldPins" "I") (by decide +kernel)
  have k47 := hts (.fieldLink RX2 47 "PortTimers$Side" "pins" "I") (by decide +kernel)
  have hl := lv_entry ([.ref qS, .int p0]) (n := 3) (Nat.le_of_ble_eq_true rfl)
  rw [lg_entry_eq]
  generalize (lg_sl ([.ref qS, .int p0]) ++ List.replicate (3 - (lg_sl ([.ref qS, .int p0])).length) Slot.unset).toArray = ls at hl ⊢
  have hl : lv_has ls 3 [(0, .ref qS), (1, .int p0)] := hl
  refine lv_iload_n hx hb dX2_port_0 rfl (lv_at hl 1 rfl) ?_
  refine lv_if_eq (tgt := 25) hx hb dX2_port_1 (by decide) (fun c_1 => ?_) (fun c_1 => ?_)
  · refine lv_aload_n hx hb dX2_port_25 rfl (lv_at hl 0 rfl) ?_
    refine va_get (D := D) (ci := 2) (v := .int pn) (C := RX2) (T := TX2) (N := 12) hx hb hts nX2_port_X2 hown hK hP 0 rfl rfl 3 (by decide) k47 (fun _ h9 => h9) rfl dX2_port_26 ?_
    refine lv_istore_n (lv' := [(2, .int pn), (0, .ref qS), (1, .int p0)]) hx hb dX2_port_29 rfl hl (by decide) rfl (fun ls hl => ?_)
    refine lv_aload_n hx hb dX2_port_30 rfl (lv_at hl 1 rfl) ?_
    refine va_get (D := D) (ci := 2) (v := .int ot) (C := RX2) (T := TX2) (N := 12) hx hb hts nX2_port_X2 hown hK hP 0 rfl rfl 6 (by decide) k22 (fun _ h9 => h9) rfl dX2_port_31 ?_
    refine lv_aload_n hx hb dX2_port_34 rfl (lv_at hl 1 rfl) ?_
    refine va_get (D := D) (ci := 2) (v := .int dr) (C := RX2) (T := TX2) (N := 12) hx hb hts nX2_port_X2 hown hK hP 0 rfl rfl 7 (by decide) k25 (fun _ h9 => h9) rfl dX2_port_35 ?_
    refine lv_iand hx hb dX2_port_38 ?_
    refine lv_iload_n hx hb dX2_port_39 rfl (lv_at hl 0 rfl) ?_
    refine lv_aload_n hx hb dX2_port_40 rfl (lv_at hl 1 rfl) ?_
    refine va_get (D := D) (ci := 2) (v := .int dr) (C := RX2) (T := TX2) (N := 12) hx hb hts nX2_port_X2 hown hK hP 0 rfl rfl 7 (by decide) k25 (fun _ h9 => h9) rfl dX2_port_41 ?_
    refine lv_iconst (v := (-1)) hx hb dX2_port_44 (by decide) ?_
    refine lv_ixor hx hb dX2_port_45 ?_
    refine lv_iand hx hb dX2_port_46 ?_
    refine lv_ior hx hb dX2_port_47 ?_
    exact st_reti hx hb hr hlocks (by simp only [f_X2_port_ret, if_pos c_1]) hP hD hS dX2_port_48
  · refine lv_aload_n hx hb dX2_port_4 rfl (lv_at hl 0 rfl) ?_
    refine va_get (D := D) (ci := 2) (v := .ref qF) (C := RX2) (T := TX2) (N := 12) hx hb hts nX2_port_X2 hown hK hP 0 rfl rfl 0 (by decide) k9 (fun _ h9 => h9) rfl dX2_port_5 ?_
    refine lv_aload_n hx hb dX2_port_8 rfl (lv_at hl 0 rfl) ?_
    refine va_get (D := D) (ci := 2) (v := .int f1) (C := RX2) (T := TX2) (N := 12) hx hb hts nX2_port_X2 hown hK hP 0 rfl rfl 1 (by decide) k15 (fun _ h9 => h9) rfl dX2_port_9 ?_
    refine st_iV (As := [.int f1]) (rest := []) (wc := [(qF, .inr (0, [.int fr, .int fe]))]) (wr := [(qS, .inr (2, [.ref qF, .int f1, .int f2, .int pn, .int l1, .int l2, .int ot, .int dr, .int wy, .int hp, .int ue, .int uc]))]) (w1 := [(qF, .inr (0, [.int fr, .int fe]))]) (wn := [(qS, .inr (2, [.ref qF, .int f1, .int f2, .int pn, .int l1, .int l2, .int ot, .int dr, .int wy, .int hp, .int ue, .int uc])), (qF, .inr (0, [.int fr, .int fe]))]) (r := f_X0_has_ret fr f1) ⟨hx, hb, hml, hown, hts⟩ (k_X0_has l D qF fr fe f1) (cwV 1 hts gX2_port_X0_has rfl rfl rfl (by decide +kernel) ⟨Nat.le_of_ble_eq_true rfl, Nat.le_of_ble_eq_true rfl⟩) tE_v (fun _ _ => trivial) hK hP hD hS hA (fun hPc => va_recv hK hPc (ci := 0) (q0 := 0) rfl rfl) [1] [0] [0, 1] rfl rfl (by decide) rfl rfl rfl hl.1 (Nat.le_of_ble_eq_true rfl) dX2_port_12 ⟨Nat.zero_le _, Nat.zero_le _⟩ (fun H locs hP hD hS => ?_)
    refine lv_if_eq (tgt := 25) hx hb dX2_port_15 (by decide) (fun c_2 => ?_) (fun c_2 => ?_)
    · refine lv_aload_n hx hb dX2_port_25 rfl (lv_at hl 0 rfl) ?_
      refine va_get (D := D) (ci := 2) (v := .int pn) (C := RX2) (T := TX2) (N := 12) hx hb hts nX2_port_X2 hown hK hP 0 rfl rfl 3 (by decide) k47 (fun _ h9 => h9) rfl dX2_port_26 ?_
      refine lv_istore_n (lv' := [(2, .int pn), (0, .ref qS), (1, .int p0)]) hx hb dX2_port_29 rfl hl (by decide) rfl (fun ls hl => ?_)
      refine lv_aload_n hx hb dX2_port_30 rfl (lv_at hl 1 rfl) ?_
      refine va_get (D := D) (ci := 2) (v := .int ot) (C := RX2) (T := TX2) (N := 12) hx hb hts nX2_port_X2 hown hK hP 0 rfl rfl 6 (by decide) k22 (fun _ h9 => h9) rfl dX2_port_31 ?_
      refine lv_aload_n hx hb dX2_port_34 rfl (lv_at hl 1 rfl) ?_
      refine va_get (D := D) (ci := 2) (v := .int dr) (C := RX2) (T := TX2) (N := 12) hx hb hts nX2_port_X2 hown hK hP 0 rfl rfl 7 (by decide) k25 (fun _ h9 => h9) rfl dX2_port_35 ?_
      refine lv_iand hx hb dX2_port_38 ?_
      refine lv_iload_n hx hb dX2_port_39 rfl (lv_at hl 0 rfl) ?_
      refine lv_aload_n hx hb dX2_port_40 rfl (lv_at hl 1 rfl) ?_
      refine va_get (D := D) (ci := 2) (v := .int dr) (C := RX2) (T := TX2) (N := 12) hx hb hts nX2_port_X2 hown hK hP 0 rfl rfl 7 (by decide) k25 (fun _ h9 => h9) rfl dX2_port_41 ?_
      refine lv_iconst (v := (-1)) hx hb dX2_port_44 (by decide) ?_
      refine lv_ixor hx hb dX2_port_45 ?_
      refine lv_iand hx hb dX2_port_46 ?_
      refine lv_ior hx hb dX2_port_47 ?_
      exact st_reti hx hb hr hlocks (by simp only [f_X2_port_ret, if_neg c_1, if_pos c_2]) hP hD hS dX2_port_48
    · refine lv_aload_n hx hb dX2_port_18 rfl (lv_at hl 0 rfl) ?_
      refine va_get (D := D) (ci := 2) (v := .int hp) (C := RX2) (T := TX2) (N := 12) hx hb hts nX2_port_X2 hown hK hP 0 rfl rfl 9 (by decide) k31 (fun _ h9 => h9) rfl dX2_port_19 ?_
      refine lv_goto (tgt := 29) hx hb dX2_port_22 (by decide) ?_
      refine lv_istore_n (lv' := [(2, .int hp), (0, .ref qS), (1, .int p0)]) hx hb dX2_port_29 rfl hl (by decide) rfl (fun ls hl => ?_)
      refine lv_aload_n hx hb dX2_port_30 rfl (lv_at hl 1 rfl) ?_
      refine va_get (D := D) (ci := 2) (v := .int ot) (C := RX2) (T := TX2) (N := 12) hx hb hts nX2_port_X2 hown hK hP 0 rfl rfl 6 (by decide) k22 (fun _ h9 => h9) rfl dX2_port_31 ?_
      refine lv_aload_n hx hb dX2_port_34 rfl (lv_at hl 1 rfl) ?_
      refine va_get (D := D) (ci := 2) (v := .int dr) (C := RX2) (T := TX2) (N := 12) hx hb hts nX2_port_X2 hown hK hP 0 rfl rfl 7 (by decide) k25 (fun _ h9 => h9) rfl dX2_port_35 ?_
      refine lv_iand hx hb dX2_port_38 ?_
      refine lv_iload_n hx hb dX2_port_39 rfl (lv_at hl 0 rfl) ?_
      refine lv_aload_n hx hb dX2_port_40 rfl (lv_at hl 1 rfl) ?_
      refine va_get (D := D) (ci := 2) (v := .int dr) (C := RX2) (T := TX2) (N := 12) hx hb hts nX2_port_X2 hown hK hP 0 rfl rfl 7 (by decide) k25 (fun _ h9 => h9) rfl dX2_port_41 ?_
      refine lv_iconst (v := (-1)) hx hb dX2_port_44 (by decide) ?_
      refine lv_ixor hx hb dX2_port_45 ?_
      refine lv_iand hx hb dX2_port_46 ?_
      refine lv_ior hx hb dX2_port_47 ?_
      exact st_reti hx hb hr hlocks (by simp only [f_X2_port_ret, if_neg c_1, if_neg c_2]) hP hD hS dX2_port_48
def f_X2_touch_fr (f1 f2 wy fr : Int32) : Int32 := if (wy >>> ((1 : Int32) &&& (31 : Int32)) : Int32) = 1 then (fr &&& (f1 ^^^ (-1 : Int32))) else (if (wy >>> ((1 : Int32) &&& (31 : Int32)) : Int32) = 3 then (fr &&& (f1 ^^^ (-1 : Int32))) else ((fr &&& (f1 ^^^ (-1 : Int32))) &&& (f2 ^^^ (-1 : Int32))))
theorem nX2_touch_X2 : ∀ w ∈ wsX20, w ∈ wsX2_touch := fun w h => List.mem_cons_of_mem _ (List.mem_append_left _ (List.mem_append_right _ h))
set_option maxHeartbeats 4000000 in
set_option maxRecDepth 100000 in
theorem k_X2_touch (l : Launch) (D : va_G) (qS qF : Nat) (f1 f2 pn l1 l2 ot dr wy hp ue uc fr fe : Int32) : stV l yX2_touch wsX2_touch ({ frames := 1, cells := 0, slots := 0, locals := 21 } : Room) D [] tE [.ref qS] [(qS, .inr (2, [.ref qF, .int f1, .int f2, .int pn, .int l1, .int l2, .int ot, .int dr, .int wy, .int hp, .int ue, .int uc])), (qF, .inr (0, [.int fr, .int fe]))] [(qS, .inr (2, [.ref qF, .int f1, .int f2, .int pn, .int l1, .int l2, .int ot, .int dr, .int wy, .int hp, .int ue, .int uc])), (qF, .inr (0, [.int (f_X2_touch_fr f1 f2 wy fr), .int fe]))] := by
  intro sz
  refine Met.ofW (cc := cX2_touch) (maxL := 2) (ret := none) (by decide) rfl ?_
  intro p e s m args below meth c s₁ B hml hv
  obtain ⟨rfl, rfl, hP, hK, hD, hE⟩ := st_open hv
  have hx := B.exec
  have hb := B.bytes
  have hr := B.returns
  have hts := atoms_spec (ws := wsX2_touch) B.pre
  have hown : s.vm.findClass RX2 = some m.cls := findClass_of_methodNamed B.named
  have hlocks := B.notSynchronized
  generalize hAe : va_A [(qS, .inr (2, [.ref qF, .int f1, .int f2, .int pn, .int l1, .int l2, .int ot, .int dr, .int wy, .int hp, .int ue, .int uc])), (qF, .inr (0, [.int fr, .int fe]))] s.heap.size = A at hD ⊢
  have hA : ∀ q : Nat, s.heap.size ≤ q → A q := fun q h => by rw [← hAe]; exact Or.inr h
  have hS : va_S A s.heap s.heap [] := va_S.rf
  have k9 := hts (.fieldLink RX2 9 "PortTimers$Side" "flags" "LPortTimers$Flags;") (by decide +kernel)
  have k15 := hts (.fieldLink RX2 15 "PortTimers$Side" "flagOfLine1" "I") (by decide +kernel)
  have k19 := hts (.fieldLink RX2 19 "PortTimers$Side" "flagOfLine2" "I") (by decide +kernel)
  have hl := lv_entry ([.ref qS]) (n := 2) (Nat.le_of_ble_eq_true rfl)
  rw [lg_entry_eq]
  generalize (lg_sl ([.ref qS]) ++ List.replicate (2 - (lg_sl ([.ref qS])).length) Slot.unset).toArray = ls at hl ⊢
  have hl : lv_has ls 2 [(0, .ref qS)] := hl
  refine lv_aload_n hx hb dX2_touch_0 rfl (lv_at hl 0 rfl) ?_
  refine va_get (D := D) (ci := 2) (v := .ref qF) (C := RX2) (T := TX2) (N := 12) hx hb hts nX2_touch_X2 hown hK hP 0 rfl rfl 0 (by decide) k9 (fun _ h9 => h9) rfl dX2_touch_1 ?_
  refine lv_aload_n hx hb dX2_touch_4 rfl (lv_at hl 0 rfl) ?_
  refine va_get (D := D) (ci := 2) (v := .int f1) (C := RX2) (T := TX2) (N := 12) hx hb hts nX2_touch_X2 hown hK hP 0 rfl rfl 1 (by decide) k15 (fun _ h9 => h9) rfl dX2_touch_5 ?_
  refine st_vV (As := [.int f1]) (rest := []) (wc := [(qF, .inr (0, [.int fr, .int fe]))]) (wr := [(qS, .inr (2, [.ref qF, .int f1, .int f2, .int pn, .int l1, .int l2, .int ot, .int dr, .int wy, .int hp, .int ue, .int uc]))]) (w1 := [(qF, .inr (0, [.int (fr &&& (f1 ^^^ (-1 : Int32))), .int fe]))]) (wn := [(qS, .inr (2, [.ref qF, .int f1, .int f2, .int pn, .int l1, .int l2, .int ot, .int dr, .int wy, .int hp, .int ue, .int uc])), (qF, .inr (0, [.int (fr &&& (f1 ^^^ (-1 : Int32))), .int fe]))]) ⟨hx, hb, hml, hown, hts⟩ (k_X0_lower l D qF fr fe f1) (cwV 1 hts gX2_touch_X0_lower rfl rfl rfl (by decide +kernel) ⟨Nat.le_of_ble_eq_true rfl, Nat.le_of_ble_eq_true rfl⟩) tE_v (fun _ _ => trivial) hK hP hD hS hA (fun hPc => va_recv hK hPc (ci := 0) (q0 := 0) rfl rfl) [1] [0] [0, 1] rfl rfl (by decide) rfl rfl rfl hl.1 (Nat.le_of_ble_eq_true rfl) dX2_touch_8 ⟨Nat.zero_le _, Nat.zero_le _⟩ (fun H locs hP hD hS => ?_)
  refine lv_aload_n hx hb dX2_touch_11 rfl (lv_at hl 0 rfl) ?_
  refine st_iV (As := []) (rest := []) (wc := [(qS, .inr (2, [.ref qF, .int f1, .int f2, .int pn, .int l1, .int l2, .int ot, .int dr, .int wy, .int hp, .int ue, .int uc]))]) (wr := [(qF, .inr (0, [.int (fr &&& (f1 ^^^ (-1 : Int32))), .int fe]))]) (w1 := [(qS, .inr (2, [.ref qF, .int f1, .int f2, .int pn, .int l1, .int l2, .int ot, .int dr, .int wy, .int hp, .int ue, .int uc]))]) (wn := [(qS, .inr (2, [.ref qF, .int f1, .int f2, .int pn, .int l1, .int l2, .int ot, .int dr, .int wy, .int hp, .int ue, .int uc])), (qF, .inr (0, [.int (fr &&& (f1 ^^^ (-1 : Int32))), .int fe]))]) (r := (wy >>> ((1 : Int32) &&& (31 : Int32)) : Int32)) ⟨hx, hb, hml, hown, hts⟩ (k_X2_wayOfLine2 l D qS qF f1 f2 pn l1 l2 ot dr wy hp ue uc) (cwV 0 hts gX2_touch_X2_wayOfLine2 rfl rfl rfl (by decide +kernel) ⟨Nat.le_of_ble_eq_true rfl, Nat.le_of_ble_eq_true rfl⟩) tE_v (fun _ _ => trivial) hK hP hD hS hA (fun hPc => va_recv hK hPc (ci := 2) (q0 := 0) rfl rfl) [0] [1] [1, 0] rfl rfl (by decide) rfl rfl rfl hl.1 (Nat.le_of_ble_eq_true rfl) dX2_touch_12 ⟨Nat.zero_le _, Nat.zero_le _⟩ (fun H locs hP hD hS => ?_)
  refine lv_istore_n (lv' := [(1, .int (wy >>> ((1 : Int32) &&& (31 : Int32)) : Int32)), (0, .ref qS)]) hx hb dX2_touch_15 rfl hl (by decide) rfl (fun ls hl => ?_)
  refine lv_iload_n hx hb dX2_touch_16 rfl (lv_at hl 0 rfl) ?_
  refine lv_iconst (v := 1) hx hb dX2_touch_17 (by decide) ?_
  refine lv_icmp_eq (tgt := 37) hx hb dX2_touch_18 (by decide) (fun c_1 => ?_) (fun c_1 => ?_)
  · have hw : ([(qS, .inr (2, [.ref qF, .int f1, .int f2, .int pn, .int l1, .int l2, .int ot, .int dr, .int wy, .int hp, .int ue, .int uc])), (qF, .inr (0, [.int (f_X2_touch_fr f1 f2 wy fr), .int fe]))] : va_W) = [(qS, .inr (2, [.ref qF, .int f1, .int f2, .int pn, .int l1, .int l2, .int ot, .int dr, .int wy, .int hp, .int ue, .int uc])), (qF, .inr (0, [.int (fr &&& (f1 ^^^ (-1 : Int32))), .int fe]))] := by simp only [f_X2_touch_fr, if_pos c_1]
    exact st_retv hx hb hr hlocks (by rw [hw]; exact hP) (by rw [hw]; exact hD) hS dX2_touch_37
  · refine lv_iload_n hx hb dX2_touch_21 rfl (lv_at hl 0 rfl) ?_
    refine lv_iconst (v := 3) hx hb dX2_touch_22 (by decide) ?_
    refine lv_icmp_eq (tgt := 37) hx hb dX2_touch_23 (by decide) (fun c_2 => ?_) (fun c_2 => ?_)
    · have hw : ([(qS, .inr (2, [.ref qF, .int f1, .int f2, .int pn, .int l1, .int l2, .int ot, .int dr, .int wy, .int hp, .int ue, .int uc])), (qF, .inr (0, [.int (f_X2_touch_fr f1 f2 wy fr), .int fe]))] : va_W) = [(qS, .inr (2, [.ref qF, .int f1, .int f2, .int pn, .int l1, .int l2, .int ot, .int dr, .int wy, .int hp, .int ue, .int uc])), (qF, .inr (0, [.int (fr &&& (f1 ^^^ (-1 : Int32))), .int fe]))] := by simp only [f_X2_touch_fr, if_neg c_1, if_pos c_2]
      exact st_retv hx hb hr hlocks (by rw [hw]; exact hP) (by rw [hw]; exact hD) hS dX2_touch_37
    · refine lv_aload_n hx hb dX2_touch_26 rfl (lv_at hl 1 rfl) ?_
      refine va_get (D := D) (ci := 2) (v := .ref qF) (C := RX2) (T := TX2) (N := 12) hx hb hts nX2_touch_X2 hown hK hP 0 rfl rfl 0 (by decide) k9 (fun _ h9 => h9) rfl dX2_touch_27 ?_
      refine lv_aload_n hx hb dX2_touch_30 rfl (lv_at hl 1 rfl) ?_
      refine va_get (D := D) (ci := 2) (v := .int f2) (C := RX2) (T := TX2) (N := 12) hx hb hts nX2_touch_X2 hown hK hP 0 rfl rfl 2 (by decide) k19 (fun _ h9 => h9) rfl dX2_touch_31 ?_
      refine st_vV (As := [.int f2]) (rest := []) (wc := [(qF, .inr (0, [.int (fr &&& (f1 ^^^ (-1 : Int32))), .int fe]))]) (wr := [(qS, .inr (2, [.ref qF, .int f1, .int f2, .int pn, .int l1, .int l2, .int ot, .int dr, .int wy, .int hp, .int ue, .int uc]))]) (w1 := [(qF, .inr (0, [.int ((fr &&& (f1 ^^^ (-1 : Int32))) &&& (f2 ^^^ (-1 : Int32))), .int fe]))]) (wn := [(qS, .inr (2, [.ref qF, .int f1, .int f2, .int pn, .int l1, .int l2, .int ot, .int dr, .int wy, .int hp, .int ue, .int uc])), (qF, .inr (0, [.int ((fr &&& (f1 ^^^ (-1 : Int32))) &&& (f2 ^^^ (-1 : Int32))), .int fe]))]) ⟨hx, hb, hml, hown, hts⟩ (k_X0_lower l D qF (fr &&& (f1 ^^^ (-1 : Int32))) fe f2) (cwV 1 hts gX2_touch_X0_lower rfl rfl rfl (by decide +kernel) ⟨Nat.le_of_ble_eq_true rfl, Nat.le_of_ble_eq_true rfl⟩) tE_v (fun _ _ => trivial) hK hP hD hS hA (fun hPc => va_recv hK hPc (ci := 0) (q0 := 0) rfl rfl) [1] [0] [0, 1] rfl rfl (by decide) rfl rfl rfl hl.1 (Nat.le_of_ble_eq_true rfl) dX2_touch_34 ⟨Nat.zero_le _, Nat.zero_le _⟩ (fun H locs hP hD hS => ?_)
      have hw : ([(qS, .inr (2, [.ref qF, .int f1, .int f2, .int pn, .int l1, .int l2, .int ot, .int dr, .int wy, .int hp, .int ue, .int uc])), (qF, .inr (0, [.int (f_X2_touch_fr f1 f2 wy fr), .int fe]))] : va_W) = [(qS, .inr (2, [.ref qF, .int f1, .int f2, .int pn, .int l1, .int l2, .int ot, .int dr, .int wy, .int hp, .int ue, .int uc])), (qF, .inr (0, [.int ((fr &&& (f1 ^^^ (-1 : Int32))) &&& (f2 ^^^ (-1 : Int32))), .int fe]))] := by simp only [f_X2_touch_fr, if_neg c_1, if_neg c_2]
      exact st_retv hx hb hr hlocks (by rw [hw]; exact hP) (by rw [hw]; exact hD) hS dX2_touch_37
def f_X2_giveTouch_ue (wy ue : Int32) : Int32 := if (wy >>> ((1 : Int32) &&& (31 : Int32)) : Int32) = 4 then 1 else ue
def f_X2_giveTouch_uc (wy uc : Int32) : Int32 := if (wy >>> ((1 : Int32) &&& (31 : Int32)) : Int32) = 4 then uc else (if (wy >>> ((1 : Int32) &&& (31 : Int32)) : Int32) = 5 then 1 else uc)
theorem nX2_giveTouch_X2 : ∀ w ∈ wsX20, w ∈ wsX2_giveTouch := fun w h => List.mem_cons_of_mem _ (List.mem_append_right _ h)
set_option maxHeartbeats 4000000 in
set_option maxRecDepth 100000 in
theorem k_X2_giveTouch (l : Launch) (D : va_G) (qS qF : Nat) (f1 f2 pn l1 l2 ot dr wy hp ue uc : Int32) : stV l yX2_giveTouch wsX2_giveTouch ({ frames := 1, cells := 0, slots := 0, locals := 20 } : Room) D [] tE [.ref qS] [(qS, .inr (2, [.ref qF, .int f1, .int f2, .int pn, .int l1, .int l2, .int ot, .int dr, .int wy, .int hp, .int ue, .int uc]))] [(qS, .inr (2, [.ref qF, .int f1, .int f2, .int pn, .int l1, .int l2, .int ot, .int dr, .int wy, .int hp, .int (f_X2_giveTouch_ue wy ue), .int (f_X2_giveTouch_uc wy uc)]))] := by
  intro sz
  refine Met.ofW (cc := cX2_giveTouch) (maxL := 2) (ret := none) (by decide) rfl ?_
  intro p e s m args below meth c s₁ B hml hv
  obtain ⟨rfl, rfl, hP, hK, hD, hE⟩ := st_open hv
  have hx := B.exec
  have hb := B.bytes
  have hr := B.returns
  have hts := atoms_spec (ws := wsX2_giveTouch) B.pre
  have hown : s.vm.findClass RX2 = some m.cls := findClass_of_methodNamed B.named
  have hlocks := B.notSynchronized
  generalize hAe : va_A [(qS, .inr (2, [.ref qF, .int f1, .int f2, .int pn, .int l1, .int l2, .int ot, .int dr, .int wy, .int hp, .int ue, .int uc]))] s.heap.size = A at hD ⊢
  have hA : ∀ q : Nat, s.heap.size ≤ q → A q := fun q h => by rw [← hAe]; exact Or.inr h
  have hS : va_S A s.heap s.heap [] := va_S.rf
  have k34 := hts (.fieldLink RX2 34 "PortTimers$Side" "lowUntilEdge" "Z") (by decide +kernel)
  have k38 := hts (.fieldLink RX2 38 "PortTimers$Side" "lowUntilCycle" "Z") (by decide +kernel)
  have hl := lv_entry ([.ref qS]) (n := 2) (Nat.le_of_ble_eq_true rfl)
  rw [lg_entry_eq]
  generalize (lg_sl ([.ref qS]) ++ List.replicate (2 - (lg_sl ([.ref qS])).length) Slot.unset).toArray = ls at hl ⊢
  have hl : lv_has ls 2 [(0, .ref qS)] := hl
  refine lv_aload_n hx hb dX2_giveTouch_0 rfl (lv_at hl 0 rfl) ?_
  refine st_iV (As := []) (rest := []) (wc := [(qS, .inr (2, [.ref qF, .int f1, .int f2, .int pn, .int l1, .int l2, .int ot, .int dr, .int wy, .int hp, .int ue, .int uc]))]) (wr := []) (w1 := [(qS, .inr (2, [.ref qF, .int f1, .int f2, .int pn, .int l1, .int l2, .int ot, .int dr, .int wy, .int hp, .int ue, .int uc]))]) (wn := [(qS, .inr (2, [.ref qF, .int f1, .int f2, .int pn, .int l1, .int l2, .int ot, .int dr, .int wy, .int hp, .int ue, .int uc]))]) (r := (wy >>> ((1 : Int32) &&& (31 : Int32)) : Int32)) ⟨hx, hb, hml, hown, hts⟩ (k_X2_wayOfLine2 l D qS qF f1 f2 pn l1 l2 ot dr wy hp ue uc) (cwV 0 hts gX2_giveTouch_X2_wayOfLine2 rfl rfl rfl (by decide +kernel) ⟨Nat.le_of_ble_eq_true rfl, Nat.le_of_ble_eq_true rfl⟩) tE_v (fun _ _ => trivial) hK hP hD hS hA (fun hPc => va_recv hK hPc (ci := 2) (q0 := 0) rfl rfl) [0] [] [0] rfl rfl (by decide) rfl rfl rfl hl.1 (Nat.le_of_ble_eq_true rfl) dX2_giveTouch_1 ⟨Nat.zero_le _, Nat.zero_le _⟩ (fun H locs hP hD hS => ?_)
  refine lv_istore_n (lv' := [(1, .int (wy >>> ((1 : Int32) &&& (31 : Int32)) : Int32)), (0, .ref qS)]) hx hb dX2_giveTouch_4 rfl hl (by decide) rfl (fun ls hl => ?_)
  refine lv_iload_n hx hb dX2_giveTouch_5 rfl (lv_at hl 0 rfl) ?_
  refine lv_iconst (v := 4) hx hb dX2_giveTouch_6 (by decide) ?_
  refine lv_icmp_ne (tgt := 18) hx hb dX2_giveTouch_7 (by decide) (fun c_1 => ?_) (fun c_1 => ?_)
  · refine lv_iload_n hx hb dX2_giveTouch_18 rfl (lv_at hl 0 rfl) ?_
    refine lv_iconst (v := 5) hx hb dX2_giveTouch_19 (by decide) ?_
    refine lv_icmp_ne (tgt := 28) hx hb dX2_giveTouch_20 (by decide) (fun c_2 => ?_) (fun c_2 => ?_)
    · have hw : ([(qS, .inr (2, [.ref qF, .int f1, .int f2, .int pn, .int l1, .int l2, .int ot, .int dr, .int wy, .int hp, .int (f_X2_giveTouch_ue wy ue), .int (f_X2_giveTouch_uc wy uc)]))] : va_W) = [(qS, .inr (2, [.ref qF, .int f1, .int f2, .int pn, .int l1, .int l2, .int ot, .int dr, .int wy, .int hp, .int ue, .int uc]))] := by simp only [f_X2_giveTouch_ue, f_X2_giveTouch_uc, if_neg c_1, if_neg c_2]
      exact st_retv hx hb hr hlocks (by rw [hw]; exact hP) (by rw [hw]; exact hD) hS dX2_giveTouch_28
    · refine lv_aload_n hx hb dX2_giveTouch_23 rfl (lv_at hl 1 rfl) ?_
      refine lv_iconst (v := 1) hx hb dX2_giveTouch_24 (by decide) ?_
      refine va_put (D := D) (ci := 2) (v := .int 1) (ty := .boolean) (C := RX2) (T := TX2) (N := 12) hx hb hts nX2_giveTouch_X2 tyX2 tyX2_ok nmX2 hown hK hP hD hS 0 rfl rfl 11 (by decide) k38 (fun _ h9 => h9) rfl (by decide +kernel) rfl rfl (Nat.le_of_ble_eq_true rfl) dX2_giveTouch_25 (fun H locs hP hD hS => ?_)
      have hP : va_P D vwCl [(qS, .inr (2, [.ref qF, .int f1, .int f2, .int pn, .int l1, .int l2, .int ot, .int dr, .int wy, .int hp, .int ue, .int 1]))] H := hP
      have hD : va_D A [(qS, .inr (2, [.ref qF, .int f1, .int f2, .int pn, .int l1, .int l2, .int ot, .int dr, .int wy, .int hp, .int ue, .int 1]))] := hD
      have hw : ([(qS, .inr (2, [.ref qF, .int f1, .int f2, .int pn, .int l1, .int l2, .int ot, .int dr, .int wy, .int hp, .int (f_X2_giveTouch_ue wy ue), .int (f_X2_giveTouch_uc wy uc)]))] : va_W) = [(qS, .inr (2, [.ref qF, .int f1, .int f2, .int pn, .int l1, .int l2, .int ot, .int dr, .int wy, .int hp, .int ue, .int 1]))] := by simp only [f_X2_giveTouch_ue, f_X2_giveTouch_uc, if_neg c_1, if_pos c_2]
      exact st_retv hx hb hr hlocks (by rw [hw]; exact hP) (by rw [hw]; exact hD) hS dX2_giveTouch_28
  · refine lv_aload_n hx hb dX2_giveTouch_10 rfl (lv_at hl 1 rfl) ?_
    refine lv_iconst (v := 1) hx hb dX2_giveTouch_11 (by decide) ?_
    refine va_put (D := D) (ci := 2) (v := .int 1) (ty := .boolean) (C := RX2) (T := TX2) (N := 12) hx hb hts nX2_giveTouch_X2 tyX2 tyX2_ok nmX2 hown hK hP hD hS 0 rfl rfl 10 (by decide) k34 (fun _ h9 => h9) rfl (by decide +kernel) rfl rfl (Nat.le_of_ble_eq_true rfl) dX2_giveTouch_12 (fun H locs hP hD hS => ?_)
    have hP : va_P D vwCl [(qS, .inr (2, [.ref qF, .int f1, .int f2, .int pn, .int l1, .int l2, .int ot, .int dr, .int wy, .int hp, .int 1, .int uc]))] H := hP
    have hD : va_D A [(qS, .inr (2, [.ref qF, .int f1, .int f2, .int pn, .int l1, .int l2, .int ot, .int dr, .int wy, .int hp, .int 1, .int uc]))] := hD
    refine lv_goto (tgt := 28) hx hb dX2_giveTouch_15 (by decide) ?_
    have hw : ([(qS, .inr (2, [.ref qF, .int f1, .int f2, .int pn, .int l1, .int l2, .int ot, .int dr, .int wy, .int hp, .int (f_X2_giveTouch_ue wy ue), .int (f_X2_giveTouch_uc wy uc)]))] : va_W) = [(qS, .inr (2, [.ref qF, .int f1, .int f2, .int pn, .int l1, .int l2, .int ot, .int dr, .int wy, .int hp, .int 1, .int uc]))] := by simp only [f_X2_giveTouch_ue, f_X2_giveTouch_uc, if_pos c_1]
    exact st_retv hx hb hr hlocks (by rw [hw]; exact hP) (by rw [hw]; exact hD) hS dX2_giveTouch_28
theorem nX2_endCycle_X2 : ∀ w ∈ wsX20, w ∈ wsX2_endCycle := fun w h => List.mem_cons_of_mem _ (List.mem_append_right _ h)
set_option maxHeartbeats 4000000 in
set_option maxRecDepth 100000 in
theorem k_X2_endCycle (l : Launch) (D : va_G) (qS qF : Nat) (f1 f2 pn l1 l2 ot dr wy hp ue uc : Int32) : stV l yX2_endCycle wsX2_endCycle ({ frames := 0, cells := 0, slots := 0, locals := 0 } : Room) D [] tE [.ref qS] [(qS, .inr (2, [.ref qF, .int f1, .int f2, .int pn, .int l1, .int l2, .int ot, .int dr, .int wy, .int hp, .int ue, .int uc]))] [(qS, .inr (2, [.ref qF, .int f1, .int f2, .int pn, .int l1, .int l2, .int ot, .int dr, .int wy, .int hp, .int ue, .int 0]))] := by
  intro sz
  refine Met.ofW (cc := cX2_endCycle) (maxL := 1) (ret := none) (by decide) rfl ?_
  intro p e s m args below meth c s₁ B hml hv
  obtain ⟨rfl, rfl, hP, hK, hD, hE⟩ := st_open hv
  have hx := B.exec
  have hb := B.bytes
  have hr := B.returns
  have hts := atoms_spec (ws := wsX2_endCycle) B.pre
  have hown : s.vm.findClass RX2 = some m.cls := findClass_of_methodNamed B.named
  have hlocks := B.notSynchronized
  generalize hAe : va_A [(qS, .inr (2, [.ref qF, .int f1, .int f2, .int pn, .int l1, .int l2, .int ot, .int dr, .int wy, .int hp, .int ue, .int uc]))] s.heap.size = A at hD ⊢
  have hA : ∀ q : Nat, s.heap.size ≤ q → A q := fun q h => by rw [← hAe]; exact Or.inr h
  have hS : va_S A s.heap s.heap [] := va_S.rf
  have k38 := hts (.fieldLink RX2 38 "PortTimers$Side" "lowUntilCycle" "Z") (by decide +kernel)
  have hl := lv_entry ([.ref qS]) (n := 1) (Nat.le_of_ble_eq_true rfl)
  rw [lg_entry_eq]
  generalize (lg_sl ([.ref qS]) ++ List.replicate (1 - (lg_sl ([.ref qS])).length) Slot.unset).toArray = ls at hl ⊢
  have hl : lv_has ls 1 [(0, .ref qS)] := hl
  refine lv_aload_n hx hb dX2_endCycle_0 rfl (lv_at hl 0 rfl) ?_
  refine lv_iconst (v := 0) hx hb dX2_endCycle_1 (by decide) ?_
  refine va_put (D := D) (ci := 2) (v := .int 0) (ty := .boolean) (C := RX2) (T := TX2) (N := 12) hx hb hts nX2_endCycle_X2 tyX2 tyX2_ok nmX2 hown hK hP hD hS 0 rfl rfl 11 (by decide) k38 (fun _ h9 => h9) rfl (by decide +kernel) rfl rfl (Nat.le_of_ble_eq_true rfl) dX2_endCycle_2 (fun H locs hP hD hS => ?_)
  have hP : va_P D vwCl [(qS, .inr (2, [.ref qF, .int f1, .int f2, .int pn, .int l1, .int l2, .int ot, .int dr, .int wy, .int hp, .int ue, .int 0]))] H := hP
  have hD : va_D A [(qS, .inr (2, [.ref qF, .int f1, .int f2, .int pn, .int l1, .int l2, .int ot, .int dr, .int wy, .int hp, .int ue, .int 0]))] := hD
  exact st_retv hx hb hr hlocks hP hD hS dX2_endCycle_5
def f_X2_moveLine1_hp (pn l1 wy hp p0 : Int32) : Int32 := if (wy &&& (1 : Int32)) = 0 then (if p0 = l1 then hp else (if p0 = 0 then pn else hp)) else (if p0 = l1 then hp else (if p0 = 1 then pn else hp))
def f_X2_moveLine1_ue (l1 wy ue p0 : Int32) : Int32 := if (wy &&& (1 : Int32)) = 0 then (if p0 = l1 then ue else (if p0 = 0 then 0 else ue)) else (if p0 = l1 then ue else (if p0 = 1 then 0 else ue))
def f_X2_moveLine1_fr (f1 l1 wy fr p0 : Int32) : Int32 := if (wy &&& (1 : Int32)) = 0 then (if p0 = l1 then fr else (if p0 = 0 then (fr ||| f1) else fr)) else (if p0 = l1 then fr else (if p0 = 1 then (fr ||| f1) else fr))
def f_X2_moveLine1_ret (l1 wy p0 : Int32) : Int32 := if (wy &&& (1 : Int32)) = 0 then (if p0 = l1 then 0 else (if p0 = 0 then 1 else 0)) else (if p0 = l1 then 0 else (if p0 = 1 then 1 else 0))
theorem z_X2_moveLine1 (l1 wy p0 : Int32) : f_X2_moveLine1_ret l1 wy p0 = 0 ∨ f_X2_moveLine1_ret l1 wy p0 = 1 := by
  unfold f_X2_moveLine1_ret
  (repeat' split) <;> decide
theorem nX2_moveLine1_X2 : ∀ w ∈ wsX20, w ∈ wsX2_moveLine1 := fun w h => List.mem_cons_of_mem _ (List.mem_append_left _ (List.mem_append_right _ h))
set_option maxHeartbeats 4000000 in
set_option maxRecDepth 100000 in
theorem k_X2_moveLine1 (l : Launch) (D : va_G) (qS qF : Nat) (f1 f2 pn l1 l2 ot dr wy hp ue uc fr fe p0 : Int32) (hz : p0 = 0 ∨ p0 = 1) : stI l yX2_moveLine1 wsX2_moveLine1 ({ frames := 1, cells := 0, slots := 0, locals := 21 } : Room) D [] tE [.ref qS, .int p0] [(qS, .inr (2, [.ref qF, .int f1, .int f2, .int pn, .int l1, .int l2, .int ot, .int dr, .int wy, .int hp, .int ue, .int uc])), (qF, .inr (0, [.int fr, .int fe]))] [(qS, .inr (2, [.ref qF, .int f1, .int f2, .int pn, .int p0, .int l2, .int ot, .int dr, .int wy, .int (f_X2_moveLine1_hp pn l1 wy hp p0), .int (f_X2_moveLine1_ue l1 wy ue p0), .int uc])), (qF, .inr (0, [.int (f_X2_moveLine1_fr f1 l1 wy fr p0), .int fe]))] (f_X2_moveLine1_ret l1 wy p0) := by
  intro sz
  refine Met.ofW (cc := cX2_moveLine1) (maxL := 4) (ret := (some .boolean)) (by decide) rfl ?_
  intro p e s m args below meth c s₁ B hml hv
  obtain ⟨rfl, rfl, hP, hK, hD, hE⟩ := st_open hv
  have hx := B.exec
  have hb := B.bytes
  have hr := B.returns
  have hts := atoms_spec (ws := wsX2_moveLine1) B.pre
  have hown : s.vm.findClass RX2 = some m.cls := findClass_of_methodNamed B.named
  have hlocks := B.notSynchronized
  generalize hAe : va_A [(qS, .inr (2, [.ref qF, .int f1, .int f2, .int pn, .int l1, .int l2, .int ot, .int dr, .int wy, .int hp, .int ue, .int uc])), (qF, .inr (0, [.int fr, .int fe]))] s.heap.size = A at hD ⊢
  have hA : ∀ q : Nat, s.heap.size ≤ q → A q := fun q h => by rw [← hAe]; exact Or.inr h
  have hS : va_S A s.heap s.heap [] := va_S.rf
  have k9 := hts (.fieldLink RX2 9 "PortTimers$Side" "flags" "LPortTimers$Flags;") (by decide +kernel)
  have k15 := hts (.fieldLink RX2 15 "PortTimers$Side" "flagOfLine1" "I") (by decide +kernel)
  have k28 := hts (.fieldLink RX2 28 "PortTimers$Side" "ways" "I") (by decide +kernel)
  have k31 := hts (.fieldLink RX2 31 "PortTimers$Side" "heldPins" "I") (by decide +kernel)
  have k34 := hts (.fieldLink RX2 34 "PortTimers$Side" "lowUntilEdge" "Z") (by decide +kernel)
  have k47 := hts (.fieldLink RX2 47 "PortTimers$Side" "pins" "I") (by decide +kernel)
  have k58 := hts (.fieldLink RX2 58 "PortTimers$Side" "line1" "Z") (by decide +kernel)
  have hl := lv_entry ([.ref qS, .int p0]) (n := 4) (Nat.le_of_ble_eq_true rfl)
  rw [lg_entry_eq]
  generalize (lg_sl ([.ref qS, .int p0]) ++ List.replicate (4 - (lg_sl ([.ref qS, .int p0])).length) Slot.unset).toArray = ls at hl ⊢
  have hl : lv_has ls 4 [(0, .ref qS), (1, .int p0)] := hl
  refine lv_aload_n hx hb dX2_moveLine1_0 rfl (lv_at hl 0 rfl) ?_
  refine va_get (D := D) (ci := 2) (v := .int wy) (C := RX2) (T := TX2) (N := 12) hx hb hts nX2_moveLine1_X2 hown hK hP 0 rfl rfl 8 (by decide) k28 (fun _ h9 => h9) rfl dX2_moveLine1_1 ?_
  refine lv_iconst (v := 1) hx hb dX2_moveLine1_4 (by decide) ?_
  refine lv_iand hx hb dX2_moveLine1_5 ?_
  refine lv_if_eq (tgt := 13) hx hb dX2_moveLine1_6 (by decide) (fun c_1 => ?_) (fun c_1 => ?_)
  · refine lv_iconst (v := 0) hx hb dX2_moveLine1_13 (by decide) ?_
    refine lv_istore_n (lv' := [(2, .int 0), (0, .ref qS), (1, .int p0)]) hx hb dX2_moveLine1_14 rfl hl (by decide) rfl (fun ls hl => ?_)
    refine lv_iload_n hx hb dX2_moveLine1_15 rfl (lv_at hl 2 rfl) ?_
    refine lv_aload_n hx hb dX2_moveLine1_16 rfl (lv_at hl 1 rfl) ?_
    refine va_get (D := D) (ci := 2) (v := .int l1) (C := RX2) (T := TX2) (N := 12) hx hb hts nX2_moveLine1_X2 hown hK hP 0 rfl rfl 4 (by decide) k58 (fun _ h9 => h9) rfl dX2_moveLine1_17 ?_
    refine lv_icmp_eq (tgt := 32) hx hb dX2_moveLine1_20 (by decide) (fun c_2 => ?_) (fun c_2 => ?_)
    · refine lv_iconst (v := 0) hx hb dX2_moveLine1_32 (by decide) ?_
      refine lv_istore_n (lv' := [(3, .int 0), (2, .int 0), (0, .ref qS), (1, .int p0)]) hx hb dX2_moveLine1_33 rfl hl (by decide) rfl (fun ls hl => ?_)
      refine lv_aload_n hx hb dX2_moveLine1_34 rfl (lv_at hl 2 rfl) ?_
      refine lv_iload_n hx hb dX2_moveLine1_35 rfl (lv_at hl 3 rfl) ?_
      refine va_put (D := D) (ci := 2) (v := .int p0) (ty := .boolean) (C := RX2) (T := TX2) (N := 12) hx hb hts nX2_moveLine1_X2 tyX2 tyX2_ok nmX2 hown hK hP hD hS 0 rfl rfl 4 (by decide) k58 (fun _ h9 => h9) rfl (by decide +kernel) (by rcases hz with rfl | rfl <;> rfl) (by rcases hz with rfl | rfl <;> rfl) (Nat.le_of_ble_eq_true rfl) dX2_moveLine1_36 (fun H locs hP hD hS => ?_)
      have hP : va_P D vwCl [(qS, .inr (2, [.ref qF, .int f1, .int f2, .int pn, .int p0, .int l2, .int ot, .int dr, .int wy, .int hp, .int ue, .int uc])), (qF, .inr (0, [.int fr, .int fe]))] H := hP
      have hD : va_D A [(qS, .inr (2, [.ref qF, .int f1, .int f2, .int pn, .int p0, .int l2, .int ot, .int dr, .int wy, .int hp, .int ue, .int uc])), (qF, .inr (0, [.int fr, .int fe]))] := hD
      refine lv_iload_n hx hb dX2_moveLine1_39 rfl (lv_at hl 0 rfl) ?_
      refine lv_if_eq (tgt := 67) hx hb dX2_moveLine1_40 (by decide) (fun _ => ?_) (fun cc => absurd cc (by decide))
      refine lv_iload_n hx hb dX2_moveLine1_67 rfl (lv_at hl 0 rfl) ?_
      have hw : ([(qS, .inr (2, [.ref qF, .int f1, .int f2, .int pn, .int p0, .int l2, .int ot, .int dr, .int wy, .int (f_X2_moveLine1_hp pn l1 wy hp p0), .int (f_X2_moveLine1_ue l1 wy ue p0), .int uc])), (qF, .inr (0, [.int (f_X2_moveLine1_fr f1 l1 wy fr p0), .int fe]))] : va_W) = [(qS, .inr (2, [.ref qF, .int f1, .int f2, .int pn, .int p0, .int l2, .int ot, .int dr, .int wy, .int hp, .int ue, .int uc])), (qF, .inr (0, [.int fr, .int fe]))] := by simp only [f_X2_moveLine1_hp, f_X2_moveLine1_ue, f_X2_moveLine1_fr, f_X2_moveLine1_ret, if_pos c_1, if_pos c_2]
      exact st_retz hx hb hr hlocks (by decide) (by simp only [f_X2_moveLine1_hp, f_X2_moveLine1_ue, f_X2_moveLine1_fr, f_X2_moveLine1_ret, if_pos c_1, if_pos c_2]) (by rw [hw]; exact hP) (by rw [hw]; exact hD) hS dX2_moveLine1_68
    · refine lv_iload_n hx hb dX2_moveLine1_23 rfl (lv_at hl 2 rfl) ?_
      refine lv_iload_n hx hb dX2_moveLine1_24 rfl (lv_at hl 0 rfl) ?_
      refine lv_icmp_ne (tgt := 32) hx hb dX2_moveLine1_25 (by decide) (fun c_3 => ?_) (fun c_3 => ?_)
      · refine lv_iconst (v := 0) hx hb dX2_moveLine1_32 (by decide) ?_
        refine lv_istore_n (lv' := [(3, .int 0), (2, .int 0), (0, .ref qS), (1, .int p0)]) hx hb dX2_moveLine1_33 rfl hl (by decide) rfl (fun ls hl => ?_)
        refine lv_aload_n hx hb dX2_moveLine1_34 rfl (lv_at hl 2 rfl) ?_
        refine lv_iload_n hx hb dX2_moveLine1_35 rfl (lv_at hl 3 rfl) ?_
        refine va_put (D := D) (ci := 2) (v := .int p0) (ty := .boolean) (C := RX2) (T := TX2) (N := 12) hx hb hts nX2_moveLine1_X2 tyX2 tyX2_ok nmX2 hown hK hP hD hS 0 rfl rfl 4 (by decide) k58 (fun _ h9 => h9) rfl (by decide +kernel) (by rcases hz with rfl | rfl <;> rfl) (by rcases hz with rfl | rfl <;> rfl) (Nat.le_of_ble_eq_true rfl) dX2_moveLine1_36 (fun H locs hP hD hS => ?_)
        have hP : va_P D vwCl [(qS, .inr (2, [.ref qF, .int f1, .int f2, .int pn, .int p0, .int l2, .int ot, .int dr, .int wy, .int hp, .int ue, .int uc])), (qF, .inr (0, [.int fr, .int fe]))] H := hP
        have hD : va_D A [(qS, .inr (2, [.ref qF, .int f1, .int f2, .int pn, .int p0, .int l2, .int ot, .int dr, .int wy, .int hp, .int ue, .int uc])), (qF, .inr (0, [.int fr, .int fe]))] := hD
        refine lv_iload_n hx hb dX2_moveLine1_39 rfl (lv_at hl 0 rfl) ?_
        refine lv_if_eq (tgt := 67) hx hb dX2_moveLine1_40 (by decide) (fun _ => ?_) (fun cc => absurd cc (by decide))
        refine lv_iload_n hx hb dX2_moveLine1_67 rfl (lv_at hl 0 rfl) ?_
        have hw : ([(qS, .inr (2, [.ref qF, .int f1, .int f2, .int pn, .int p0, .int l2, .int ot, .int dr, .int wy, .int (f_X2_moveLine1_hp pn l1 wy hp p0), .int (f_X2_moveLine1_ue l1 wy ue p0), .int uc])), (qF, .inr (0, [.int (f_X2_moveLine1_fr f1 l1 wy fr p0), .int fe]))] : va_W) = [(qS, .inr (2, [.ref qF, .int f1, .int f2, .int pn, .int p0, .int l2, .int ot, .int dr, .int wy, .int hp, .int ue, .int uc])), (qF, .inr (0, [.int fr, .int fe]))] := by simp only [f_X2_moveLine1_hp, f_X2_moveLine1_ue, f_X2_moveLine1_fr, f_X2_moveLine1_ret, if_pos c_1, if_neg c_2, if_neg c_3]
        exact st_retz hx hb hr hlocks (by decide) (by simp only [f_X2_moveLine1_hp, f_X2_moveLine1_ue, f_X2_moveLine1_fr, f_X2_moveLine1_ret, if_pos c_1, if_neg c_2, if_neg c_3]) (by rw [hw]; exact hP) (by rw [hw]; exact hD) hS dX2_moveLine1_68
      · refine lv_iconst (v := 1) hx hb dX2_moveLine1_28 (by decide) ?_
        refine lv_goto (tgt := 33) hx hb dX2_moveLine1_29 (by decide) ?_
        refine lv_istore_n (lv' := [(3, .int 1), (2, .int 0), (0, .ref qS), (1, .int p0)]) hx hb dX2_moveLine1_33 rfl hl (by decide) rfl (fun ls hl => ?_)
        refine lv_aload_n hx hb dX2_moveLine1_34 rfl (lv_at hl 2 rfl) ?_
        refine lv_iload_n hx hb dX2_moveLine1_35 rfl (lv_at hl 3 rfl) ?_
        refine va_put (D := D) (ci := 2) (v := .int p0) (ty := .boolean) (C := RX2) (T := TX2) (N := 12) hx hb hts nX2_moveLine1_X2 tyX2 tyX2_ok nmX2 hown hK hP hD hS 0 rfl rfl 4 (by decide) k58 (fun _ h9 => h9) rfl (by decide +kernel) (by rcases hz with rfl | rfl <;> rfl) (by rcases hz with rfl | rfl <;> rfl) (Nat.le_of_ble_eq_true rfl) dX2_moveLine1_36 (fun H locs hP hD hS => ?_)
        have hP : va_P D vwCl [(qS, .inr (2, [.ref qF, .int f1, .int f2, .int pn, .int p0, .int l2, .int ot, .int dr, .int wy, .int hp, .int ue, .int uc])), (qF, .inr (0, [.int fr, .int fe]))] H := hP
        have hD : va_D A [(qS, .inr (2, [.ref qF, .int f1, .int f2, .int pn, .int p0, .int l2, .int ot, .int dr, .int wy, .int hp, .int ue, .int uc])), (qF, .inr (0, [.int fr, .int fe]))] := hD
        refine lv_iload_n hx hb dX2_moveLine1_39 rfl (lv_at hl 0 rfl) ?_
        refine lv_if_eq (tgt := 67) hx hb dX2_moveLine1_40 (by decide) (fun cc => absurd cc (by decide)) (fun _ => ?_)
        refine lv_aload_n hx hb dX2_moveLine1_43 rfl (lv_at hl 2 rfl) ?_
        refine va_get (D := D) (ci := 2) (v := .ref qF) (C := RX2) (T := TX2) (N := 12) hx hb hts nX2_moveLine1_X2 hown hK hP 0 rfl rfl 0 (by decide) k9 (fun _ h9 => h9) rfl dX2_moveLine1_44 ?_
        refine lv_aload_n hx hb dX2_moveLine1_47 rfl (lv_at hl 2 rfl) ?_
        refine va_get (D := D) (ci := 2) (v := .int f1) (C := RX2) (T := TX2) (N := 12) hx hb hts nX2_moveLine1_X2 hown hK hP 0 rfl rfl 1 (by decide) k15 (fun _ h9 => h9) rfl dX2_moveLine1_48 ?_
        refine st_vV (As := [.int f1]) (rest := []) (wc := [(qF, .inr (0, [.int fr, .int fe]))]) (wr := [(qS, .inr (2, [.ref qF, .int f1, .int f2, .int pn, .int p0, .int l2, .int ot, .int dr, .int wy, .int hp, .int ue, .int uc]))]) (w1 := [(qF, .inr (0, [.int (fr ||| f1), .int fe]))]) (wn := [(qS, .inr (2, [.ref qF, .int f1, .int f2, .int pn, .int p0, .int l2, .int ot, .int dr, .int wy, .int hp, .int ue, .int uc])), (qF, .inr (0, [.int (fr ||| f1), .int fe]))]) ⟨hx, hb, hml, hown, hts⟩ (k_X0_raise l D qF fr fe f1) (cwV 1 hts gX2_moveLine1_X0_raise rfl rfl rfl (by decide +kernel) ⟨Nat.le_of_ble_eq_true rfl, Nat.le_of_ble_eq_true rfl⟩) tE_v (fun _ _ => trivial) hK hP hD hS hA (fun hPc => va_recv hK hPc (ci := 0) (q0 := 0) rfl rfl) [1] [0] [0, 1] rfl rfl (by decide) rfl rfl rfl hl.1 (Nat.le_of_ble_eq_true rfl) dX2_moveLine1_51 ⟨Nat.zero_le _, Nat.zero_le _⟩ (fun H locs hP hD hS => ?_)
        refine lv_aload_n hx hb dX2_moveLine1_54 rfl (lv_at hl 2 rfl) ?_
        refine lv_aload_n hx hb dX2_moveLine1_55 rfl (lv_at hl 2 rfl) ?_
        refine va_get (D := D) (ci := 2) (v := .int pn) (C := RX2) (T := TX2) (N := 12) hx hb hts nX2_moveLine1_X2 hown hK hP 0 rfl rfl 3 (by decide) k47 (fun _ h9 => h9) rfl dX2_moveLine1_56 ?_
        refine va_put (D := D) (ci := 2) (v := .int pn) (ty := .int) (C := RX2) (T := TX2) (N := 12) hx hb hts nX2_moveLine1_X2 tyX2 tyX2_ok nmX2 hown hK hP hD hS 0 rfl rfl 9 (by decide) k31 (fun _ h9 => h9) rfl (by decide +kernel) rfl rfl (Nat.le_of_ble_eq_true rfl) dX2_moveLine1_59 (fun H locs hP hD hS => ?_)
        have hP : va_P D vwCl [(qS, .inr (2, [.ref qF, .int f1, .int f2, .int pn, .int p0, .int l2, .int ot, .int dr, .int wy, .int pn, .int ue, .int uc])), (qF, .inr (0, [.int (fr ||| f1), .int fe]))] H := hP
        have hD : va_D A [(qS, .inr (2, [.ref qF, .int f1, .int f2, .int pn, .int p0, .int l2, .int ot, .int dr, .int wy, .int pn, .int ue, .int uc])), (qF, .inr (0, [.int (fr ||| f1), .int fe]))] := hD
        refine lv_aload_n hx hb dX2_moveLine1_62 rfl (lv_at hl 2 rfl) ?_
        refine lv_iconst (v := 0) hx hb dX2_moveLine1_63 (by decide) ?_
        refine va_put (D := D) (ci := 2) (v := .int 0) (ty := .boolean) (C := RX2) (T := TX2) (N := 12) hx hb hts nX2_moveLine1_X2 tyX2 tyX2_ok nmX2 hown hK hP hD hS 0 rfl rfl 10 (by decide) k34 (fun _ h9 => h9) rfl (by decide +kernel) rfl rfl (Nat.le_of_ble_eq_true rfl) dX2_moveLine1_64 (fun H locs hP hD hS => ?_)
        have hP : va_P D vwCl [(qS, .inr (2, [.ref qF, .int f1, .int f2, .int pn, .int p0, .int l2, .int ot, .int dr, .int wy, .int pn, .int 0, .int uc])), (qF, .inr (0, [.int (fr ||| f1), .int fe]))] H := hP
        have hD : va_D A [(qS, .inr (2, [.ref qF, .int f1, .int f2, .int pn, .int p0, .int l2, .int ot, .int dr, .int wy, .int pn, .int 0, .int uc])), (qF, .inr (0, [.int (fr ||| f1), .int fe]))] := hD
        refine lv_iload_n hx hb dX2_moveLine1_67 rfl (lv_at hl 0 rfl) ?_
        have hw : ([(qS, .inr (2, [.ref qF, .int f1, .int f2, .int pn, .int p0, .int l2, .int ot, .int dr, .int wy, .int (f_X2_moveLine1_hp pn l1 wy hp p0), .int (f_X2_moveLine1_ue l1 wy ue p0), .int uc])), (qF, .inr (0, [.int (f_X2_moveLine1_fr f1 l1 wy fr p0), .int fe]))] : va_W) = [(qS, .inr (2, [.ref qF, .int f1, .int f2, .int pn, .int p0, .int l2, .int ot, .int dr, .int wy, .int pn, .int 0, .int uc])), (qF, .inr (0, [.int (fr ||| f1), .int fe]))] := by simp only [f_X2_moveLine1_hp, f_X2_moveLine1_ue, f_X2_moveLine1_fr, f_X2_moveLine1_ret, if_pos c_1, if_neg c_2, if_pos c_3]
        exact st_retz hx hb hr hlocks (by decide) (by simp only [f_X2_moveLine1_hp, f_X2_moveLine1_ue, f_X2_moveLine1_fr, f_X2_moveLine1_ret, if_pos c_1, if_neg c_2, if_pos c_3]) (by rw [hw]; exact hP) (by rw [hw]; exact hD) hS dX2_moveLine1_68
  · refine lv_iconst (v := 1) hx hb dX2_moveLine1_9 (by decide) ?_
    refine lv_goto (tgt := 14) hx hb dX2_moveLine1_10 (by decide) ?_
    refine lv_istore_n (lv' := [(2, .int 1), (0, .ref qS), (1, .int p0)]) hx hb dX2_moveLine1_14 rfl hl (by decide) rfl (fun ls hl => ?_)
    refine lv_iload_n hx hb dX2_moveLine1_15 rfl (lv_at hl 2 rfl) ?_
    refine lv_aload_n hx hb dX2_moveLine1_16 rfl (lv_at hl 1 rfl) ?_
    refine va_get (D := D) (ci := 2) (v := .int l1) (C := RX2) (T := TX2) (N := 12) hx hb hts nX2_moveLine1_X2 hown hK hP 0 rfl rfl 4 (by decide) k58 (fun _ h9 => h9) rfl dX2_moveLine1_17 ?_
    refine lv_icmp_eq (tgt := 32) hx hb dX2_moveLine1_20 (by decide) (fun c_4 => ?_) (fun c_4 => ?_)
    · refine lv_iconst (v := 0) hx hb dX2_moveLine1_32 (by decide) ?_
      refine lv_istore_n (lv' := [(3, .int 0), (2, .int 1), (0, .ref qS), (1, .int p0)]) hx hb dX2_moveLine1_33 rfl hl (by decide) rfl (fun ls hl => ?_)
      refine lv_aload_n hx hb dX2_moveLine1_34 rfl (lv_at hl 2 rfl) ?_
      refine lv_iload_n hx hb dX2_moveLine1_35 rfl (lv_at hl 3 rfl) ?_
      refine va_put (D := D) (ci := 2) (v := .int p0) (ty := .boolean) (C := RX2) (T := TX2) (N := 12) hx hb hts nX2_moveLine1_X2 tyX2 tyX2_ok nmX2 hown hK hP hD hS 0 rfl rfl 4 (by decide) k58 (fun _ h9 => h9) rfl (by decide +kernel) (by rcases hz with rfl | rfl <;> rfl) (by rcases hz with rfl | rfl <;> rfl) (Nat.le_of_ble_eq_true rfl) dX2_moveLine1_36 (fun H locs hP hD hS => ?_)
      have hP : va_P D vwCl [(qS, .inr (2, [.ref qF, .int f1, .int f2, .int pn, .int p0, .int l2, .int ot, .int dr, .int wy, .int hp, .int ue, .int uc])), (qF, .inr (0, [.int fr, .int fe]))] H := hP
      have hD : va_D A [(qS, .inr (2, [.ref qF, .int f1, .int f2, .int pn, .int p0, .int l2, .int ot, .int dr, .int wy, .int hp, .int ue, .int uc])), (qF, .inr (0, [.int fr, .int fe]))] := hD
      refine lv_iload_n hx hb dX2_moveLine1_39 rfl (lv_at hl 0 rfl) ?_
      refine lv_if_eq (tgt := 67) hx hb dX2_moveLine1_40 (by decide) (fun _ => ?_) (fun cc => absurd cc (by decide))
      refine lv_iload_n hx hb dX2_moveLine1_67 rfl (lv_at hl 0 rfl) ?_
      have hw : ([(qS, .inr (2, [.ref qF, .int f1, .int f2, .int pn, .int p0, .int l2, .int ot, .int dr, .int wy, .int (f_X2_moveLine1_hp pn l1 wy hp p0), .int (f_X2_moveLine1_ue l1 wy ue p0), .int uc])), (qF, .inr (0, [.int (f_X2_moveLine1_fr f1 l1 wy fr p0), .int fe]))] : va_W) = [(qS, .inr (2, [.ref qF, .int f1, .int f2, .int pn, .int p0, .int l2, .int ot, .int dr, .int wy, .int hp, .int ue, .int uc])), (qF, .inr (0, [.int fr, .int fe]))] := by simp only [f_X2_moveLine1_hp, f_X2_moveLine1_ue, f_X2_moveLine1_fr, f_X2_moveLine1_ret, if_neg c_1, if_pos c_4]
      exact st_retz hx hb hr hlocks (by decide) (by simp only [f_X2_moveLine1_hp, f_X2_moveLine1_ue, f_X2_moveLine1_fr, f_X2_moveLine1_ret, if_neg c_1, if_pos c_4]) (by rw [hw]; exact hP) (by rw [hw]; exact hD) hS dX2_moveLine1_68
    · refine lv_iload_n hx hb dX2_moveLine1_23 rfl (lv_at hl 2 rfl) ?_
      refine lv_iload_n hx hb dX2_moveLine1_24 rfl (lv_at hl 0 rfl) ?_
      refine lv_icmp_ne (tgt := 32) hx hb dX2_moveLine1_25 (by decide) (fun c_5 => ?_) (fun c_5 => ?_)
      · refine lv_iconst (v := 0) hx hb dX2_moveLine1_32 (by decide) ?_
        refine lv_istore_n (lv' := [(3, .int 0), (2, .int 1), (0, .ref qS), (1, .int p0)]) hx hb dX2_moveLine1_33 rfl hl (by decide) rfl (fun ls hl => ?_)
        refine lv_aload_n hx hb dX2_moveLine1_34 rfl (lv_at hl 2 rfl) ?_
        refine lv_iload_n hx hb dX2_moveLine1_35 rfl (lv_at hl 3 rfl) ?_
        refine va_put (D := D) (ci := 2) (v := .int p0) (ty := .boolean) (C := RX2) (T := TX2) (N := 12) hx hb hts nX2_moveLine1_X2 tyX2 tyX2_ok nmX2 hown hK hP hD hS 0 rfl rfl 4 (by decide) k58 (fun _ h9 => h9) rfl (by decide +kernel) (by rcases hz with rfl | rfl <;> rfl) (by rcases hz with rfl | rfl <;> rfl) (Nat.le_of_ble_eq_true rfl) dX2_moveLine1_36 (fun H locs hP hD hS => ?_)
        have hP : va_P D vwCl [(qS, .inr (2, [.ref qF, .int f1, .int f2, .int pn, .int p0, .int l2, .int ot, .int dr, .int wy, .int hp, .int ue, .int uc])), (qF, .inr (0, [.int fr, .int fe]))] H := hP
        have hD : va_D A [(qS, .inr (2, [.ref qF, .int f1, .int f2, .int pn, .int p0, .int l2, .int ot, .int dr, .int wy, .int hp, .int ue, .int uc])), (qF, .inr (0, [.int fr, .int fe]))] := hD
        refine lv_iload_n hx hb dX2_moveLine1_39 rfl (lv_at hl 0 rfl) ?_
        refine lv_if_eq (tgt := 67) hx hb dX2_moveLine1_40 (by decide) (fun _ => ?_) (fun cc => absurd cc (by decide))
        refine lv_iload_n hx hb dX2_moveLine1_67 rfl (lv_at hl 0 rfl) ?_
        have hw : ([(qS, .inr (2, [.ref qF, .int f1, .int f2, .int pn, .int p0, .int l2, .int ot, .int dr, .int wy, .int (f_X2_moveLine1_hp pn l1 wy hp p0), .int (f_X2_moveLine1_ue l1 wy ue p0), .int uc])), (qF, .inr (0, [.int (f_X2_moveLine1_fr f1 l1 wy fr p0), .int fe]))] : va_W) = [(qS, .inr (2, [.ref qF, .int f1, .int f2, .int pn, .int p0, .int l2, .int ot, .int dr, .int wy, .int hp, .int ue, .int uc])), (qF, .inr (0, [.int fr, .int fe]))] := by simp only [f_X2_moveLine1_hp, f_X2_moveLine1_ue, f_X2_moveLine1_fr, f_X2_moveLine1_ret, if_neg c_1, if_neg c_4, if_neg c_5]
        exact st_retz hx hb hr hlocks (by decide) (by simp only [f_X2_moveLine1_hp, f_X2_moveLine1_ue, f_X2_moveLine1_fr, f_X2_moveLine1_ret, if_neg c_1, if_neg c_4, if_neg c_5]) (by rw [hw]; exact hP) (by rw [hw]; exact hD) hS dX2_moveLine1_68
      · refine lv_iconst (v := 1) hx hb dX2_moveLine1_28 (by decide) ?_
        refine lv_goto (tgt := 33) hx hb dX2_moveLine1_29 (by decide) ?_
        refine lv_istore_n (lv' := [(3, .int 1), (2, .int 1), (0, .ref qS), (1, .int p0)]) hx hb dX2_moveLine1_33 rfl hl (by decide) rfl (fun ls hl => ?_)
        refine lv_aload_n hx hb dX2_moveLine1_34 rfl (lv_at hl 2 rfl) ?_
        refine lv_iload_n hx hb dX2_moveLine1_35 rfl (lv_at hl 3 rfl) ?_
        refine va_put (D := D) (ci := 2) (v := .int p0) (ty := .boolean) (C := RX2) (T := TX2) (N := 12) hx hb hts nX2_moveLine1_X2 tyX2 tyX2_ok nmX2 hown hK hP hD hS 0 rfl rfl 4 (by decide) k58 (fun _ h9 => h9) rfl (by decide +kernel) (by rcases hz with rfl | rfl <;> rfl) (by rcases hz with rfl | rfl <;> rfl) (Nat.le_of_ble_eq_true rfl) dX2_moveLine1_36 (fun H locs hP hD hS => ?_)
        have hP : va_P D vwCl [(qS, .inr (2, [.ref qF, .int f1, .int f2, .int pn, .int p0, .int l2, .int ot, .int dr, .int wy, .int hp, .int ue, .int uc])), (qF, .inr (0, [.int fr, .int fe]))] H := hP
        have hD : va_D A [(qS, .inr (2, [.ref qF, .int f1, .int f2, .int pn, .int p0, .int l2, .int ot, .int dr, .int wy, .int hp, .int ue, .int uc])), (qF, .inr (0, [.int fr, .int fe]))] := hD
        refine lv_iload_n hx hb dX2_moveLine1_39 rfl (lv_at hl 0 rfl) ?_
        refine lv_if_eq (tgt := 67) hx hb dX2_moveLine1_40 (by decide) (fun cc => absurd cc (by decide)) (fun _ => ?_)
        refine lv_aload_n hx hb dX2_moveLine1_43 rfl (lv_at hl 2 rfl) ?_
        refine va_get (D := D) (ci := 2) (v := .ref qF) (C := RX2) (T := TX2) (N := 12) hx hb hts nX2_moveLine1_X2 hown hK hP 0 rfl rfl 0 (by decide) k9 (fun _ h9 => h9) rfl dX2_moveLine1_44 ?_
        refine lv_aload_n hx hb dX2_moveLine1_47 rfl (lv_at hl 2 rfl) ?_
        refine va_get (D := D) (ci := 2) (v := .int f1) (C := RX2) (T := TX2) (N := 12) hx hb hts nX2_moveLine1_X2 hown hK hP 0 rfl rfl 1 (by decide) k15 (fun _ h9 => h9) rfl dX2_moveLine1_48 ?_
        refine st_vV (As := [.int f1]) (rest := []) (wc := [(qF, .inr (0, [.int fr, .int fe]))]) (wr := [(qS, .inr (2, [.ref qF, .int f1, .int f2, .int pn, .int p0, .int l2, .int ot, .int dr, .int wy, .int hp, .int ue, .int uc]))]) (w1 := [(qF, .inr (0, [.int (fr ||| f1), .int fe]))]) (wn := [(qS, .inr (2, [.ref qF, .int f1, .int f2, .int pn, .int p0, .int l2, .int ot, .int dr, .int wy, .int hp, .int ue, .int uc])), (qF, .inr (0, [.int (fr ||| f1), .int fe]))]) ⟨hx, hb, hml, hown, hts⟩ (k_X0_raise l D qF fr fe f1) (cwV 1 hts gX2_moveLine1_X0_raise rfl rfl rfl (by decide +kernel) ⟨Nat.le_of_ble_eq_true rfl, Nat.le_of_ble_eq_true rfl⟩) tE_v (fun _ _ => trivial) hK hP hD hS hA (fun hPc => va_recv hK hPc (ci := 0) (q0 := 0) rfl rfl) [1] [0] [0, 1] rfl rfl (by decide) rfl rfl rfl hl.1 (Nat.le_of_ble_eq_true rfl) dX2_moveLine1_51 ⟨Nat.zero_le _, Nat.zero_le _⟩ (fun H locs hP hD hS => ?_)
        refine lv_aload_n hx hb dX2_moveLine1_54 rfl (lv_at hl 2 rfl) ?_
        refine lv_aload_n hx hb dX2_moveLine1_55 rfl (lv_at hl 2 rfl) ?_
        refine va_get (D := D) (ci := 2) (v := .int pn) (C := RX2) (T := TX2) (N := 12) hx hb hts nX2_moveLine1_X2 hown hK hP 0 rfl rfl 3 (by decide) k47 (fun _ h9 => h9) rfl dX2_moveLine1_56 ?_
        refine va_put (D := D) (ci := 2) (v := .int pn) (ty := .int) (C := RX2) (T := TX2) (N := 12) hx hb hts nX2_moveLine1_X2 tyX2 tyX2_ok nmX2 hown hK hP hD hS 0 rfl rfl 9 (by decide) k31 (fun _ h9 => h9) rfl (by decide +kernel) rfl rfl (Nat.le_of_ble_eq_true rfl) dX2_moveLine1_59 (fun H locs hP hD hS => ?_)
        have hP : va_P D vwCl [(qS, .inr (2, [.ref qF, .int f1, .int f2, .int pn, .int p0, .int l2, .int ot, .int dr, .int wy, .int pn, .int ue, .int uc])), (qF, .inr (0, [.int (fr ||| f1), .int fe]))] H := hP
        have hD : va_D A [(qS, .inr (2, [.ref qF, .int f1, .int f2, .int pn, .int p0, .int l2, .int ot, .int dr, .int wy, .int pn, .int ue, .int uc])), (qF, .inr (0, [.int (fr ||| f1), .int fe]))] := hD
        refine lv_aload_n hx hb dX2_moveLine1_62 rfl (lv_at hl 2 rfl) ?_
        refine lv_iconst (v := 0) hx hb dX2_moveLine1_63 (by decide) ?_
        refine va_put (D := D) (ci := 2) (v := .int 0) (ty := .boolean) (C := RX2) (T := TX2) (N := 12) hx hb hts nX2_moveLine1_X2 tyX2 tyX2_ok nmX2 hown hK hP hD hS 0 rfl rfl 10 (by decide) k34 (fun _ h9 => h9) rfl (by decide +kernel) rfl rfl (Nat.le_of_ble_eq_true rfl) dX2_moveLine1_64 (fun H locs hP hD hS => ?_)
        have hP : va_P D vwCl [(qS, .inr (2, [.ref qF, .int f1, .int f2, .int pn, .int p0, .int l2, .int ot, .int dr, .int wy, .int pn, .int 0, .int uc])), (qF, .inr (0, [.int (fr ||| f1), .int fe]))] H := hP
        have hD : va_D A [(qS, .inr (2, [.ref qF, .int f1, .int f2, .int pn, .int p0, .int l2, .int ot, .int dr, .int wy, .int pn, .int 0, .int uc])), (qF, .inr (0, [.int (fr ||| f1), .int fe]))] := hD
        refine lv_iload_n hx hb dX2_moveLine1_67 rfl (lv_at hl 0 rfl) ?_
        have hw : ([(qS, .inr (2, [.ref qF, .int f1, .int f2, .int pn, .int p0, .int l2, .int ot, .int dr, .int wy, .int (f_X2_moveLine1_hp pn l1 wy hp p0), .int (f_X2_moveLine1_ue l1 wy ue p0), .int uc])), (qF, .inr (0, [.int (f_X2_moveLine1_fr f1 l1 wy fr p0), .int fe]))] : va_W) = [(qS, .inr (2, [.ref qF, .int f1, .int f2, .int pn, .int p0, .int l2, .int ot, .int dr, .int wy, .int pn, .int 0, .int uc])), (qF, .inr (0, [.int (fr ||| f1), .int fe]))] := by simp only [f_X2_moveLine1_hp, f_X2_moveLine1_ue, f_X2_moveLine1_fr, f_X2_moveLine1_ret, if_neg c_1, if_neg c_4, if_pos c_5]
        exact st_retz hx hb hr hlocks (by decide) (by simp only [f_X2_moveLine1_hp, f_X2_moveLine1_ue, f_X2_moveLine1_fr, f_X2_moveLine1_ret, if_neg c_1, if_neg c_4, if_pos c_5]) (by rw [hw]; exact hP) (by rw [hw]; exact hD) hS dX2_moveLine1_68
def f_X2_moveLine2_fr (f2 l2 wy fr p0 : Int32) : Int32 := if (wy >>> ((1 : Int32) &&& (31 : Int32)) : Int32) < 2 then (if (4 : Int32) ≤ (wy >>> ((1 : Int32) &&& (31 : Int32)) : Int32) then fr else (if p0 = l2 then fr else (if p0 = 0 then (fr ||| f2) else fr))) else (if (4 : Int32) ≤ (wy >>> ((1 : Int32) &&& (31 : Int32)) : Int32) then fr else (if p0 = l2 then fr else (if p0 = 1 then (fr ||| f2) else fr)))
def f_X2_moveLine2_ret (l2 wy p0 : Int32) : Int32 := if (wy >>> ((1 : Int32) &&& (31 : Int32)) : Int32) < 2 then (if (4 : Int32) ≤ (wy >>> ((1 : Int32) &&& (31 : Int32)) : Int32) then 0 else (if p0 = l2 then 0 else (if p0 = 0 then 1 else 0))) else (if (4 : Int32) ≤ (wy >>> ((1 : Int32) &&& (31 : Int32)) : Int32) then 0 else (if p0 = l2 then 0 else (if p0 = 1 then 1 else 0)))
theorem z_X2_moveLine2 (l2 wy p0 : Int32) : f_X2_moveLine2_ret l2 wy p0 = 0 ∨ f_X2_moveLine2_ret l2 wy p0 = 1 := by
  unfold f_X2_moveLine2_ret
  (repeat' split) <;> decide
theorem nX2_moveLine2_X2 : ∀ w ∈ wsX20, w ∈ wsX2_moveLine2 := fun w h => List.mem_cons_of_mem _ (List.mem_append_left _ (List.mem_append_right _ h))
set_option maxHeartbeats 4000000 in
set_option maxRecDepth 100000 in
theorem k_X2_moveLine2 (l : Launch) (D : va_G) (qS qF : Nat) (f1 f2 pn l1 l2 ot dr wy hp ue uc fr fe p0 : Int32) (hz : p0 = 0 ∨ p0 = 1) : stI l yX2_moveLine2 wsX2_moveLine2 ({ frames := 1, cells := 0, slots := 0, locals := 21 } : Room) D [] tE [.ref qS, .int p0] [(qS, .inr (2, [.ref qF, .int f1, .int f2, .int pn, .int l1, .int l2, .int ot, .int dr, .int wy, .int hp, .int ue, .int uc])), (qF, .inr (0, [.int fr, .int fe]))] [(qS, .inr (2, [.ref qF, .int f1, .int f2, .int pn, .int l1, .int p0, .int ot, .int dr, .int wy, .int hp, .int ue, .int uc])), (qF, .inr (0, [.int (f_X2_moveLine2_fr f2 l2 wy fr p0), .int fe]))] (f_X2_moveLine2_ret l2 wy p0) := by
  intro sz
  refine Met.ofW (cc := cX2_moveLine2) (maxL := 5) (ret := (some .boolean)) (by decide) rfl ?_
  intro p e s m args below meth c s₁ B hml hv
  obtain ⟨rfl, rfl, hP, hK, hD, hE⟩ := st_open hv
  have hx := B.exec
  have hb := B.bytes
  have hr := B.returns
  have hts := atoms_spec (ws := wsX2_moveLine2) B.pre
  have hown : s.vm.findClass RX2 = some m.cls := findClass_of_methodNamed B.named
  have hlocks := B.notSynchronized
  generalize hAe : va_A [(qS, .inr (2, [.ref qF, .int f1, .int f2, .int pn, .int l1, .int l2, .int ot, .int dr, .int wy, .int hp, .int ue, .int uc])), (qF, .inr (0, [.int fr, .int fe]))] s.heap.size = A at hD ⊢
  have hA : ∀ q : Nat, s.heap.size ≤ q → A q := fun q h => by rw [← hAe]; exact Or.inr h
  have hS : va_S A s.heap s.heap [] := va_S.rf
  have k9 := hts (.fieldLink RX2 9 "PortTimers$Side" "flags" "LPortTimers$Flags;") (by decide +kernel)
  have k19 := hts (.fieldLink RX2 19 "PortTimers$Side" "flagOfLine2" "I") (by decide +kernel)
  have k64 := hts (.fieldLink RX2 64 "PortTimers$Side" "line2" "Z") (by decide +kernel)
  have hl := lv_entry ([.ref qS, .int p0]) (n := 5) (Nat.le_of_ble_eq_true rfl)
  rw [lg_entry_eq]
  generalize (lg_sl ([.ref qS, .int p0]) ++ List.replicate (5 - (lg_sl ([.ref qS, .int p0])).length) Slot.unset).toArray = ls at hl ⊢
  have hl : lv_has ls 5 [(0, .ref qS), (1, .int p0)] := hl
  refine lv_aload_n hx hb dX2_moveLine2_0 rfl (lv_at hl 0 rfl) ?_
  refine st_iV (As := []) (rest := []) (wc := [(qS, .inr (2, [.ref qF, .int f1, .int f2, .int pn, .int l1, .int l2, .int ot, .int dr, .int wy, .int hp, .int ue, .int uc]))]) (wr := [(qF, .inr (0, [.int fr, .int fe]))]) (w1 := [(qS, .inr (2, [.ref qF, .int f1, .int f2, .int pn, .int l1, .int l2, .int ot, .int dr, .int wy, .int hp, .int ue, .int uc]))]) (wn := [(qS, .inr (2, [.ref qF, .int f1, .int f2, .int pn, .int l1, .int l2, .int ot, .int dr, .int wy, .int hp, .int ue, .int uc])), (qF, .inr (0, [.int fr, .int fe]))]) (r := (wy >>> ((1 : Int32) &&& (31 : Int32)) : Int32)) ⟨hx, hb, hml, hown, hts⟩ (k_X2_wayOfLine2 l D qS qF f1 f2 pn l1 l2 ot dr wy hp ue uc) (cwV 0 hts gX2_moveLine2_X2_wayOfLine2 rfl rfl rfl (by decide +kernel) ⟨Nat.le_of_ble_eq_true rfl, Nat.le_of_ble_eq_true rfl⟩) tE_v (fun _ _ => trivial) hK hP hD hS hA (fun hPc => va_recv hK hPc (ci := 2) (q0 := 0) rfl rfl) [0] [1] [1, 0] rfl rfl (by decide) rfl rfl rfl hl.1 (Nat.le_of_ble_eq_true rfl) dX2_moveLine2_1 ⟨Nat.zero_le _, Nat.zero_le _⟩ (fun H locs hP hD hS => ?_)
  refine lv_istore_n (lv' := [(2, .int (wy >>> ((1 : Int32) &&& (31 : Int32)) : Int32)), (0, .ref qS), (1, .int p0)]) hx hb dX2_moveLine2_4 rfl hl (by decide) rfl (fun ls hl => ?_)
  refine lv_iload_n hx hb dX2_moveLine2_5 rfl (lv_at hl 0 rfl) ?_
  refine lv_iconst (v := 2) hx hb dX2_moveLine2_6 (by decide) ?_
  refine lv_icmp_lt (tgt := 14) hx hb dX2_moveLine2_7 (by decide) (fun c_1 => ?_) (fun c_1 => ?_)
  · refine lv_iconst (v := 0) hx hb dX2_moveLine2_14 (by decide) ?_
    refine lv_istore_n (lv' := [(3, .int 0), (2, .int (wy >>> ((1 : Int32) &&& (31 : Int32)) : Int32)), (0, .ref qS), (1, .int p0)]) hx hb dX2_moveLine2_15 rfl hl (by decide) rfl (fun ls hl => ?_)
    refine lv_iload_n hx hb dX2_moveLine2_16 rfl (lv_at hl 1 rfl) ?_
    refine lv_iconst (v := 4) hx hb dX2_moveLine2_17 (by decide) ?_
    refine lv_icmp_ge (tgt := 38) hx hb dX2_moveLine2_18 (by decide) (fun c_2 => ?_) (fun c_2 => ?_)
    · refine lv_iconst (v := 0) hx hb dX2_moveLine2_38 (by decide) ?_
      refine lv_istore (lv' := [(4, .int 0), (3, .int 0), (2, .int (wy >>> ((1 : Int32) &&& (31 : Int32)) : Int32)), (0, .ref qS), (1, .int p0)]) hx hb dX2_moveLine2_39 hl (by decide) rfl (fun ls hl => ?_)
      refine lv_aload_n hx hb dX2_moveLine2_41 rfl (lv_at hl 3 rfl) ?_
      refine lv_iload_n hx hb dX2_moveLine2_42 rfl (lv_at hl 4 rfl) ?_
      refine va_put (D := D) (ci := 2) (v := .int p0) (ty := .boolean) (C := RX2) (T := TX2) (N := 12) hx hb hts nX2_moveLine2_X2 tyX2 tyX2_ok nmX2 hown hK hP hD hS 0 rfl rfl 5 (by decide) k64 (fun _ h9 => h9) rfl (by decide +kernel) (by rcases hz with rfl | rfl <;> rfl) (by rcases hz with rfl | rfl <;> rfl) (Nat.le_of_ble_eq_true rfl) dX2_moveLine2_43 (fun H locs hP hD hS => ?_)
      have hP : va_P D vwCl [(qS, .inr (2, [.ref qF, .int f1, .int f2, .int pn, .int l1, .int p0, .int ot, .int dr, .int wy, .int hp, .int ue, .int uc])), (qF, .inr (0, [.int fr, .int fe]))] H := hP
      have hD : va_D A [(qS, .inr (2, [.ref qF, .int f1, .int f2, .int pn, .int l1, .int p0, .int ot, .int dr, .int wy, .int hp, .int ue, .int uc])), (qF, .inr (0, [.int fr, .int fe]))] := hD
      refine lv_iload hx hb dX2_moveLine2_46 (lv_at hl 0 rfl) ?_
      refine lv_if_eq (tgt := 62) hx hb dX2_moveLine2_48 (by decide) (fun _ => ?_) (fun cc => absurd cc (by decide))
      refine lv_iload hx hb dX2_moveLine2_62 (lv_at hl 0 rfl) ?_
      have hw : ([(qS, .inr (2, [.ref qF, .int f1, .int f2, .int pn, .int l1, .int p0, .int ot, .int dr, .int wy, .int hp, .int ue, .int uc])), (qF, .inr (0, [.int (f_X2_moveLine2_fr f2 l2 wy fr p0), .int fe]))] : va_W) = [(qS, .inr (2, [.ref qF, .int f1, .int f2, .int pn, .int l1, .int p0, .int ot, .int dr, .int wy, .int hp, .int ue, .int uc])), (qF, .inr (0, [.int fr, .int fe]))] := by simp only [f_X2_moveLine2_fr, f_X2_moveLine2_ret, if_pos c_1, if_pos c_2]
      exact st_retz hx hb hr hlocks (by decide) (by simp only [f_X2_moveLine2_fr, f_X2_moveLine2_ret, if_pos c_1, if_pos c_2]) (by rw [hw]; exact hP) (by rw [hw]; exact hD) hS dX2_moveLine2_64
    · refine lv_iload_n hx hb dX2_moveLine2_21 rfl (lv_at hl 3 rfl) ?_
      refine lv_aload_n hx hb dX2_moveLine2_22 rfl (lv_at hl 2 rfl) ?_
      refine va_get (D := D) (ci := 2) (v := .int l2) (C := RX2) (T := TX2) (N := 12) hx hb hts nX2_moveLine2_X2 hown hK hP 0 rfl rfl 5 (by decide) k64 (fun _ h9 => h9) rfl dX2_moveLine2_23 ?_
      refine lv_icmp_eq (tgt := 38) hx hb dX2_moveLine2_26 (by decide) (fun c_3 => ?_) (fun c_3 => ?_)
      · refine lv_iconst (v := 0) hx hb dX2_moveLine2_38 (by decide) ?_
        refine lv_istore (lv' := [(4, .int 0), (3, .int 0), (2, .int (wy >>> ((1 : Int32) &&& (31 : Int32)) : Int32)), (0, .ref qS), (1, .int p0)]) hx hb dX2_moveLine2_39 hl (by decide) rfl (fun ls hl => ?_)
        refine lv_aload_n hx hb dX2_moveLine2_41 rfl (lv_at hl 3 rfl) ?_
        refine lv_iload_n hx hb dX2_moveLine2_42 rfl (lv_at hl 4 rfl) ?_
        refine va_put (D := D) (ci := 2) (v := .int p0) (ty := .boolean) (C := RX2) (T := TX2) (N := 12) hx hb hts nX2_moveLine2_X2 tyX2 tyX2_ok nmX2 hown hK hP hD hS 0 rfl rfl 5 (by decide) k64 (fun _ h9 => h9) rfl (by decide +kernel) (by rcases hz with rfl | rfl <;> rfl) (by rcases hz with rfl | rfl <;> rfl) (Nat.le_of_ble_eq_true rfl) dX2_moveLine2_43 (fun H locs hP hD hS => ?_)
        have hP : va_P D vwCl [(qS, .inr (2, [.ref qF, .int f1, .int f2, .int pn, .int l1, .int p0, .int ot, .int dr, .int wy, .int hp, .int ue, .int uc])), (qF, .inr (0, [.int fr, .int fe]))] H := hP
        have hD : va_D A [(qS, .inr (2, [.ref qF, .int f1, .int f2, .int pn, .int l1, .int p0, .int ot, .int dr, .int wy, .int hp, .int ue, .int uc])), (qF, .inr (0, [.int fr, .int fe]))] := hD
        refine lv_iload hx hb dX2_moveLine2_46 (lv_at hl 0 rfl) ?_
        refine lv_if_eq (tgt := 62) hx hb dX2_moveLine2_48 (by decide) (fun _ => ?_) (fun cc => absurd cc (by decide))
        refine lv_iload hx hb dX2_moveLine2_62 (lv_at hl 0 rfl) ?_
        have hw : ([(qS, .inr (2, [.ref qF, .int f1, .int f2, .int pn, .int l1, .int p0, .int ot, .int dr, .int wy, .int hp, .int ue, .int uc])), (qF, .inr (0, [.int (f_X2_moveLine2_fr f2 l2 wy fr p0), .int fe]))] : va_W) = [(qS, .inr (2, [.ref qF, .int f1, .int f2, .int pn, .int l1, .int p0, .int ot, .int dr, .int wy, .int hp, .int ue, .int uc])), (qF, .inr (0, [.int fr, .int fe]))] := by simp only [f_X2_moveLine2_fr, f_X2_moveLine2_ret, if_pos c_1, if_neg c_2, if_pos c_3]
        exact st_retz hx hb hr hlocks (by decide) (by simp only [f_X2_moveLine2_fr, f_X2_moveLine2_ret, if_pos c_1, if_neg c_2, if_pos c_3]) (by rw [hw]; exact hP) (by rw [hw]; exact hD) hS dX2_moveLine2_64
      · refine lv_iload_n hx hb dX2_moveLine2_29 rfl (lv_at hl 3 rfl) ?_
        refine lv_iload_n hx hb dX2_moveLine2_30 rfl (lv_at hl 0 rfl) ?_
        refine lv_icmp_ne (tgt := 38) hx hb dX2_moveLine2_31 (by decide) (fun c_4 => ?_) (fun c_4 => ?_)
        · refine lv_iconst (v := 0) hx hb dX2_moveLine2_38 (by decide) ?_
          refine lv_istore (lv' := [(4, .int 0), (3, .int 0), (2, .int (wy >>> ((1 : Int32) &&& (31 : Int32)) : Int32)), (0, .ref qS), (1, .int p0)]) hx hb dX2_moveLine2_39 hl (by decide) rfl (fun ls hl => ?_)
          refine lv_aload_n hx hb dX2_moveLine2_41 rfl (lv_at hl 3 rfl) ?_
          refine lv_iload_n hx hb dX2_moveLine2_42 rfl (lv_at hl 4 rfl) ?_
          refine va_put (D := D) (ci := 2) (v := .int p0) (ty := .boolean) (C := RX2) (T := TX2) (N := 12) hx hb hts nX2_moveLine2_X2 tyX2 tyX2_ok nmX2 hown hK hP hD hS 0 rfl rfl 5 (by decide) k64 (fun _ h9 => h9) rfl (by decide +kernel) (by rcases hz with rfl | rfl <;> rfl) (by rcases hz with rfl | rfl <;> rfl) (Nat.le_of_ble_eq_true rfl) dX2_moveLine2_43 (fun H locs hP hD hS => ?_)
          have hP : va_P D vwCl [(qS, .inr (2, [.ref qF, .int f1, .int f2, .int pn, .int l1, .int p0, .int ot, .int dr, .int wy, .int hp, .int ue, .int uc])), (qF, .inr (0, [.int fr, .int fe]))] H := hP
          have hD : va_D A [(qS, .inr (2, [.ref qF, .int f1, .int f2, .int pn, .int l1, .int p0, .int ot, .int dr, .int wy, .int hp, .int ue, .int uc])), (qF, .inr (0, [.int fr, .int fe]))] := hD
          refine lv_iload hx hb dX2_moveLine2_46 (lv_at hl 0 rfl) ?_
          refine lv_if_eq (tgt := 62) hx hb dX2_moveLine2_48 (by decide) (fun _ => ?_) (fun cc => absurd cc (by decide))
          refine lv_iload hx hb dX2_moveLine2_62 (lv_at hl 0 rfl) ?_
          have hw : ([(qS, .inr (2, [.ref qF, .int f1, .int f2, .int pn, .int l1, .int p0, .int ot, .int dr, .int wy, .int hp, .int ue, .int uc])), (qF, .inr (0, [.int (f_X2_moveLine2_fr f2 l2 wy fr p0), .int fe]))] : va_W) = [(qS, .inr (2, [.ref qF, .int f1, .int f2, .int pn, .int l1, .int p0, .int ot, .int dr, .int wy, .int hp, .int ue, .int uc])), (qF, .inr (0, [.int fr, .int fe]))] := by simp only [f_X2_moveLine2_fr, f_X2_moveLine2_ret, if_pos c_1, if_neg c_2, if_neg c_3, if_neg c_4]
          exact st_retz hx hb hr hlocks (by decide) (by simp only [f_X2_moveLine2_fr, f_X2_moveLine2_ret, if_pos c_1, if_neg c_2, if_neg c_3, if_neg c_4]) (by rw [hw]; exact hP) (by rw [hw]; exact hD) hS dX2_moveLine2_64
        · refine lv_iconst (v := 1) hx hb dX2_moveLine2_34 (by decide) ?_
          refine lv_goto (tgt := 39) hx hb dX2_moveLine2_35 (by decide) ?_
          refine lv_istore (lv' := [(4, .int 1), (3, .int 0), (2, .int (wy >>> ((1 : Int32) &&& (31 : Int32)) : Int32)), (0, .ref qS), (1, .int p0)]) hx hb dX2_moveLine2_39 hl (by decide) rfl (fun ls hl => ?_)
          refine lv_aload_n hx hb dX2_moveLine2_41 rfl (lv_at hl 3 rfl) ?_
          refine lv_iload_n hx hb dX2_moveLine2_42 rfl (lv_at hl 4 rfl) ?_
          refine va_put (D := D) (ci := 2) (v := .int p0) (ty := .boolean) (C := RX2) (T := TX2) (N := 12) hx hb hts nX2_moveLine2_X2 tyX2 tyX2_ok nmX2 hown hK hP hD hS 0 rfl rfl 5 (by decide) k64 (fun _ h9 => h9) rfl (by decide +kernel) (by rcases hz with rfl | rfl <;> rfl) (by rcases hz with rfl | rfl <;> rfl) (Nat.le_of_ble_eq_true rfl) dX2_moveLine2_43 (fun H locs hP hD hS => ?_)
          have hP : va_P D vwCl [(qS, .inr (2, [.ref qF, .int f1, .int f2, .int pn, .int l1, .int p0, .int ot, .int dr, .int wy, .int hp, .int ue, .int uc])), (qF, .inr (0, [.int fr, .int fe]))] H := hP
          have hD : va_D A [(qS, .inr (2, [.ref qF, .int f1, .int f2, .int pn, .int l1, .int p0, .int ot, .int dr, .int wy, .int hp, .int ue, .int uc])), (qF, .inr (0, [.int fr, .int fe]))] := hD
          refine lv_iload hx hb dX2_moveLine2_46 (lv_at hl 0 rfl) ?_
          refine lv_if_eq (tgt := 62) hx hb dX2_moveLine2_48 (by decide) (fun cc => absurd cc (by decide)) (fun _ => ?_)
          refine lv_aload_n hx hb dX2_moveLine2_51 rfl (lv_at hl 3 rfl) ?_
          refine va_get (D := D) (ci := 2) (v := .ref qF) (C := RX2) (T := TX2) (N := 12) hx hb hts nX2_moveLine2_X2 hown hK hP 0 rfl rfl 0 (by decide) k9 (fun _ h9 => h9) rfl dX2_moveLine2_52 ?_
          refine lv_aload_n hx hb dX2_moveLine2_55 rfl (lv_at hl 3 rfl) ?_
          refine va_get (D := D) (ci := 2) (v := .int f2) (C := RX2) (T := TX2) (N := 12) hx hb hts nX2_moveLine2_X2 hown hK hP 0 rfl rfl 2 (by decide) k19 (fun _ h9 => h9) rfl dX2_moveLine2_56 ?_
          refine st_vV (As := [.int f2]) (rest := []) (wc := [(qF, .inr (0, [.int fr, .int fe]))]) (wr := [(qS, .inr (2, [.ref qF, .int f1, .int f2, .int pn, .int l1, .int p0, .int ot, .int dr, .int wy, .int hp, .int ue, .int uc]))]) (w1 := [(qF, .inr (0, [.int (fr ||| f2), .int fe]))]) (wn := [(qS, .inr (2, [.ref qF, .int f1, .int f2, .int pn, .int l1, .int p0, .int ot, .int dr, .int wy, .int hp, .int ue, .int uc])), (qF, .inr (0, [.int (fr ||| f2), .int fe]))]) ⟨hx, hb, hml, hown, hts⟩ (k_X0_raise l D qF fr fe f2) (cwV 1 hts gX2_moveLine2_X0_raise rfl rfl rfl (by decide +kernel) ⟨Nat.le_of_ble_eq_true rfl, Nat.le_of_ble_eq_true rfl⟩) tE_v (fun _ _ => trivial) hK hP hD hS hA (fun hPc => va_recv hK hPc (ci := 0) (q0 := 0) rfl rfl) [1] [0] [0, 1] rfl rfl (by decide) rfl rfl rfl hl.1 (Nat.le_of_ble_eq_true rfl) dX2_moveLine2_59 ⟨Nat.zero_le _, Nat.zero_le _⟩ (fun H locs hP hD hS => ?_)
          refine lv_iload hx hb dX2_moveLine2_62 (lv_at hl 0 rfl) ?_
          have hw : ([(qS, .inr (2, [.ref qF, .int f1, .int f2, .int pn, .int l1, .int p0, .int ot, .int dr, .int wy, .int hp, .int ue, .int uc])), (qF, .inr (0, [.int (f_X2_moveLine2_fr f2 l2 wy fr p0), .int fe]))] : va_W) = [(qS, .inr (2, [.ref qF, .int f1, .int f2, .int pn, .int l1, .int p0, .int ot, .int dr, .int wy, .int hp, .int ue, .int uc])), (qF, .inr (0, [.int (fr ||| f2), .int fe]))] := by simp only [f_X2_moveLine2_fr, f_X2_moveLine2_ret, if_pos c_1, if_neg c_2, if_neg c_3, if_pos c_4]
          exact st_retz hx hb hr hlocks (by decide) (by simp only [f_X2_moveLine2_fr, f_X2_moveLine2_ret, if_pos c_1, if_neg c_2, if_neg c_3, if_pos c_4]) (by rw [hw]; exact hP) (by rw [hw]; exact hD) hS dX2_moveLine2_64
  · refine lv_iconst (v := 1) hx hb dX2_moveLine2_10 (by decide) ?_
    refine lv_goto (tgt := 15) hx hb dX2_moveLine2_11 (by decide) ?_
    refine lv_istore_n (lv' := [(3, .int 1), (2, .int (wy >>> ((1 : Int32) &&& (31 : Int32)) : Int32)), (0, .ref qS), (1, .int p0)]) hx hb dX2_moveLine2_15 rfl hl (by decide) rfl (fun ls hl => ?_)
    refine lv_iload_n hx hb dX2_moveLine2_16 rfl (lv_at hl 1 rfl) ?_
    refine lv_iconst (v := 4) hx hb dX2_moveLine2_17 (by decide) ?_
    refine lv_icmp_ge (tgt := 38) hx hb dX2_moveLine2_18 (by decide) (fun c_5 => ?_) (fun c_5 => ?_)
    · refine lv_iconst (v := 0) hx hb dX2_moveLine2_38 (by decide) ?_
      refine lv_istore (lv' := [(4, .int 0), (3, .int 1), (2, .int (wy >>> ((1 : Int32) &&& (31 : Int32)) : Int32)), (0, .ref qS), (1, .int p0)]) hx hb dX2_moveLine2_39 hl (by decide) rfl (fun ls hl => ?_)
      refine lv_aload_n hx hb dX2_moveLine2_41 rfl (lv_at hl 3 rfl) ?_
      refine lv_iload_n hx hb dX2_moveLine2_42 rfl (lv_at hl 4 rfl) ?_
      refine va_put (D := D) (ci := 2) (v := .int p0) (ty := .boolean) (C := RX2) (T := TX2) (N := 12) hx hb hts nX2_moveLine2_X2 tyX2 tyX2_ok nmX2 hown hK hP hD hS 0 rfl rfl 5 (by decide) k64 (fun _ h9 => h9) rfl (by decide +kernel) (by rcases hz with rfl | rfl <;> rfl) (by rcases hz with rfl | rfl <;> rfl) (Nat.le_of_ble_eq_true rfl) dX2_moveLine2_43 (fun H locs hP hD hS => ?_)
      have hP : va_P D vwCl [(qS, .inr (2, [.ref qF, .int f1, .int f2, .int pn, .int l1, .int p0, .int ot, .int dr, .int wy, .int hp, .int ue, .int uc])), (qF, .inr (0, [.int fr, .int fe]))] H := hP
      have hD : va_D A [(qS, .inr (2, [.ref qF, .int f1, .int f2, .int pn, .int l1, .int p0, .int ot, .int dr, .int wy, .int hp, .int ue, .int uc])), (qF, .inr (0, [.int fr, .int fe]))] := hD
      refine lv_iload hx hb dX2_moveLine2_46 (lv_at hl 0 rfl) ?_
      refine lv_if_eq (tgt := 62) hx hb dX2_moveLine2_48 (by decide) (fun _ => ?_) (fun cc => absurd cc (by decide))
      refine lv_iload hx hb dX2_moveLine2_62 (lv_at hl 0 rfl) ?_
      have hw : ([(qS, .inr (2, [.ref qF, .int f1, .int f2, .int pn, .int l1, .int p0, .int ot, .int dr, .int wy, .int hp, .int ue, .int uc])), (qF, .inr (0, [.int (f_X2_moveLine2_fr f2 l2 wy fr p0), .int fe]))] : va_W) = [(qS, .inr (2, [.ref qF, .int f1, .int f2, .int pn, .int l1, .int p0, .int ot, .int dr, .int wy, .int hp, .int ue, .int uc])), (qF, .inr (0, [.int fr, .int fe]))] := by simp only [f_X2_moveLine2_fr, f_X2_moveLine2_ret, if_neg c_1, if_pos c_5]
      exact st_retz hx hb hr hlocks (by decide) (by simp only [f_X2_moveLine2_fr, f_X2_moveLine2_ret, if_neg c_1, if_pos c_5]) (by rw [hw]; exact hP) (by rw [hw]; exact hD) hS dX2_moveLine2_64
    · refine lv_iload_n hx hb dX2_moveLine2_21 rfl (lv_at hl 3 rfl) ?_
      refine lv_aload_n hx hb dX2_moveLine2_22 rfl (lv_at hl 2 rfl) ?_
      refine va_get (D := D) (ci := 2) (v := .int l2) (C := RX2) (T := TX2) (N := 12) hx hb hts nX2_moveLine2_X2 hown hK hP 0 rfl rfl 5 (by decide) k64 (fun _ h9 => h9) rfl dX2_moveLine2_23 ?_
      refine lv_icmp_eq (tgt := 38) hx hb dX2_moveLine2_26 (by decide) (fun c_6 => ?_) (fun c_6 => ?_)
      · refine lv_iconst (v := 0) hx hb dX2_moveLine2_38 (by decide) ?_
        refine lv_istore (lv' := [(4, .int 0), (3, .int 1), (2, .int (wy >>> ((1 : Int32) &&& (31 : Int32)) : Int32)), (0, .ref qS), (1, .int p0)]) hx hb dX2_moveLine2_39 hl (by decide) rfl (fun ls hl => ?_)
        refine lv_aload_n hx hb dX2_moveLine2_41 rfl (lv_at hl 3 rfl) ?_
        refine lv_iload_n hx hb dX2_moveLine2_42 rfl (lv_at hl 4 rfl) ?_
        refine va_put (D := D) (ci := 2) (v := .int p0) (ty := .boolean) (C := RX2) (T := TX2) (N := 12) hx hb hts nX2_moveLine2_X2 tyX2 tyX2_ok nmX2 hown hK hP hD hS 0 rfl rfl 5 (by decide) k64 (fun _ h9 => h9) rfl (by decide +kernel) (by rcases hz with rfl | rfl <;> rfl) (by rcases hz with rfl | rfl <;> rfl) (Nat.le_of_ble_eq_true rfl) dX2_moveLine2_43 (fun H locs hP hD hS => ?_)
        have hP : va_P D vwCl [(qS, .inr (2, [.ref qF, .int f1, .int f2, .int pn, .int l1, .int p0, .int ot, .int dr, .int wy, .int hp, .int ue, .int uc])), (qF, .inr (0, [.int fr, .int fe]))] H := hP
        have hD : va_D A [(qS, .inr (2, [.ref qF, .int f1, .int f2, .int pn, .int l1, .int p0, .int ot, .int dr, .int wy, .int hp, .int ue, .int uc])), (qF, .inr (0, [.int fr, .int fe]))] := hD
        refine lv_iload hx hb dX2_moveLine2_46 (lv_at hl 0 rfl) ?_
        refine lv_if_eq (tgt := 62) hx hb dX2_moveLine2_48 (by decide) (fun _ => ?_) (fun cc => absurd cc (by decide))
        refine lv_iload hx hb dX2_moveLine2_62 (lv_at hl 0 rfl) ?_
        have hw : ([(qS, .inr (2, [.ref qF, .int f1, .int f2, .int pn, .int l1, .int p0, .int ot, .int dr, .int wy, .int hp, .int ue, .int uc])), (qF, .inr (0, [.int (f_X2_moveLine2_fr f2 l2 wy fr p0), .int fe]))] : va_W) = [(qS, .inr (2, [.ref qF, .int f1, .int f2, .int pn, .int l1, .int p0, .int ot, .int dr, .int wy, .int hp, .int ue, .int uc])), (qF, .inr (0, [.int fr, .int fe]))] := by simp only [f_X2_moveLine2_fr, f_X2_moveLine2_ret, if_neg c_1, if_neg c_5, if_pos c_6]
        exact st_retz hx hb hr hlocks (by decide) (by simp only [f_X2_moveLine2_fr, f_X2_moveLine2_ret, if_neg c_1, if_neg c_5, if_pos c_6]) (by rw [hw]; exact hP) (by rw [hw]; exact hD) hS dX2_moveLine2_64
      · refine lv_iload_n hx hb dX2_moveLine2_29 rfl (lv_at hl 3 rfl) ?_
        refine lv_iload_n hx hb dX2_moveLine2_30 rfl (lv_at hl 0 rfl) ?_
        refine lv_icmp_ne (tgt := 38) hx hb dX2_moveLine2_31 (by decide) (fun c_7 => ?_) (fun c_7 => ?_)
        · refine lv_iconst (v := 0) hx hb dX2_moveLine2_38 (by decide) ?_
          refine lv_istore (lv' := [(4, .int 0), (3, .int 1), (2, .int (wy >>> ((1 : Int32) &&& (31 : Int32)) : Int32)), (0, .ref qS), (1, .int p0)]) hx hb dX2_moveLine2_39 hl (by decide) rfl (fun ls hl => ?_)
          refine lv_aload_n hx hb dX2_moveLine2_41 rfl (lv_at hl 3 rfl) ?_
          refine lv_iload_n hx hb dX2_moveLine2_42 rfl (lv_at hl 4 rfl) ?_
          refine va_put (D := D) (ci := 2) (v := .int p0) (ty := .boolean) (C := RX2) (T := TX2) (N := 12) hx hb hts nX2_moveLine2_X2 tyX2 tyX2_ok nmX2 hown hK hP hD hS 0 rfl rfl 5 (by decide) k64 (fun _ h9 => h9) rfl (by decide +kernel) (by rcases hz with rfl | rfl <;> rfl) (by rcases hz with rfl | rfl <;> rfl) (Nat.le_of_ble_eq_true rfl) dX2_moveLine2_43 (fun H locs hP hD hS => ?_)
          have hP : va_P D vwCl [(qS, .inr (2, [.ref qF, .int f1, .int f2, .int pn, .int l1, .int p0, .int ot, .int dr, .int wy, .int hp, .int ue, .int uc])), (qF, .inr (0, [.int fr, .int fe]))] H := hP
          have hD : va_D A [(qS, .inr (2, [.ref qF, .int f1, .int f2, .int pn, .int l1, .int p0, .int ot, .int dr, .int wy, .int hp, .int ue, .int uc])), (qF, .inr (0, [.int fr, .int fe]))] := hD
          refine lv_iload hx hb dX2_moveLine2_46 (lv_at hl 0 rfl) ?_
          refine lv_if_eq (tgt := 62) hx hb dX2_moveLine2_48 (by decide) (fun _ => ?_) (fun cc => absurd cc (by decide))
          refine lv_iload hx hb dX2_moveLine2_62 (lv_at hl 0 rfl) ?_
          have hw : ([(qS, .inr (2, [.ref qF, .int f1, .int f2, .int pn, .int l1, .int p0, .int ot, .int dr, .int wy, .int hp, .int ue, .int uc])), (qF, .inr (0, [.int (f_X2_moveLine2_fr f2 l2 wy fr p0), .int fe]))] : va_W) = [(qS, .inr (2, [.ref qF, .int f1, .int f2, .int pn, .int l1, .int p0, .int ot, .int dr, .int wy, .int hp, .int ue, .int uc])), (qF, .inr (0, [.int fr, .int fe]))] := by simp only [f_X2_moveLine2_fr, f_X2_moveLine2_ret, if_neg c_1, if_neg c_5, if_neg c_6, if_neg c_7]
          exact st_retz hx hb hr hlocks (by decide) (by simp only [f_X2_moveLine2_fr, f_X2_moveLine2_ret, if_neg c_1, if_neg c_5, if_neg c_6, if_neg c_7]) (by rw [hw]; exact hP) (by rw [hw]; exact hD) hS dX2_moveLine2_64
        · refine lv_iconst (v := 1) hx hb dX2_moveLine2_34 (by decide) ?_
          refine lv_goto (tgt := 39) hx hb dX2_moveLine2_35 (by decide) ?_
          refine lv_istore (lv' := [(4, .int 1), (3, .int 1), (2, .int (wy >>> ((1 : Int32) &&& (31 : Int32)) : Int32)), (0, .ref qS), (1, .int p0)]) hx hb dX2_moveLine2_39 hl (by decide) rfl (fun ls hl => ?_)
          refine lv_aload_n hx hb dX2_moveLine2_41 rfl (lv_at hl 3 rfl) ?_
          refine lv_iload_n hx hb dX2_moveLine2_42 rfl (lv_at hl 4 rfl) ?_
          refine va_put (D := D) (ci := 2) (v := .int p0) (ty := .boolean) (C := RX2) (T := TX2) (N := 12) hx hb hts nX2_moveLine2_X2 tyX2 tyX2_ok nmX2 hown hK hP hD hS 0 rfl rfl 5 (by decide) k64 (fun _ h9 => h9) rfl (by decide +kernel) (by rcases hz with rfl | rfl <;> rfl) (by rcases hz with rfl | rfl <;> rfl) (Nat.le_of_ble_eq_true rfl) dX2_moveLine2_43 (fun H locs hP hD hS => ?_)
          have hP : va_P D vwCl [(qS, .inr (2, [.ref qF, .int f1, .int f2, .int pn, .int l1, .int p0, .int ot, .int dr, .int wy, .int hp, .int ue, .int uc])), (qF, .inr (0, [.int fr, .int fe]))] H := hP
          have hD : va_D A [(qS, .inr (2, [.ref qF, .int f1, .int f2, .int pn, .int l1, .int p0, .int ot, .int dr, .int wy, .int hp, .int ue, .int uc])), (qF, .inr (0, [.int fr, .int fe]))] := hD
          refine lv_iload hx hb dX2_moveLine2_46 (lv_at hl 0 rfl) ?_
          refine lv_if_eq (tgt := 62) hx hb dX2_moveLine2_48 (by decide) (fun cc => absurd cc (by decide)) (fun _ => ?_)
          refine lv_aload_n hx hb dX2_moveLine2_51 rfl (lv_at hl 3 rfl) ?_
          refine va_get (D := D) (ci := 2) (v := .ref qF) (C := RX2) (T := TX2) (N := 12) hx hb hts nX2_moveLine2_X2 hown hK hP 0 rfl rfl 0 (by decide) k9 (fun _ h9 => h9) rfl dX2_moveLine2_52 ?_
          refine lv_aload_n hx hb dX2_moveLine2_55 rfl (lv_at hl 3 rfl) ?_
          refine va_get (D := D) (ci := 2) (v := .int f2) (C := RX2) (T := TX2) (N := 12) hx hb hts nX2_moveLine2_X2 hown hK hP 0 rfl rfl 2 (by decide) k19 (fun _ h9 => h9) rfl dX2_moveLine2_56 ?_
          refine st_vV (As := [.int f2]) (rest := []) (wc := [(qF, .inr (0, [.int fr, .int fe]))]) (wr := [(qS, .inr (2, [.ref qF, .int f1, .int f2, .int pn, .int l1, .int p0, .int ot, .int dr, .int wy, .int hp, .int ue, .int uc]))]) (w1 := [(qF, .inr (0, [.int (fr ||| f2), .int fe]))]) (wn := [(qS, .inr (2, [.ref qF, .int f1, .int f2, .int pn, .int l1, .int p0, .int ot, .int dr, .int wy, .int hp, .int ue, .int uc])), (qF, .inr (0, [.int (fr ||| f2), .int fe]))]) ⟨hx, hb, hml, hown, hts⟩ (k_X0_raise l D qF fr fe f2) (cwV 1 hts gX2_moveLine2_X0_raise rfl rfl rfl (by decide +kernel) ⟨Nat.le_of_ble_eq_true rfl, Nat.le_of_ble_eq_true rfl⟩) tE_v (fun _ _ => trivial) hK hP hD hS hA (fun hPc => va_recv hK hPc (ci := 0) (q0 := 0) rfl rfl) [1] [0] [0, 1] rfl rfl (by decide) rfl rfl rfl hl.1 (Nat.le_of_ble_eq_true rfl) dX2_moveLine2_59 ⟨Nat.zero_le _, Nat.zero_le _⟩ (fun H locs hP hD hS => ?_)
          refine lv_iload hx hb dX2_moveLine2_62 (lv_at hl 0 rfl) ?_
          have hw : ([(qS, .inr (2, [.ref qF, .int f1, .int f2, .int pn, .int l1, .int p0, .int ot, .int dr, .int wy, .int hp, .int ue, .int uc])), (qF, .inr (0, [.int (f_X2_moveLine2_fr f2 l2 wy fr p0), .int fe]))] : va_W) = [(qS, .inr (2, [.ref qF, .int f1, .int f2, .int pn, .int l1, .int p0, .int ot, .int dr, .int wy, .int hp, .int ue, .int uc])), (qF, .inr (0, [.int (fr ||| f2), .int fe]))] := by simp only [f_X2_moveLine2_fr, f_X2_moveLine2_ret, if_neg c_1, if_neg c_5, if_neg c_6, if_pos c_7]
          exact st_retz hx hb hr hlocks (by decide) (by simp only [f_X2_moveLine2_fr, f_X2_moveLine2_ret, if_neg c_1, if_neg c_5, if_neg c_6, if_pos c_7]) (by rw [hw]; exact hP) (by rw [hw]; exact hD) hS dX2_moveLine2_64
def f_X2_line2Gives_ret (wy ue uc : Int32) : Int32 := if (4 : Int32) ≤ (wy >>> ((1 : Int32) &&& (31 : Int32)) : Int32) then (if (wy >>> ((1 : Int32) &&& (31 : Int32)) : Int32) = 4 then (if ue = 0 then 1 else 0) else (if (wy >>> ((1 : Int32) &&& (31 : Int32)) : Int32) = 5 then (if uc = 0 then 1 else 0) else (if (wy >>> ((1 : Int32) &&& (31 : Int32)) : Int32) = 6 then 0 else 1))) else 2
theorem nX2_line2Gives_X2 : ∀ w ∈ wsX20, w ∈ wsX2_line2Gives := fun w h => List.mem_cons_of_mem _ (List.mem_append_right _ h)
set_option maxHeartbeats 4000000 in
set_option maxRecDepth 100000 in
theorem k_X2_line2Gives (l : Launch) (D : va_G) (qS qF : Nat) (f1 f2 pn l1 l2 ot dr wy hp ue uc : Int32) : stI l yX2_line2Gives wsX2_line2Gives ({ frames := 1, cells := 0, slots := 0, locals := 20 } : Room) D [] tE [.ref qS] [(qS, .inr (2, [.ref qF, .int f1, .int f2, .int pn, .int l1, .int l2, .int ot, .int dr, .int wy, .int hp, .int ue, .int uc]))] [(qS, .inr (2, [.ref qF, .int f1, .int f2, .int pn, .int l1, .int l2, .int ot, .int dr, .int wy, .int hp, .int ue, .int uc]))] (f_X2_line2Gives_ret wy ue uc) := by
  intro sz
  refine Met.ofW (cc := cX2_line2Gives) (maxL := 3) (ret := (some .int)) (by decide) rfl ?_
  intro p e s m args below meth c s₁ B hml hv
  obtain ⟨rfl, rfl, hP, hK, hD, hE⟩ := st_open hv
  have hx := B.exec
  have hb := B.bytes
  have hr := B.returns
  have hts := atoms_spec (ws := wsX2_line2Gives) B.pre
  have hown : s.vm.findClass RX2 = some m.cls := findClass_of_methodNamed B.named
  have hlocks := B.notSynchronized
  generalize hAe : va_A [(qS, .inr (2, [.ref qF, .int f1, .int f2, .int pn, .int l1, .int l2, .int ot, .int dr, .int wy, .int hp, .int ue, .int uc]))] s.heap.size = A at hD ⊢
  have hA : ∀ q : Nat, s.heap.size ≤ q → A q := fun q h => by rw [← hAe]; exact Or.inr h
  have hS : va_S A s.heap s.heap [] := va_S.rf
  have k34 := hts (.fieldLink RX2 34 "PortTimers$Side" "lowUntilEdge" "Z") (by decide +kernel)
  have k38 := hts (.fieldLink RX2 38 "PortTimers$Side" "lowUntilCycle" "Z") (by decide +kernel)
  have hl := lv_entry ([.ref qS]) (n := 3) (Nat.le_of_ble_eq_true rfl)
  rw [lg_entry_eq]
  generalize (lg_sl ([.ref qS]) ++ List.replicate (3 - (lg_sl ([.ref qS])).length) Slot.unset).toArray = ls at hl ⊢
  have hl : lv_has ls 3 [(0, .ref qS)] := hl
  refine lv_aload_n hx hb dX2_line2Gives_0 rfl (lv_at hl 0 rfl) ?_
  refine st_iV (As := []) (rest := []) (wc := [(qS, .inr (2, [.ref qF, .int f1, .int f2, .int pn, .int l1, .int l2, .int ot, .int dr, .int wy, .int hp, .int ue, .int uc]))]) (wr := []) (w1 := [(qS, .inr (2, [.ref qF, .int f1, .int f2, .int pn, .int l1, .int l2, .int ot, .int dr, .int wy, .int hp, .int ue, .int uc]))]) (wn := [(qS, .inr (2, [.ref qF, .int f1, .int f2, .int pn, .int l1, .int l2, .int ot, .int dr, .int wy, .int hp, .int ue, .int uc]))]) (r := (wy >>> ((1 : Int32) &&& (31 : Int32)) : Int32)) ⟨hx, hb, hml, hown, hts⟩ (k_X2_wayOfLine2 l D qS qF f1 f2 pn l1 l2 ot dr wy hp ue uc) (cwV 0 hts gX2_line2Gives_X2_wayOfLine2 rfl rfl rfl (by decide +kernel) ⟨Nat.le_of_ble_eq_true rfl, Nat.le_of_ble_eq_true rfl⟩) tE_v (fun _ _ => trivial) hK hP hD hS hA (fun hPc => va_recv hK hPc (ci := 2) (q0 := 0) rfl rfl) [0] [] [0] rfl rfl (by decide) rfl rfl rfl hl.1 (Nat.le_of_ble_eq_true rfl) dX2_line2Gives_1 ⟨Nat.zero_le _, Nat.zero_le _⟩ (fun H locs hP hD hS => ?_)
  refine lv_istore_n (lv' := [(1, .int (wy >>> ((1 : Int32) &&& (31 : Int32)) : Int32)), (0, .ref qS)]) hx hb dX2_line2Gives_4 rfl hl (by decide) rfl (fun ls hl => ?_)
  refine lv_iload_n hx hb dX2_line2Gives_5 rfl (lv_at hl 0 rfl) ?_
  refine lv_iconst (v := 4) hx hb dX2_line2Gives_6 (by decide) ?_
  refine lv_icmp_ge (tgt := 12) hx hb dX2_line2Gives_7 (by decide) (fun c_1 => ?_) (fun c_1 => ?_)
  · refine lv_iload_n hx hb dX2_line2Gives_12 rfl (lv_at hl 0 rfl) ?_
    refine lv_iconst (v := 4) hx hb dX2_line2Gives_13 (by decide) ?_
    refine lv_icmp_ne (tgt := 24) hx hb dX2_line2Gives_14 (by decide) (fun c_2 => ?_) (fun c_2 => ?_)
    · refine lv_iload_n hx hb dX2_line2Gives_24 rfl (lv_at hl 0 rfl) ?_
      refine lv_iconst (v := 5) hx hb dX2_line2Gives_25 (by decide) ?_
      refine lv_icmp_ne (tgt := 36) hx hb dX2_line2Gives_26 (by decide) (fun c_3 => ?_) (fun c_3 => ?_)
      · refine lv_iload_n hx hb dX2_line2Gives_36 rfl (lv_at hl 0 rfl) ?_
        refine lv_bipush (v := 6) hx hb dX2_line2Gives_37 (by decide) ?_
        refine lv_icmp_ne (tgt := 46) hx hb dX2_line2Gives_39 (by decide) (fun c_4 => ?_) (fun c_4 => ?_)
        · refine lv_iconst (v := 0) hx hb dX2_line2Gives_46 (by decide) ?_
          refine lv_istore_n (lv' := [(2, .int 0), (1, .int (wy >>> ((1 : Int32) &&& (31 : Int32)) : Int32)), (0, .ref qS)]) hx hb dX2_line2Gives_47 rfl hl (by decide) rfl (fun ls hl => ?_)
          refine lv_iload_n hx hb dX2_line2Gives_48 rfl (lv_at hl 0 rfl) ?_
          refine lv_if_eq (tgt := 56) hx hb dX2_line2Gives_49 (by decide) (fun _ => ?_) (fun cc => absurd cc (by decide))
          refine lv_iconst (v := 1) hx hb dX2_line2Gives_56 (by decide) ?_
          exact st_reti hx hb hr hlocks (by simp only [f_X2_line2Gives_ret, if_pos c_1, if_neg c_2, if_neg c_3, if_neg c_4]) hP hD hS dX2_line2Gives_57
        · refine lv_iconst (v := 1) hx hb dX2_line2Gives_42 (by decide) ?_
          refine lv_goto (tgt := 47) hx hb dX2_line2Gives_43 (by decide) ?_
          refine lv_istore_n (lv' := [(2, .int 1), (1, .int (wy >>> ((1 : Int32) &&& (31 : Int32)) : Int32)), (0, .ref qS)]) hx hb dX2_line2Gives_47 rfl hl (by decide) rfl (fun ls hl => ?_)
          refine lv_iload_n hx hb dX2_line2Gives_48 rfl (lv_at hl 0 rfl) ?_
          refine lv_if_eq (tgt := 56) hx hb dX2_line2Gives_49 (by decide) (fun cc => absurd cc (by decide)) (fun _ => ?_)
          refine lv_iconst (v := 0) hx hb dX2_line2Gives_52 (by decide) ?_
          refine lv_goto (tgt := 57) hx hb dX2_line2Gives_53 (by decide) ?_
          exact st_reti hx hb hr hlocks (by simp only [f_X2_line2Gives_ret, if_pos c_1, if_neg c_2, if_neg c_3, if_pos c_4]) hP hD hS dX2_line2Gives_57
      · refine lv_aload_n hx hb dX2_line2Gives_29 rfl (lv_at hl 1 rfl) ?_
        refine va_get (D := D) (ci := 2) (v := .int uc) (C := RX2) (T := TX2) (N := 12) hx hb hts nX2_line2Gives_X2 hown hK hP 0 rfl rfl 11 (by decide) k38 (fun _ h9 => h9) rfl dX2_line2Gives_30 ?_
        refine lv_if_ne (tgt := 42) hx hb dX2_line2Gives_33 (by decide) (fun c_5 => ?_) (fun c_5 => ?_)
        · refine lv_iconst (v := 1) hx hb dX2_line2Gives_42 (by decide) ?_
          refine lv_goto (tgt := 47) hx hb dX2_line2Gives_43 (by decide) ?_
          refine lv_istore_n (lv' := [(2, .int 1), (1, .int (wy >>> ((1 : Int32) &&& (31 : Int32)) : Int32)), (0, .ref qS)]) hx hb dX2_line2Gives_47 rfl hl (by decide) rfl (fun ls hl => ?_)
          refine lv_iload_n hx hb dX2_line2Gives_48 rfl (lv_at hl 0 rfl) ?_
          refine lv_if_eq (tgt := 56) hx hb dX2_line2Gives_49 (by decide) (fun cc => absurd cc (by decide)) (fun _ => ?_)
          refine lv_iconst (v := 0) hx hb dX2_line2Gives_52 (by decide) ?_
          refine lv_goto (tgt := 57) hx hb dX2_line2Gives_53 (by decide) ?_
          exact st_reti hx hb hr hlocks (by simp only [f_X2_line2Gives_ret, if_pos c_1, if_neg c_2, if_pos c_3, if_neg c_5]) hP hD hS dX2_line2Gives_57
        · refine lv_iload_n hx hb dX2_line2Gives_36 rfl (lv_at hl 0 rfl) ?_
          refine lv_bipush (v := 6) hx hb dX2_line2Gives_37 (by decide) ?_
          refine lv_icmp_ne (tgt := 46) hx hb dX2_line2Gives_39 (by decide) (fun _ => ?_) (fun cc => absurd cc (fun cc => absurd (c_3.symm.trans cc) (by decide)))
          refine lv_iconst (v := 0) hx hb dX2_line2Gives_46 (by decide) ?_
          refine lv_istore_n (lv' := [(2, .int 0), (1, .int (wy >>> ((1 : Int32) &&& (31 : Int32)) : Int32)), (0, .ref qS)]) hx hb dX2_line2Gives_47 rfl hl (by decide) rfl (fun ls hl => ?_)
          refine lv_iload_n hx hb dX2_line2Gives_48 rfl (lv_at hl 0 rfl) ?_
          refine lv_if_eq (tgt := 56) hx hb dX2_line2Gives_49 (by decide) (fun _ => ?_) (fun cc => absurd cc (by decide))
          refine lv_iconst (v := 1) hx hb dX2_line2Gives_56 (by decide) ?_
          exact st_reti hx hb hr hlocks (by simp only [f_X2_line2Gives_ret, if_pos c_1, if_neg c_2, if_pos c_3, if_pos c_5]) hP hD hS dX2_line2Gives_57
    · refine lv_aload_n hx hb dX2_line2Gives_17 rfl (lv_at hl 1 rfl) ?_
      refine va_get (D := D) (ci := 2) (v := .int ue) (C := RX2) (T := TX2) (N := 12) hx hb hts nX2_line2Gives_X2 hown hK hP 0 rfl rfl 10 (by decide) k34 (fun _ h9 => h9) rfl dX2_line2Gives_18 ?_
      refine lv_if_ne (tgt := 42) hx hb dX2_line2Gives_21 (by decide) (fun c_6 => ?_) (fun c_6 => ?_)
      · refine lv_iconst (v := 1) hx hb dX2_line2Gives_42 (by decide) ?_
        refine lv_goto (tgt := 47) hx hb dX2_line2Gives_43 (by decide) ?_
        refine lv_istore_n (lv' := [(2, .int 1), (1, .int (wy >>> ((1 : Int32) &&& (31 : Int32)) : Int32)), (0, .ref qS)]) hx hb dX2_line2Gives_47 rfl hl (by decide) rfl (fun ls hl => ?_)
        refine lv_iload_n hx hb dX2_line2Gives_48 rfl (lv_at hl 0 rfl) ?_
        refine lv_if_eq (tgt := 56) hx hb dX2_line2Gives_49 (by decide) (fun cc => absurd cc (by decide)) (fun _ => ?_)
        refine lv_iconst (v := 0) hx hb dX2_line2Gives_52 (by decide) ?_
        refine lv_goto (tgt := 57) hx hb dX2_line2Gives_53 (by decide) ?_
        exact st_reti hx hb hr hlocks (by simp only [f_X2_line2Gives_ret, if_pos c_1, if_pos c_2, if_neg c_6]) hP hD hS dX2_line2Gives_57
      · refine lv_iload_n hx hb dX2_line2Gives_24 rfl (lv_at hl 0 rfl) ?_
        refine lv_iconst (v := 5) hx hb dX2_line2Gives_25 (by decide) ?_
        refine lv_icmp_ne (tgt := 36) hx hb dX2_line2Gives_26 (by decide) (fun _ => ?_) (fun cc => absurd cc (fun cc => absurd (c_2.symm.trans cc) (by decide)))
        refine lv_iload_n hx hb dX2_line2Gives_36 rfl (lv_at hl 0 rfl) ?_
        refine lv_bipush (v := 6) hx hb dX2_line2Gives_37 (by decide) ?_
        refine lv_icmp_ne (tgt := 46) hx hb dX2_line2Gives_39 (by decide) (fun _ => ?_) (fun cc => absurd cc (fun cc => absurd (c_2.symm.trans cc) (by decide)))
        refine lv_iconst (v := 0) hx hb dX2_line2Gives_46 (by decide) ?_
        refine lv_istore_n (lv' := [(2, .int 0), (1, .int (wy >>> ((1 : Int32) &&& (31 : Int32)) : Int32)), (0, .ref qS)]) hx hb dX2_line2Gives_47 rfl hl (by decide) rfl (fun ls hl => ?_)
        refine lv_iload_n hx hb dX2_line2Gives_48 rfl (lv_at hl 0 rfl) ?_
        refine lv_if_eq (tgt := 56) hx hb dX2_line2Gives_49 (by decide) (fun _ => ?_) (fun cc => absurd cc (by decide))
        refine lv_iconst (v := 1) hx hb dX2_line2Gives_56 (by decide) ?_
        exact st_reti hx hb hr hlocks (by simp only [f_X2_line2Gives_ret, if_pos c_1, if_pos c_2, if_pos c_6]) hP hD hS dX2_line2Gives_57
  · refine lv_iconst (v := 2) hx hb dX2_line2Gives_10 (by decide) ?_
    exact st_reti hx hb hr hlocks (by simp only [f_X2_line2Gives_ret, if_neg c_1]) hP hD hS dX2_line2Gives_11
