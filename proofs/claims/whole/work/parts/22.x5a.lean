def f_X5_isByte_ret (p0 : Int32) : Int32 := if p0 < 0 then 0 else (if (255 : Int32) < p0 then 0 else 1)
theorem z_X5_isByte (p0 : Int32) : f_X5_isByte_ret p0 = 0 ∨ f_X5_isByte_ret p0 = 1 := by
  unfold f_X5_isByte_ret
  (repeat' split) <;> decide
set_option maxHeartbeats 4000000 in
set_option maxRecDepth 100000 in
theorem k_X5_isByte (l : Launch) (D : va_G) (p0 : Int32) : stI l yX5_isByte wsX5_isByte ({ frames := 0, cells := 0, slots := 0, locals := 0 } : Room) D [] tE [.int p0] [] [] (f_X5_isByte_ret p0) := by
  intro sz
  refine Met.ofW (cc := cX5_isByte) (maxL := 1) (ret := (some .boolean)) (by decide) rfl ?_
  intro p e s m args below meth c s₁ B hml hv
  obtain ⟨rfl, rfl, hP, hK, hD, hE⟩ := st_open hv
  have hx := B.exec
  have hb := B.bytes
  have hr := B.returns
  have hts := atoms_spec (ws := wsX5_isByte) B.pre
  have hown : s.vm.findClass RX5 = some m.cls := findClass_of_methodNamed B.named
  have hlocks := B.notSynchronized
  generalize hAe : va_A [] s.heap.size = A at hD ⊢
  have hA : ∀ q : Nat, s.heap.size ≤ q → A q := fun q h => by rw [← hAe]; exact Or.inr h
  have hS : va_S A s.heap s.heap [] := va_S.rf
  have hl := lv_entry ([.int p0]) (n := 1) (Nat.le_of_ble_eq_true rfl)
  rw [lg_entry_eq]
  generalize (lg_sl ([.int p0]) ++ List.replicate (1 - (lg_sl ([.int p0])).length) Slot.unset).toArray = ls at hl ⊢
  have hl : lv_has ls 1 [(0, .int p0)] := hl
  refine lv_iload_n hx hb dX5_isByte_0 rfl (lv_at hl 0 rfl) ?_
  refine lv_if_lt (tgt := 15) hx hb dX5_isByte_1 (by decide) (fun c_1 => ?_) (fun c_1 => ?_)
  · refine lv_iconst (v := 0) hx hb dX5_isByte_15 (by decide) ?_
    exact st_retz hx hb hr hlocks (by decide) (by simp only [f_X5_isByte_ret, if_pos c_1]) hP hD hS dX5_isByte_16
  · refine lv_iload_n hx hb dX5_isByte_4 rfl (lv_at hl 0 rfl) ?_
    refine lv_sipush (v := 255) hx hb dX5_isByte_5 (by decide) ?_
    refine lv_icmp_gt (tgt := 15) hx hb dX5_isByte_8 (by decide) (fun c_2 => ?_) (fun c_2 => ?_)
    · refine lv_iconst (v := 0) hx hb dX5_isByte_15 (by decide) ?_
      exact st_retz hx hb hr hlocks (by decide) (by simp only [f_X5_isByte_ret, if_neg c_1, if_pos c_2]) hP hD hS dX5_isByte_16
    · refine lv_iconst (v := 1) hx hb dX5_isByte_11 (by decide) ?_
      refine lv_goto (tgt := 16) hx hb dX5_isByte_12 (by decide) ?_
      exact st_retz hx hb hr hlocks (by decide) (by simp only [f_X5_isByte_ret, if_neg c_1, if_neg c_2]) hP hD hS dX5_isByte_16
set_option maxHeartbeats 4000000 in
set_option maxRecDepth 100000 in
theorem k_X5_lowByte (l : Launch) (D : va_G) (p0 : Int32) : stI l yX5_lowByte wsX5_lowByte ({ frames := 0, cells := 0, slots := 0, locals := 0 } : Room) D [] tE [.int p0] [] [] ((p0 &&& (255 : Int32))) := by
  intro sz
  refine Met.ofW (cc := cX5_lowByte) (maxL := 1) (ret := (some .int)) (by decide) rfl ?_
  intro p e s m args below meth c s₁ B hml hv
  obtain ⟨rfl, rfl, hP, hK, hD, hE⟩ := st_open hv
  have hx := B.exec
  have hb := B.bytes
  have hr := B.returns
  have hts := atoms_spec (ws := wsX5_lowByte) B.pre
  have hown : s.vm.findClass RX5 = some m.cls := findClass_of_methodNamed B.named
  have hlocks := B.notSynchronized
  generalize hAe : va_A [] s.heap.size = A at hD ⊢
  have hA : ∀ q : Nat, s.heap.size ≤ q → A q := fun q h => by rw [← hAe]; exact Or.inr h
  have hS : va_S A s.heap s.heap [] := va_S.rf
  have hl := lv_entry ([.int p0]) (n := 1) (Nat.le_of_ble_eq_true rfl)
  rw [lg_entry_eq]
  generalize (lg_sl ([.int p0]) ++ List.replicate (1 - (lg_sl ([.int p0])).length) Slot.unset).toArray = ls at hl ⊢
  have hl : lv_has ls 1 [(0, .int p0)] := hl
  refine lv_iload_n hx hb dX5_lowByte_0 rfl (lv_at hl 0 rfl) ?_
  refine lv_sipush (v := 255) hx hb dX5_lowByte_1 (by decide) ?_
  refine lv_iand hx hb dX5_lowByte_4 ?_
  exact st_reti hx hb hr hlocks (by rfl) hP hD hS dX5_lowByte_5
set_option maxHeartbeats 4000000 in
set_option maxRecDepth 100000 in
theorem k_X5_highByte (l : Launch) (D : va_G) (p0 : Int32) : stI l yX5_highByte wsX5_highByte ({ frames := 0, cells := 0, slots := 0, locals := 0 } : Room) D [] tE [.int p0] [] [] ((p0 >>> ((8 : Int32) &&& (31 : Int32)) : Int32)) := by
  intro sz
  refine Met.ofW (cc := cX5_highByte) (maxL := 1) (ret := (some .int)) (by decide) rfl ?_
  intro p e s m args below meth c s₁ B hml hv
  obtain ⟨rfl, rfl, hP, hK, hD, hE⟩ := st_open hv
  have hx := B.exec
  have hb := B.bytes
  have hr := B.returns
  have hts := atoms_spec (ws := wsX5_highByte) B.pre
  have hown : s.vm.findClass RX5 = some m.cls := findClass_of_methodNamed B.named
  have hlocks := B.notSynchronized
  generalize hAe : va_A [] s.heap.size = A at hD ⊢
  have hA : ∀ q : Nat, s.heap.size ≤ q → A q := fun q h => by rw [← hAe]; exact Or.inr h
  have hS : va_S A s.heap s.heap [] := va_S.rf
  have hl := lv_entry ([.int p0]) (n := 1) (Nat.le_of_ble_eq_true rfl)
  rw [lg_entry_eq]
  generalize (lg_sl ([.int p0]) ++ List.replicate (1 - (lg_sl ([.int p0])).length) Slot.unset).toArray = ls at hl ⊢
  have hl : lv_has ls 1 [(0, .int p0)] := hl
  refine lv_iload_n hx hb dX5_highByte_0 rfl (lv_at hl 0 rfl) ?_
  refine lv_bipush (v := 8) hx hb dX5_highByte_1 (by decide) ?_
  refine lv_ishr hx hb dX5_highByte_3 ?_
  exact st_reti hx hb hr hlocks rfl hP hD hS dX5_highByte_4
theorem nX5_mode_X5 : ∀ w ∈ wsX50, w ∈ wsX5_mode := fun w h => List.mem_cons_of_mem _ (List.mem_append_right _ h)
set_option maxHeartbeats 4000000 in
set_option maxRecDepth 100000 in
theorem k_X5_mode (l : Launch) (D : va_G) (qP qF qA qB q1 q2 q3 : Nat) (co cy : Int32) : stI l yX5_mode wsX5_mode ({ frames := 0, cells := 0, slots := 0, locals := 0 } : Room) D [] tE [.ref qP] [(qP, .inr (5, [.ref qF, .ref qA, .ref qB, .ref q1, .ref q2, .ref q3, .int co, .int cy]))] [(qP, .inr (5, [.ref qF, .ref qA, .ref qB, .ref q1, .ref q2, .ref q3, .int co, .int cy]))] (((co >>> ((2 : Int32) &&& (31 : Int32)) : Int32) &&& (7 : Int32))) := by
  intro sz
  refine Met.ofW (cc := cX5_mode) (maxL := 1) (ret := (some .int)) (by decide) rfl ?_
  intro p e s m args below meth c s₁ B hml hv
  obtain ⟨rfl, rfl, hP, hK, hD, hE⟩ := st_open hv
  have hx := B.exec
  have hb := B.bytes
  have hr := B.returns
  have hts := atoms_spec (ws := wsX5_mode) B.pre
  have hown : s.vm.findClass RX5 = some m.cls := findClass_of_methodNamed B.named
  have hlocks := B.notSynchronized
  generalize hAe : va_A [(qP, .inr (5, [.ref qF, .ref qA, .ref qB, .ref q1, .ref q2, .ref q3, .int co, .int cy]))] s.heap.size = A at hD ⊢
  have hA : ∀ q : Nat, s.heap.size ≤ q → A q := fun q h => by rw [← hAe]; exact Or.inr h
  have hS : va_S A s.heap s.heap [] := va_S.rf
  have k96 := hts (.fieldLink RX5 96 "PortTimers" "control" "I") (by decide +kernel)
  have hl := lv_entry ([.ref qP]) (n := 1) (Nat.le_of_ble_eq_true rfl)
  rw [lg_entry_eq]
  generalize (lg_sl ([.ref qP]) ++ List.replicate (1 - (lg_sl ([.ref qP])).length) Slot.unset).toArray = ls at hl ⊢
  have hl : lv_has ls 1 [(0, .ref qP)] := hl
  refine lv_aload_n hx hb dX5_mode_0 rfl (lv_at hl 0 rfl) ?_
  refine va_get (D := D) (ci := 5) (v := .int co) (C := RX5) (T := TX5) (N := 8) hx hb hts nX5_mode_X5 hown hK hP 0 rfl rfl 6 (by decide) k96 (fun _ h9 => h9) rfl dX5_mode_1 ?_
  refine lv_iconst (v := 2) hx hb dX5_mode_4 (by decide) ?_
  refine lv_ishr hx hb dX5_mode_5 ?_
  refine lv_bipush (v := 7) hx hb dX5_mode_6 (by decide) ?_
  refine lv_iand hx hb dX5_mode_8 ?_
  exact st_reti hx hb hr hlocks (by rfl) hP hD hS dX5_mode_9
def f_X5_controlHas_ret (co p0 : Int32) : Int32 := if (co &&& p0) = 0 then 0 else 1
theorem z_X5_controlHas (co p0 : Int32) : f_X5_controlHas_ret co p0 = 0 ∨ f_X5_controlHas_ret co p0 = 1 := by
  unfold f_X5_controlHas_ret
  (repeat' split) <;> decide
theorem nX5_controlHas_X5 : ∀ w ∈ wsX50, w ∈ wsX5_controlHas := fun w h => List.mem_cons_of_mem _ (List.mem_append_right _ h)
set_option maxHeartbeats 4000000 in
set_option maxRecDepth 100000 in
theorem k_X5_controlHas (l : Launch) (D : va_G) (qP qF qA qB q1 q2 q3 : Nat) (co cy p0 : Int32) : stI l yX5_controlHas wsX5_controlHas ({ frames := 0, cells := 0, slots := 0, locals := 0 } : Room) D [] tE [.ref qP, .int p0] [(qP, .inr (5, [.ref qF, .ref qA, .ref qB, .ref q1, .ref q2, .ref q3, .int co, .int cy]))] [(qP, .inr (5, [.ref qF, .ref qA, .ref qB, .ref q1, .ref q2, .ref q3, .int co, .int cy]))] (f_X5_controlHas_ret co p0) := by
  intro sz
  refine Met.ofW (cc := cX5_controlHas) (maxL := 2) (ret := (some .boolean)) (by decide) rfl ?_
  intro p e s m args below meth c s₁ B hml hv
  obtain ⟨rfl, rfl, hP, hK, hD, hE⟩ := st_open hv
  have hx := B.exec
  have hb := B.bytes
  have hr := B.returns
  have hts := atoms_spec (ws := wsX5_controlHas) B.pre
  have hown : s.vm.findClass RX5 = some m.cls := findClass_of_methodNamed B.named
  have hlocks := B.notSynchronized
  generalize hAe : va_A [(qP, .inr (5, [.ref qF, .ref qA, .ref qB, .ref q1, .ref q2, .ref q3, .int co, .int cy]))] s.heap.size = A at hD ⊢
  have hA : ∀ q : Nat, s.heap.size ≤ q → A q := fun q h => by rw [← hAe]; exact Or.inr h
  have hS : va_S A s.heap s.heap [] := va_S.rf
  have k96 := hts (.fieldLink RX5 96 "PortTimers" "control" "I") (by decide +kernel)
  have hl := lv_entry ([.ref qP, .int p0]) (n := 2) (Nat.le_of_ble_eq_true rfl)
  rw [lg_entry_eq]
  generalize (lg_sl ([.ref qP, .int p0]) ++ List.replicate (2 - (lg_sl ([.ref qP, .int p0])).length) Slot.unset).toArray = ls at hl ⊢
  have hl : lv_has ls 2 [(0, .ref qP), (1, .int p0)] := hl
  refine lv_aload_n hx hb dX5_controlHas_0 rfl (lv_at hl 0 rfl) ?_
  refine va_get (D := D) (ci := 5) (v := .int co) (C := RX5) (T := TX5) (N := 8) hx hb hts nX5_controlHas_X5 hown hK hP 0 rfl rfl 6 (by decide) k96 (fun _ h9 => h9) rfl dX5_controlHas_1 ?_
  refine lv_iload_n hx hb dX5_controlHas_4 rfl (lv_at hl 1 rfl) ?_
  refine lv_iand hx hb dX5_controlHas_5 ?_
  refine lv_if_eq (tgt := 13) hx hb dX5_controlHas_6 (by decide) (fun c_1 => ?_) (fun c_1 => ?_)
  · refine lv_iconst (v := 0) hx hb dX5_controlHas_13 (by decide) ?_
    exact st_retz hx hb hr hlocks (by decide) (by simp only [f_X5_controlHas_ret, if_pos c_1]) hP hD hS dX5_controlHas_14
  · refine lv_iconst (v := 1) hx hb dX5_controlHas_9 (by decide) ?_
    refine lv_goto (tgt := 14) hx hb dX5_controlHas_10 (by decide) ?_
    exact st_retz hx hb hr hlocks (by decide) (by simp only [f_X5_controlHas_ret, if_neg c_1]) hP hD hS dX5_controlHas_14
def f_X5_withTimersBit_ret (co tb p0 : Int32) : Int32 := if (f_X5_controlHas_ret co 128) = 0 then p0 else ((p0 &&& (-129 : Int32)) ||| (tb <<< ((7 : Int32) &&& (31 : Int32)) : Int32))
theorem nX5_withTimersBit_X3 : ∀ w ∈ wsX30, w ∈ wsX5_withTimersBit := fun w h => List.mem_cons_of_mem _ (List.mem_append_right _ h)
theorem nX5_withTimersBit_X5 : ∀ w ∈ wsX50, w ∈ wsX5_withTimersBit := fun w h => List.mem_cons_of_mem _ (List.mem_append_left _ (List.mem_append_right _ h))
set_option maxHeartbeats 4000000 in
set_option maxRecDepth 100000 in
theorem k_X5_withTimersBit (l : Launch) (D : va_G) (qP q1 qF qA qB q2 q3 : Nat) (co cy tc tl tb ta td p0 : Int32) : stI l yX5_withTimersBit wsX5_withTimersBit ({ frames := 1, cells := 0, slots := 0, locals := 21 } : Room) D [] nE [.ref qP, .int p0] [(qP, .inr (5, [.ref qF, .ref qA, .ref qB, .ref q1, .ref q2, .ref q3, .int co, .int cy])), (q1, .inr (3, [.ref qF, .int tc, .int tl, .int tb, .int ta, .int td]))] [(qP, .inr (5, [.ref qF, .ref qA, .ref qB, .ref q1, .ref q2, .ref q3, .int co, .int cy])), (q1, .inr (3, [.ref qF, .int tc, .int tl, .int tb, .int ta, .int td]))] (f_X5_withTimersBit_ret co tb p0) := by
  intro sz
  refine Met.ofW (cc := cX5_withTimersBit) (maxL := 2) (ret := (some .int)) (by decide) rfl ?_
  intro p e s m args below meth c s₁ B hml hv
  obtain ⟨rfl, rfl, hP, hK, hD, hE⟩ := st_open hv
  have hx := B.exec
  have hb := B.bytes
  have hr := B.returns
  have hts := atoms_spec (ws := wsX5_withTimersBit) B.pre
  have hown : s.vm.findClass RX5 = some m.cls := findClass_of_methodNamed B.named
  have hlocks := B.notSynchronized
  generalize hAe : va_A [(qP, .inr (5, [.ref qF, .ref qA, .ref qB, .ref q1, .ref q2, .ref q3, .int co, .int cy])), (q1, .inr (3, [.ref qF, .int tc, .int tl, .int tb, .int ta, .int td]))] s.heap.size = A at hD ⊢
  have hA : ∀ q : Nat, s.heap.size ≤ q → A q := fun q h => by rw [← hAe]; exact Or.inr h
  have hS : va_S A s.heap s.heap [] := va_S.rf
  have k33 := hts (.fieldLink RX5 33 "PortTimers" "timer1" "LPortTimers$Timer1;") (by decide +kernel)
  have hl := lv_entry ([.ref qP, .int p0]) (n := 2) (Nat.le_of_ble_eq_true rfl)
  rw [lg_entry_eq]
  generalize (lg_sl ([.ref qP, .int p0]) ++ List.replicate (2 - (lg_sl ([.ref qP, .int p0])).length) Slot.unset).toArray = ls at hl ⊢
  have hl : lv_has ls 2 [(0, .ref qP), (1, .int p0)] := hl
  refine lv_aload_n hx hb dX5_withTimersBit_0 rfl (lv_at hl 0 rfl) ?_
  refine lv_sipush (v := 128) hx hb dX5_withTimersBit_1 (by decide) ?_
  refine st_iV (As := [.int 128]) (rest := []) (wc := [(qP, .inr (5, [.ref qF, .ref qA, .ref qB, .ref q1, .ref q2, .ref q3, .int co, .int cy]))]) (wr := [(q1, .inr (3, [.ref qF, .int tc, .int tl, .int tb, .int ta, .int td]))]) (w1 := [(qP, .inr (5, [.ref qF, .ref qA, .ref qB, .ref q1, .ref q2, .ref q3, .int co, .int cy]))]) (wn := [(qP, .inr (5, [.ref qF, .ref qA, .ref qB, .ref q1, .ref q2, .ref q3, .int co, .int cy])), (q1, .inr (3, [.ref qF, .int tc, .int tl, .int tb, .int ta, .int td]))]) (r := f_X5_controlHas_ret co 128) ⟨hx, hb, hml, hown, hts⟩ (k_X5_controlHas l D qP qF qA qB q1 q2 q3 co cy 128) (cwV 1 hts gX5_withTimersBit_X5_controlHas rfl rfl rfl (by decide +kernel) ⟨Nat.le_of_ble_eq_true rfl, Nat.le_of_ble_eq_true rfl⟩) tE_v (fun _ _ => trivial) hK hP hD hS hA (fun hPc => va_recv hK hPc (ci := 5) (q0 := 0) rfl rfl) [0] [1] [1, 0] rfl rfl (by decide) rfl rfl rfl hl.1 (Nat.le_of_ble_eq_true rfl) dX5_withTimersBit_4 ⟨Nat.zero_le _, Nat.zero_le _⟩ (fun H locs hP hD hS => ?_)
  refine lv_if_eq (tgt := 29) hx hb dX5_withTimersBit_7 (by decide) (fun c_1 => ?_) (fun c_1 => ?_)
  · refine lv_iload_n hx hb dX5_withTimersBit_29 rfl (lv_at hl 1 rfl) ?_
    exact st_reti hx hb hr hlocks (by simp only [f_X5_withTimersBit_ret, if_pos c_1]) hP hD hS dX5_withTimersBit_30
  · refine lv_iload_n hx hb dX5_withTimersBit_10 rfl (lv_at hl 1 rfl) ?_
    refine lv_sipush (v := (-129)) hx hb dX5_withTimersBit_11 (by decide) ?_
    refine lv_iand hx hb dX5_withTimersBit_14 ?_
    refine lv_aload_n hx hb dX5_withTimersBit_15 rfl (lv_at hl 0 rfl) ?_
    refine va_get (D := D) (ci := 5) (v := .ref q1) (C := RX5) (T := TX5) (N := 8) hx hb hts nX5_withTimersBit_X5 hown hK hP 0 rfl rfl 3 (by decide) k33 (fun _ h9 => h9) rfl dX5_withTimersBit_16 ?_
    refine va_getN (D := D) (ci := 3) (v := .int tb) (C := RX3) (T := TX3) (N := 6) hx hb hts nX5_withTimersBit_X3 hown hK hP 1 rfl rfl 3 (by decide) (va_Nw.use rfl (nx_182 hE)) (fun _ h9 => h9) rfl dX5_withTimersBit_19 ?_
    refine lv_bipush (v := 7) hx hb dX5_withTimersBit_22 (by decide) ?_
    refine lv_ishl hx hb dX5_withTimersBit_24 ?_
    refine lv_ior hx hb dX5_withTimersBit_25 ?_
    refine lv_goto (tgt := 30) hx hb dX5_withTimersBit_26 (by decide) ?_
    exact st_reti hx hb hr hlocks (by simp only [f_X5_withTimersBit_ret, if_neg c_1]) hP hD hS dX5_withTimersBit_30
theorem nX5_portA_X5 : ∀ w ∈ wsX50, w ∈ wsX5_portA := fun w h => List.mem_cons_of_mem _ (List.mem_append_left _ (List.mem_append_left _ (List.mem_append_right _ h)))
set_option maxHeartbeats 4000000 in
set_option maxRecDepth 100000 in
theorem k_X5_portA (l : Launch) (D : va_G) (qP qF qA qB q1 q2 q3 : Nat) (co cy fr fe af1 af2 apn al1 al2 aot adr awy ahp aue auc bf1 bf2 bpn bl1 bl2 bot bdr bwy bhp bue buc tc tl tb ta td vc vl va sb st sg sh : Int32) : stI l yX5_portA wsX5_portA ({ frames := 2, cells := 0, slots := 0, locals := 43 } : Room) D [] nE [.ref qP] [(qP, .inr (5, [.ref qF, .ref qA, .ref qB, .ref q1, .ref q2, .ref q3, .int co, .int cy])), (qF, .inr (0, [.int fr, .int fe])), (qA, .inr (2, [.ref qF, .int af1, .int af2, .int apn, .int al1, .int al2, .int aot, .int adr, .int awy, .int ahp, .int aue, .int auc])), (qB, .inr (2, [.ref qF, .int bf1, .int bf2, .int bpn, .int bl1, .int bl2, .int bot, .int bdr, .int bwy, .int bhp, .int bue, .int buc])), (q1, .inr (3, [.ref qF, .int tc, .int tl, .int tb, .int ta, .int td])), (q2, .inr (4, [.ref qF, .int vc, .int vl, .int va])), (q3, .inr (1, [.ref qF, .int sb, .int st, .int sg, .int sh]))] [(qP, .inr (5, [.ref qF, .ref qA, .ref qB, .ref q1, .ref q2, .ref q3, .int co, .int cy])), (qF, .inr (0, [.int fr, .int fe])), (qA, .inr (2, [.ref qF, .int af1, .int af2, .int apn, .int al1, .int al2, .int aot, .int adr, .int awy, .int ahp, .int aue, .int auc])), (qB, .inr (2, [.ref qF, .int bf1, .int bf2, .int bpn, .int bl1, .int bl2, .int bot, .int bdr, .int bwy, .int bhp, .int bue, .int buc])), (q1, .inr (3, [.ref qF, .int tc, .int tl, .int tb, .int ta, .int td])), (q2, .inr (4, [.ref qF, .int vc, .int vl, .int va])), (q3, .inr (1, [.ref qF, .int sb, .int st, .int sg, .int sh]))] ((f_X2_port_ret af1 apn aot adr ahp fr (f_X5_controlHas_ret co 1))) := by
  intro sz
  refine Met.ofW (cc := cX5_portA) (maxL := 1) (ret := (some .int)) (by decide) rfl ?_
  intro p e s m args below meth c s₁ B hml hv
  obtain ⟨rfl, rfl, hP, hK, hD, hE⟩ := st_open hv
  have hx := B.exec
  have hb := B.bytes
  have hr := B.returns
  have hts := atoms_spec (ws := wsX5_portA) B.pre
  have hown : s.vm.findClass RX5 = some m.cls := findClass_of_methodNamed B.named
  have hlocks := B.notSynchronized
  generalize hAe : va_A [(qP, .inr (5, [.ref qF, .ref qA, .ref qB, .ref q1, .ref q2, .ref q3, .int co, .int cy])), (qF, .inr (0, [.int fr, .int fe])), (qA, .inr (2, [.ref qF, .int af1, .int af2, .int apn, .int al1, .int al2, .int aot, .int adr, .int awy, .int ahp, .int aue, .int auc])), (qB, .inr (2, [.ref qF, .int bf1, .int bf2, .int bpn, .int bl1, .int bl2, .int bot, .int bdr, .int bwy, .int bhp, .int bue, .int buc])), (q1, .inr (3, [.ref qF, .int tc, .int tl, .int tb, .int ta, .int td])), (q2, .inr (4, [.ref qF, .int vc, .int vl, .int va])), (q3, .inr (1, [.ref qF, .int sb, .int st, .int sg, .int sh]))] s.heap.size = A at hD ⊢
  have hA : ∀ q : Nat, s.heap.size ≤ q → A q := fun q h => by rw [← hAe]; exact Or.inr h
  have hS : va_S A s.heap s.heap [] := va_S.rf
  have k21 := hts (.fieldLink RX5 21 "PortTimers" "sideA" "LPortTimers$Side;") (by decide +kernel)
  have hl := lv_entry ([.ref qP]) (n := 1) (Nat.le_of_ble_eq_true rfl)
  rw [lg_entry_eq]
  generalize (lg_sl ([.ref qP]) ++ List.replicate (1 - (lg_sl ([.ref qP])).length) Slot.unset).toArray = ls at hl ⊢
  have hl : lv_has ls 1 [(0, .ref qP)] := hl
  refine lv_aload_n hx hb dX5_portA_0 rfl (lv_at hl 0 rfl) ?_
  refine va_get (D := D) (ci := 5) (v := .ref qA) (C := RX5) (T := TX5) (N := 8) hx hb hts nX5_portA_X5 hown hK hP 0 rfl rfl 1 (by decide) k21 (fun _ h9 => h9) rfl dX5_portA_1 ?_
  refine lv_aload_n hx hb dX5_portA_4 rfl (lv_at hl 0 rfl) ?_
  refine lv_iconst (v := 1) hx hb dX5_portA_5 (by decide) ?_
  refine st_iV (As := [.int 1]) (rest := [.ref qA]) (wc := [(qP, .inr (5, [.ref qF, .ref qA, .ref qB, .ref q1, .ref q2, .ref q3, .int co, .int cy]))]) (wr := [(qF, .inr (0, [.int fr, .int fe])), (qA, .inr (2, [.ref qF, .int af1, .int af2, .int apn, .int al1, .int al2, .int aot, .int adr, .int awy, .int ahp, .int aue, .int auc])), (qB, .inr (2, [.ref qF, .int bf1, .int bf2, .int bpn, .int bl1, .int bl2, .int bot, .int bdr, .int bwy, .int bhp, .int bue, .int buc])), (q1, .inr (3, [.ref qF, .int tc, .int tl, .int tb, .int ta, .int td])), (q2, .inr (4, [.ref qF, .int vc, .int vl, .int va])), (q3, .inr (1, [.ref qF, .int sb, .int st, .int sg, .int sh]))]) (w1 := [(qP, .inr (5, [.ref qF, .ref qA, .ref qB, .ref q1, .ref q2, .ref q3, .int co, .int cy]))]) (wn := [(qP, .inr (5, [.ref qF, .ref qA, .ref qB, .ref q1, .ref q2, .ref q3, .int co, .int cy])), (qF, .inr (0, [.int fr, .int fe])), (qA, .inr (2, [.ref qF, .int af1, .int af2, .int apn, .int al1, .int al2, .int aot, .int adr, .int awy, .int ahp, .int aue, .int auc])), (qB, .inr (2, [.ref qF, .int bf1, .int bf2, .int bpn, .int bl1, .int bl2, .int bot, .int bdr, .int bwy, .int bhp, .int bue, .int buc])), (q1, .inr (3, [.ref qF, .int tc, .int tl, .int tb, .int ta, .int td])), (q2, .inr (4, [.ref qF, .int vc, .int vl, .int va])), (q3, .inr (1, [.ref qF, .int sb, .int st, .int sg, .int sh]))]) (r := f_X5_controlHas_ret co 1) ⟨hx, hb, hml, hown, hts⟩ (k_X5_controlHas l D qP qF qA qB q1 q2 q3 co cy 1) (cwV 1 hts gX5_portA_X5_controlHas rfl rfl rfl (by decide +kernel) ⟨Nat.le_of_ble_eq_true rfl, Nat.le_of_ble_eq_true rfl⟩) tE_v (fun _ _ => trivial) hK hP hD hS hA (fun hPc => va_recv hK hPc (ci := 5) (q0 := 0) rfl rfl) [0] [1, 2, 3, 4, 5, 6] [6, 0, 1, 2, 3, 4, 5] rfl rfl (by decide) rfl rfl rfl hl.1 (Nat.le_of_ble_eq_true rfl) dX5_portA_6 ⟨Nat.zero_le _, Nat.zero_le _⟩ (fun H locs hP hD hS => ?_)
  refine st_iV (As := [.int (f_X5_controlHas_ret co 1)]) (rest := []) (wc := [(qA, .inr (2, [.ref qF, .int af1, .int af2, .int apn, .int al1, .int al2, .int aot, .int adr, .int awy, .int ahp, .int aue, .int auc])), (qF, .inr (0, [.int fr, .int fe]))]) (wr := [(qP, .inr (5, [.ref qF, .ref qA, .ref qB, .ref q1, .ref q2, .ref q3, .int co, .int cy])), (qB, .inr (2, [.ref qF, .int bf1, .int bf2, .int bpn, .int bl1, .int bl2, .int bot, .int bdr, .int bwy, .int bhp, .int bue, .int buc])), (q1, .inr (3, [.ref qF, .int tc, .int tl, .int tb, .int ta, .int td])), (q2, .inr (4, [.ref qF, .int vc, .int vl, .int va])), (q3, .inr (1, [.ref qF, .int sb, .int st, .int sg, .int sh]))]) (w1 := [(qA, .inr (2, [.ref qF, .int af1, .int af2, .int apn, .int al1, .int al2, .int aot, .int adr, .int awy, .int ahp, .int aue, .int auc])), (qF, .inr (0, [.int fr, .int fe]))]) (wn := [(qP, .inr (5, [.ref qF, .ref qA, .ref qB, .ref q1, .ref q2, .ref q3, .int co, .int cy])), (qF, .inr (0, [.int fr, .int fe])), (qA, .inr (2, [.ref qF, .int af1, .int af2, .int apn, .int al1, .int al2, .int aot, .int adr, .int awy, .int ahp, .int aue, .int auc])), (qB, .inr (2, [.ref qF, .int bf1, .int bf2, .int bpn, .int bl1, .int bl2, .int bot, .int bdr, .int bwy, .int bhp, .int bue, .int buc])), (q1, .inr (3, [.ref qF, .int tc, .int tl, .int tb, .int ta, .int td])), (q2, .inr (4, [.ref qF, .int vc, .int vl, .int va])), (q3, .inr (1, [.ref qF, .int sb, .int st, .int sg, .int sh]))]) (r := f_X2_port_ret af1 apn aot adr ahp fr (f_X5_controlHas_ret co 1)) ⟨hx, hb, hml, hown, hts⟩ (k_X2_port l D qA qF af1 af2 apn al1 al2 aot adr awy ahp aue auc fr fe (f_X5_controlHas_ret co 1)) (cwV 1 hts gX5_portA_X2_port rfl rfl rfl (by decide +kernel) ⟨Nat.le_of_ble_eq_true rfl, Nat.le_of_ble_eq_true rfl⟩) tE_v (fun _ _ => trivial) hK hP hD hS hA (fun hPc => va_recv hK hPc (ci := 2) (q0 := 0) rfl rfl) [2, 1] [0, 3, 4, 5, 6] [0, 6, 5, 1, 2, 3, 4] rfl rfl (by decide) rfl rfl rfl hl.1 (Nat.le_of_ble_eq_true rfl) dX5_portA_9 ⟨Nat.zero_le _, Nat.zero_le _⟩ (fun H locs hP hD hS => ?_)
  exact st_reti hx hb hr hlocks (by rfl) hP hD hS dX5_portA_12
theorem nX5_readPortA_X5 : ∀ w ∈ wsX50, w ∈ wsX5_readPortA := fun w h => List.mem_cons_of_mem _ (List.mem_append_left _ (List.mem_append_left _ (List.mem_append_right _ h)))
set_option maxHeartbeats 4000000 in
set_option maxRecDepth 100000 in
theorem k_X5_readPortA (l : Launch) (D : va_G) (qP qF qA qB q1 q2 q3 : Nat) (co cy fr fe af1 af2 apn al1 al2 aot adr awy ahp aue auc bf1 bf2 bpn bl1 bl2 bot bdr bwy bhp bue buc tc tl tb ta td vc vl va sb st sg sh : Int32) : stI l yX5_readPortA wsX5_readPortA ({ frames := 3, cells := 0, slots := 0, locals := 63 } : Room) D [] nE [.ref qP] [(qP, .inr (5, [.ref qF, .ref qA, .ref qB, .ref q1, .ref q2, .ref q3, .int co, .int cy])), (qF, .inr (0, [.int fr, .int fe])), (qA, .inr (2, [.ref qF, .int af1, .int af2, .int apn, .int al1, .int al2, .int aot, .int adr, .int awy, .int ahp, .int aue, .int auc])), (qB, .inr (2, [.ref qF, .int bf1, .int bf2, .int bpn, .int bl1, .int bl2, .int bot, .int bdr, .int bwy, .int bhp, .int bue, .int buc])), (q1, .inr (3, [.ref qF, .int tc, .int tl, .int tb, .int ta, .int td])), (q2, .inr (4, [.ref qF, .int vc, .int vl, .int va])), (q3, .inr (1, [.ref qF, .int sb, .int st, .int sg, .int sh]))] [(qP, .inr (5, [.ref qF, .ref qA, .ref qB, .ref q1, .ref q2, .ref q3, .int co, .int cy])), (qF, .inr (0, [.int (f_X2_touch_fr af1 af2 awy fr), .int fe])), (qA, .inr (2, [.ref qF, .int af1, .int af2, .int apn, .int al1, .int al2, .int aot, .int adr, .int awy, .int ahp, .int (f_X2_giveTouch_ue awy aue), .int (f_X2_giveTouch_uc awy auc)])), (qB, .inr (2, [.ref qF, .int bf1, .int bf2, .int bpn, .int bl1, .int bl2, .int bot, .int bdr, .int bwy, .int bhp, .int bue, .int buc])), (q1, .inr (3, [.ref qF, .int tc, .int tl, .int tb, .int ta, .int td])), (q2, .inr (4, [.ref qF, .int vc, .int vl, .int va])), (q3, .inr (1, [.ref qF, .int sb, .int st, .int sg, .int sh]))] ((f_X2_port_ret af1 apn aot adr ahp fr (f_X5_controlHas_ret co 1))) := by
  intro sz
  refine Met.ofW (cc := cX5_readPortA) (maxL := 2) (ret := (some .int)) (by decide) rfl ?_
  intro p e s m args below meth c s₁ B hml hv
  obtain ⟨rfl, rfl, hP, hK, hD, hE⟩ := st_open hv
  have hx := B.exec
  have hb := B.bytes
  have hr := B.returns
  have hts := atoms_spec (ws := wsX5_readPortA) B.pre
  have hown : s.vm.findClass RX5 = some m.cls := findClass_of_methodNamed B.named
  have hlocks := B.notSynchronized
  generalize hAe : va_A [(qP, .inr (5, [.ref qF, .ref qA, .ref qB, .ref q1, .ref q2, .ref q3, .int co, .int cy])), (qF, .inr (0, [.int fr, .int fe])), (qA, .inr (2, [.ref qF, .int af1, .int af2, .int apn, .int al1, .int al2, .int aot, .int adr, .int awy, .int ahp, .int aue, .int auc])), (qB, .inr (2, [.ref qF, .int bf1, .int bf2, .int bpn, .int bl1, .int bl2, .int bot, .int bdr, .int bwy, .int bhp, .int bue, .int buc])), (q1, .inr (3, [.ref qF, .int tc, .int tl, .int tb, .int ta, .int td])), (q2, .inr (4, [.ref qF, .int vc, .int vl, .int va])), (q3, .inr (1, [.ref qF, .int sb, .int st, .int sg, .int sh]))] s.heap.size = A at hD ⊢
  have hA : ∀ q : Nat, s.heap.size ≤ q → A q := fun q h => by rw [← hAe]; exact Or.inr h
  have hS : va_S A s.heap s.heap [] := va_S.rf
  have k21 := hts (.fieldLink RX5 21 "PortTimers" "sideA" "LPortTimers$Side;") (by decide +kernel)
  have hl := lv_entry ([.ref qP]) (n := 2) (Nat.le_of_ble_eq_true rfl)
  rw [lg_entry_eq]
  generalize (lg_sl ([.ref qP]) ++ List.replicate (2 - (lg_sl ([.ref qP])).length) Slot.unset).toArray = ls at hl ⊢
  have hl : lv_has ls 2 [(0, .ref qP)] := hl
  refine lv_aload_n hx hb dX5_readPortA_0 rfl (lv_at hl 0 rfl) ?_
  refine st_iV (As := []) (rest := []) (wc := [(qP, .inr (5, [.ref qF, .ref qA, .ref qB, .ref q1, .ref q2, .ref q3, .int co, .int cy])), (qF, .inr (0, [.int fr, .int fe])), (qA, .inr (2, [.ref qF, .int af1, .int af2, .int apn, .int al1, .int al2, .int aot, .int adr, .int awy, .int ahp, .int aue, .int auc])), (qB, .inr (2, [.ref qF, .int bf1, .int bf2, .int bpn, .int bl1, .int bl2, .int bot, .int bdr, .int bwy, .int bhp, .int bue, .int buc])), (q1, .inr (3, [.ref qF, .int tc, .int tl, .int tb, .int ta, .int td])), (q2, .inr (4, [.ref qF, .int vc, .int vl, .int va])), (q3, .inr (1, [.ref qF, .int sb, .int st, .int sg, .int sh]))]) (wr := []) (w1 := [(qP, .inr (5, [.ref qF, .ref qA, .ref qB, .ref q1, .ref q2, .ref q3, .int co, .int cy])), (qF, .inr (0, [.int fr, .int fe])), (qA, .inr (2, [.ref qF, .int af1, .int af2, .int apn, .int al1, .int al2, .int aot, .int adr, .int awy, .int ahp, .int aue, .int auc])), (qB, .inr (2, [.ref qF, .int bf1, .int bf2, .int bpn, .int bl1, .int bl2, .int bot, .int bdr, .int bwy, .int bhp, .int bue, .int buc])), (q1, .inr (3, [.ref qF, .int tc, .int tl, .int tb, .int ta, .int td])), (q2, .inr (4, [.ref qF, .int vc, .int vl, .int va])), (q3, .inr (1, [.ref qF, .int sb, .int st, .int sg, .int sh]))]) (wn := [(qP, .inr (5, [.ref qF, .ref qA, .ref qB, .ref q1, .ref q2, .ref q3, .int co, .int cy])), (qF, .inr (0, [.int fr, .int fe])), (qA, .inr (2, [.ref qF, .int af1, .int af2, .int apn, .int al1, .int al2, .int aot, .int adr, .int awy, .int ahp, .int aue, .int auc])), (qB, .inr (2, [.ref qF, .int bf1, .int bf2, .int bpn, .int bl1, .int bl2, .int bot, .int bdr, .int bwy, .int bhp, .int bue, .int buc])), (q1, .inr (3, [.ref qF, .int tc, .int tl, .int tb, .int ta, .int td])), (q2, .inr (4, [.ref qF, .int vc, .int vl, .int va])), (q3, .inr (1, [.ref qF, .int sb, .int st, .int sg, .int sh]))]) (r := (f_X2_port_ret af1 apn aot adr ahp fr (f_X5_controlHas_ret co 1))) ⟨hx, hb, hml, hown, hts⟩ (k_X5_portA l D qP qF qA qB q1 q2 q3 co cy fr fe af1 af2 apn al1 al2 aot adr awy ahp aue auc bf1 bf2 bpn bl1 bl2 bot bdr bwy bhp bue buc tc tl tb ta td vc vl va sb st sg sh) (cwV 0 hts gX5_readPortA_X5_portA rfl rfl rfl (by decide +kernel) ⟨Nat.le_of_ble_eq_true rfl, Nat.le_of_ble_eq_true rfl⟩) nE_v (fun U hW => nE_w _ _ hW hE) hK hP hD hS hA (fun hPc => va_recv hK hPc (ci := 5) (q0 := 0) rfl rfl) [0, 1, 2, 3, 4, 5, 6] [] [0, 1, 2, 3, 4, 5, 6] rfl rfl (by decide) rfl rfl rfl hl.1 (Nat.le_of_ble_eq_true rfl) dX5_readPortA_1 ⟨Nat.zero_le _, Nat.zero_le _⟩ (fun H locs hP hD hS => ?_)
  refine lv_istore_n (lv' := [(1, .int (f_X2_port_ret af1 apn aot adr ahp fr (f_X5_controlHas_ret co 1))), (0, .ref qP)]) hx hb dX5_readPortA_4 rfl hl (by decide) rfl (fun ls hl => ?_)
  refine lv_aload_n hx hb dX5_readPortA_5 rfl (lv_at hl 1 rfl) ?_
  refine va_get (D := D) (ci := 5) (v := .ref qA) (C := RX5) (T := TX5) (N := 8) hx hb hts nX5_readPortA_X5 hown hK hP 0 rfl rfl 1 (by decide) k21 (fun _ h9 => h9) rfl dX5_readPortA_6 ?_
  refine st_vV (As := []) (rest := []) (wc := [(qA, .inr (2, [.ref qF, .int af1, .int af2, .int apn, .int al1, .int al2, .int aot, .int adr, .int awy, .int ahp, .int aue, .int auc])), (qF, .inr (0, [.int fr, .int fe]))]) (wr := [(qP, .inr (5, [.ref qF, .ref qA, .ref qB, .ref q1, .ref q2, .ref q3, .int co, .int cy])), (qB, .inr (2, [.ref qF, .int bf1, .int bf2, .int bpn, .int bl1, .int bl2, .int bot, .int bdr, .int bwy, .int bhp, .int bue, .int buc])), (q1, .inr (3, [.ref qF, .int tc, .int tl, .int tb, .int ta, .int td])), (q2, .inr (4, [.ref qF, .int vc, .int vl, .int va])), (q3, .inr (1, [.ref qF, .int sb, .int st, .int sg, .int sh]))]) (w1 := [(qA, .inr (2, [.ref qF, .int af1, .int af2, .int apn, .int al1, .int al2, .int aot, .int adr, .int awy, .int ahp, .int aue, .int auc])), (qF, .inr (0, [.int (f_X2_touch_fr af1 af2 awy fr), .int fe]))]) (wn := [(qP, .inr (5, [.ref qF, .ref qA, .ref qB, .ref q1, .ref q2, .ref q3, .int co, .int cy])), (qF, .inr (0, [.int (f_X2_touch_fr af1 af2 awy fr), .int fe])), (qA, .inr (2, [.ref qF, .int af1, .int af2, .int apn, .int al1, .int al2, .int aot, .int adr, .int awy, .int ahp, .int aue, .int auc])), (qB, .inr (2, [.ref qF, .int bf1, .int bf2, .int bpn, .int bl1, .int bl2, .int bot, .int bdr, .int bwy, .int bhp, .int bue, .int buc])), (q1, .inr (3, [.ref qF, .int tc, .int tl, .int tb, .int ta, .int td])), (q2, .inr (4, [.ref qF, .int vc, .int vl, .int va])), (q3, .inr (1, [.ref qF, .int sb, .int st, .int sg, .int sh]))]) ⟨hx, hb, hml, hown, hts⟩ (k_X2_touch l D qA qF af1 af2 apn al1 al2 aot adr awy ahp aue auc fr fe) (cwV 0 hts gX5_readPortA_X2_touch rfl rfl rfl (by decide +kernel) ⟨Nat.le_of_ble_eq_true rfl, Nat.le_of_ble_eq_true rfl⟩) tE_v (fun _ _ => trivial) hK hP hD hS hA (fun hPc => va_recv hK hPc (ci := 2) (q0 := 0) rfl rfl) [2, 1] [0, 3, 4, 5, 6] [0, 6, 5, 1, 2, 3, 4] rfl rfl (by decide) rfl rfl rfl hl.1 (Nat.le_of_ble_eq_true rfl) dX5_readPortA_9 ⟨Nat.zero_le _, Nat.zero_le _⟩ (fun H locs hP hD hS => ?_)
  refine lv_aload_n hx hb dX5_readPortA_12 rfl (lv_at hl 1 rfl) ?_
  refine va_get (D := D) (ci := 5) (v := .ref qA) (C := RX5) (T := TX5) (N := 8) hx hb hts nX5_readPortA_X5 hown hK hP 0 rfl rfl 1 (by decide) k21 (fun _ h9 => h9) rfl dX5_readPortA_13 ?_
  refine st_vV (As := []) (rest := []) (wc := [(qA, .inr (2, [.ref qF, .int af1, .int af2, .int apn, .int al1, .int al2, .int aot, .int adr, .int awy, .int ahp, .int aue, .int auc]))]) (wr := [(qP, .inr (5, [.ref qF, .ref qA, .ref qB, .ref q1, .ref q2, .ref q3, .int co, .int cy])), (qF, .inr (0, [.int (f_X2_touch_fr af1 af2 awy fr), .int fe])), (qB, .inr (2, [.ref qF, .int bf1, .int bf2, .int bpn, .int bl1, .int bl2, .int bot, .int bdr, .int bwy, .int bhp, .int bue, .int buc])), (q1, .inr (3, [.ref qF, .int tc, .int tl, .int tb, .int ta, .int td])), (q2, .inr (4, [.ref qF, .int vc, .int vl, .int va])), (q3, .inr (1, [.ref qF, .int sb, .int st, .int sg, .int sh]))]) (w1 := [(qA, .inr (2, [.ref qF, .int af1, .int af2, .int apn, .int al1, .int al2, .int aot, .int adr, .int awy, .int ahp, .int (f_X2_giveTouch_ue awy aue), .int (f_X2_giveTouch_uc awy auc)]))]) (wn := [(qP, .inr (5, [.ref qF, .ref qA, .ref qB, .ref q1, .ref q2, .ref q3, .int co, .int cy])), (qF, .inr (0, [.int (f_X2_touch_fr af1 af2 awy fr), .int fe])), (qA, .inr (2, [.ref qF, .int af1, .int af2, .int apn, .int al1, .int al2, .int aot, .int adr, .int awy, .int ahp, .int (f_X2_giveTouch_ue awy aue), .int (f_X2_giveTouch_uc awy auc)])), (qB, .inr (2, [.ref qF, .int bf1, .int bf2, .int bpn, .int bl1, .int bl2, .int bot, .int bdr, .int bwy, .int bhp, .int bue, .int buc])), (q1, .inr (3, [.ref qF, .int tc, .int tl, .int tb, .int ta, .int td])), (q2, .inr (4, [.ref qF, .int vc, .int vl, .int va])), (q3, .inr (1, [.ref qF, .int sb, .int st, .int sg, .int sh]))]) ⟨hx, hb, hml, hown, hts⟩ (k_X2_giveTouch l D qA qF af1 af2 apn al1 al2 aot adr awy ahp aue auc) (cwV 0 hts gX5_readPortA_X2_giveTouch rfl rfl rfl (by decide +kernel) ⟨Nat.le_of_ble_eq_true rfl, Nat.le_of_ble_eq_true rfl⟩) tE_v (fun _ _ => trivial) hK hP hD hS hA (fun hPc => va_recv hK hPc (ci := 2) (q0 := 0) rfl rfl) [2] [0, 1, 3, 4, 5, 6] [0, 1, 6, 2, 3, 4, 5] rfl rfl (by decide) rfl rfl rfl hl.1 (Nat.le_of_ble_eq_true rfl) dX5_readPortA_16 ⟨Nat.zero_le _, Nat.zero_le _⟩ (fun H locs hP hD hS => ?_)
  refine lv_iload_n hx hb dX5_readPortA_19 rfl (lv_at hl 0 rfl) ?_
  exact st_reti hx hb hr hlocks rfl hP hD hS dX5_readPortA_20
theorem nX5_readPortB_X5 : ∀ w ∈ wsX50, w ∈ wsX5_readPortB := fun w h => List.mem_cons_of_mem _ (List.mem_append_left _ (List.mem_append_left _ (List.mem_append_left _ (List.mem_append_right _ h))))
set_option maxHeartbeats 4000000 in
set_option maxRecDepth 100000 in
theorem k_X5_readPortB (l : Launch) (D : va_G) (qP qF qA qB q1 q2 q3 : Nat) (co cy fr fe af1 af2 apn al1 al2 aot adr awy ahp aue auc bf1 bf2 bpn bl1 bl2 bot bdr bwy bhp bue buc tc tl tb ta td vc vl va sb st sg sh : Int32) : stI l yX5_readPortB wsX5_readPortB ({ frames := 2, cells := 0, slots := 0, locals := 43 } : Room) D [] nE [.ref qP] [(qP, .inr (5, [.ref qF, .ref qA, .ref qB, .ref q1, .ref q2, .ref q3, .int co, .int cy])), (qF, .inr (0, [.int fr, .int fe])), (qA, .inr (2, [.ref qF, .int af1, .int af2, .int apn, .int al1, .int al2, .int aot, .int adr, .int awy, .int ahp, .int aue, .int auc])), (qB, .inr (2, [.ref qF, .int bf1, .int bf2, .int bpn, .int bl1, .int bl2, .int bot, .int bdr, .int bwy, .int bhp, .int bue, .int buc])), (q1, .inr (3, [.ref qF, .int tc, .int tl, .int tb, .int ta, .int td])), (q2, .inr (4, [.ref qF, .int vc, .int vl, .int va])), (q3, .inr (1, [.ref qF, .int sb, .int st, .int sg, .int sh]))] [(qP, .inr (5, [.ref qF, .ref qA, .ref qB, .ref q1, .ref q2, .ref q3, .int co, .int cy])), (qF, .inr (0, [.int (f_X2_touch_fr bf1 bf2 bwy fr), .int fe])), (qA, .inr (2, [.ref qF, .int af1, .int af2, .int apn, .int al1, .int al2, .int aot, .int adr, .int awy, .int ahp, .int aue, .int auc])), (qB, .inr (2, [.ref qF, .int bf1, .int bf2, .int bpn, .int bl1, .int bl2, .int bot, .int bdr, .int bwy, .int bhp, .int bue, .int buc])), (q1, .inr (3, [.ref qF, .int tc, .int tl, .int tb, .int ta, .int td])), (q2, .inr (4, [.ref qF, .int vc, .int vl, .int va])), (q3, .inr (1, [.ref qF, .int sb, .int st, .int sg, .int sh]))] ((f_X5_withTimersBit_ret co tb (f_X2_port_ret bf1 bpn bot bdr bhp fr (f_X5_controlHas_ret co 2)))) := by
  intro sz
  refine Met.ofW (cc := cX5_readPortB) (maxL := 2) (ret := (some .int)) (by decide) rfl ?_
  intro p e s m args below meth c s₁ B hml hv
  obtain ⟨rfl, rfl, hP, hK, hD, hE⟩ := st_open hv
  have hx := B.exec
  have hb := B.bytes
  have hr := B.returns
  have hts := atoms_spec (ws := wsX5_readPortB) B.pre
  have hown : s.vm.findClass RX5 = some m.cls := findClass_of_methodNamed B.named
  have hlocks := B.notSynchronized
  generalize hAe : va_A [(qP, .inr (5, [.ref qF, .ref qA, .ref qB, .ref q1, .ref q2, .ref q3, .int co, .int cy])), (qF, .inr (0, [.int fr, .int fe])), (qA, .inr (2, [.ref qF, .int af1, .int af2, .int apn, .int al1, .int al2, .int aot, .int adr, .int awy, .int ahp, .int aue, .int auc])), (qB, .inr (2, [.ref qF, .int bf1, .int bf2, .int bpn, .int bl1, .int bl2, .int bot, .int bdr, .int bwy, .int bhp, .int bue, .int buc])), (q1, .inr (3, [.ref qF, .int tc, .int tl, .int tb, .int ta, .int td])), (q2, .inr (4, [.ref qF, .int vc, .int vl, .int va])), (q3, .inr (1, [.ref qF, .int sb, .int st, .int sg, .int sh]))] s.heap.size = A at hD ⊢
  have hA : ∀ q : Nat, s.heap.size ≤ q → A q := fun q h => by rw [← hAe]; exact Or.inr h
  have hS : va_S A s.heap s.heap [] := va_S.rf
  have k25 := hts (.fieldLink RX5 25 "PortTimers" "sideB" "LPortTimers$Side;") (by decide +kernel)
  have hl := lv_entry ([.ref qP]) (n := 2) (Nat.le_of_ble_eq_true rfl)
  rw [lg_entry_eq]
  generalize (lg_sl ([.ref qP]) ++ List.replicate (2 - (lg_sl ([.ref qP])).length) Slot.unset).toArray = ls at hl ⊢
  have hl : lv_has ls 2 [(0, .ref qP)] := hl
  refine lv_aload_n hx hb dX5_readPortB_0 rfl (lv_at hl 0 rfl) ?_
  refine lv_aload_n hx hb dX5_readPortB_1 rfl (lv_at hl 0 rfl) ?_
  refine va_get (D := D) (ci := 5) (v := .ref qB) (C := RX5) (T := TX5) (N := 8) hx hb hts nX5_readPortB_X5 hown hK hP 0 rfl rfl 2 (by decide) k25 (fun _ h9 => h9) rfl dX5_readPortB_2 ?_
  refine lv_aload_n hx hb dX5_readPortB_5 rfl (lv_at hl 0 rfl) ?_
  refine lv_iconst (v := 2) hx hb dX5_readPortB_6 (by decide) ?_
  refine st_iV (As := [.int 2]) (rest := [.ref qB, .ref qP]) (wc := [(qP, .inr (5, [.ref qF, .ref qA, .ref qB, .ref q1, .ref q2, .ref q3, .int co, .int cy]))]) (wr := [(qF, .inr (0, [.int fr, .int fe])), (qA, .inr (2, [.ref qF, .int af1, .int af2, .int apn, .int al1, .int al2, .int aot, .int adr, .int awy, .int ahp, .int aue, .int auc])), (qB, .inr (2, [.ref qF, .int bf1, .int bf2, .int bpn, .int bl1, .int bl2, .int bot, .int bdr, .int bwy, .int bhp, .int bue, .int buc])), (q1, .inr (3, [.ref qF, .int tc, .int tl, .int tb, .int ta, .int td])), (q2, .inr (4, [.ref qF, .int vc, .int vl, .int va])), (q3, .inr (1, [.ref qF, .int sb, .int st, .int sg, .int sh]))]) (w1 := [(qP, .inr (5, [.ref qF, .ref qA, .ref qB, .ref q1, .ref q2, .ref q3, .int co, .int cy]))]) (wn := [(qP, .inr (5, [.ref qF, .ref qA, .ref qB, .ref q1, .ref q2, .ref q3, .int co, .int cy])), (qF, .inr (0, [.int fr, .int fe])), (qA, .inr (2, [.ref qF, .int af1, .int af2, .int apn, .int al1, .int al2, .int aot, .int adr, .int awy, .int ahp, .int aue, .int auc])), (qB, .inr (2, [.ref qF, .int bf1, .int bf2, .int bpn, .int bl1, .int bl2, .int bot, .int bdr, .int bwy, .int bhp, .int bue, .int buc])), (q1, .inr (3, [.ref qF, .int tc, .int tl, .int tb, .int ta, .int td])), (q2, .inr (4, [.ref qF, .int vc, .int vl, .int va])), (q3, .inr (1, [.ref qF, .int sb, .int st, .int sg, .int sh]))]) (r := f_X5_controlHas_ret co 2) ⟨hx, hb, hml, hown, hts⟩ (k_X5_controlHas l D qP qF qA qB q1 q2 q3 co cy 2) (cwV 1 hts gX5_readPortB_X5_controlHas rfl rfl rfl (by decide +kernel) ⟨Nat.le_of_ble_eq_true rfl, Nat.le_of_ble_eq_true rfl⟩) tE_v (fun _ _ => trivial) hK hP hD hS hA (fun hPc => va_recv hK hPc (ci := 5) (q0 := 0) rfl rfl) [0] [1, 2, 3, 4, 5, 6] [6, 0, 1, 2, 3, 4, 5] rfl rfl (by decide) rfl rfl rfl hl.1 (Nat.le_of_ble_eq_true rfl) dX5_readPortB_7 ⟨Nat.zero_le _, Nat.zero_le _⟩ (fun H locs hP hD hS => ?_)
  refine st_iV (As := [.int (f_X5_controlHas_ret co 2)]) (rest := [.ref qP]) (wc := [(qB, .inr (2, [.ref qF, .int bf1, .int bf2, .int bpn, .int bl1, .int bl2, .int bot, .int bdr, .int bwy, .int bhp, .int bue, .int buc])), (qF, .inr (0, [.int fr, .int fe]))]) (wr := [(qP, .inr (5, [.ref qF, .ref qA, .ref qB, .ref q1, .ref q2, .ref q3, .int co, .int cy])), (qA, .inr (2, [.ref qF, .int af1, .int af2, .int apn, .int al1, .int al2, .int aot, .int adr, .int awy, .int ahp, .int aue, .int auc])), (q1, .inr (3, [.ref qF, .int tc, .int tl, .int tb, .int ta, .int td])), (q2, .inr (4, [.ref qF, .int vc, .int vl, .int va])), (q3, .inr (1, [.ref qF, .int sb, .int st, .int sg, .int sh]))]) (w1 := [(qB, .inr (2, [.ref qF, .int bf1, .int bf2, .int bpn, .int bl1, .int bl2, .int bot, .int bdr, .int bwy, .int bhp, .int bue, .int buc])), (qF, .inr (0, [.int fr, .int fe]))]) (wn := [(qP, .inr (5, [.ref qF, .ref qA, .ref qB, .ref q1, .ref q2, .ref q3, .int co, .int cy])), (qF, .inr (0, [.int fr, .int fe])), (qA, .inr (2, [.ref qF, .int af1, .int af2, .int apn, .int al1, .int al2, .int aot, .int adr, .int awy, .int ahp, .int aue, .int auc])), (qB, .inr (2, [.ref qF, .int bf1, .int bf2, .int bpn, .int bl1, .int bl2, .int bot, .int bdr, .int bwy, .int bhp, .int bue, .int buc])), (q1, .inr (3, [.ref qF, .int tc, .int tl, .int tb, .int ta, .int td])), (q2, .inr (4, [.ref qF, .int vc, .int vl, .int va])), (q3, .inr (1, [.ref qF, .int sb, .int st, .int sg, .int sh]))]) (r := f_X2_port_ret bf1 bpn bot bdr bhp fr (f_X5_controlHas_ret co 2)) ⟨hx, hb, hml, hown, hts⟩ (k_X2_port l D qB qF bf1 bf2 bpn bl1 bl2 bot bdr bwy bhp bue buc fr fe (f_X5_controlHas_ret co 2)) (cwV 1 hts gX5_readPortB_X2_port rfl rfl rfl (by decide +kernel) ⟨Nat.le_of_ble_eq_true rfl, Nat.le_of_ble_eq_true rfl⟩) tE_v (fun _ _ => trivial) hK hP hD hS hA (fun hPc => va_recv hK hPc (ci := 2) (q0 := 0) rfl rfl) [3, 1] [0, 2, 4, 5, 6] [0, 6, 1, 5, 2, 3, 4] rfl rfl (by decide) rfl rfl rfl hl.1 (Nat.le_of_ble_eq_true rfl) dX5_readPortB_10 ⟨Nat.zero_le _, Nat.zero_le _⟩ (fun H locs hP hD hS => ?_)
  refine st_iV (As := [.int (f_X2_port_ret bf1 bpn bot bdr bhp fr (f_X5_controlHas_ret co 2))]) (rest := []) (wc := [(qP, .inr (5, [.ref qF, .ref qA, .ref qB, .ref q1, .ref q2, .ref q3, .int co, .int cy])), (q1, .inr (3, [.ref qF, .int tc, .int tl, .int tb, .int ta, .int td]))]) (wr := [(qF, .inr (0, [.int fr, .int fe])), (qA, .inr (2, [.ref qF, .int af1, .int af2, .int apn, .int al1, .int al2, .int aot, .int adr, .int awy, .int ahp, .int aue, .int auc])), (qB, .inr (2, [.ref qF, .int bf1, .int bf2, .int bpn, .int bl1, .int bl2, .int bot, .int bdr, .int bwy, .int bhp, .int bue, .int buc])), (q2, .inr (4, [.ref qF, .int vc, .int vl, .int va])), (q3, .inr (1, [.ref qF, .int sb, .int st, .int sg, .int sh]))]) (w1 := [(qP, .inr (5, [.ref qF, .ref qA, .ref qB, .ref q1, .ref q2, .ref q3, .int co, .int cy])), (q1, .inr (3, [.ref qF, .int tc, .int tl, .int tb, .int ta, .int td]))]) (wn := [(qP, .inr (5, [.ref qF, .ref qA, .ref qB, .ref q1, .ref q2, .ref q3, .int co, .int cy])), (qF, .inr (0, [.int fr, .int fe])), (qA, .inr (2, [.ref qF, .int af1, .int af2, .int apn, .int al1, .int al2, .int aot, .int adr, .int awy, .int ahp, .int aue, .int auc])), (qB, .inr (2, [.ref qF, .int bf1, .int bf2, .int bpn, .int bl1, .int bl2, .int bot, .int bdr, .int bwy, .int bhp, .int bue, .int buc])), (q1, .inr (3, [.ref qF, .int tc, .int tl, .int tb, .int ta, .int td])), (q2, .inr (4, [.ref qF, .int vc, .int vl, .int va])), (q3, .inr (1, [.ref qF, .int sb, .int st, .int sg, .int sh]))]) (r := f_X5_withTimersBit_ret co tb (f_X2_port_ret bf1 bpn bot bdr bhp fr (f_X5_controlHas_ret co 2))) ⟨hx, hb, hml, hown, hts⟩ (k_X5_withTimersBit l D qP q1 qF qA qB q2 q3 co cy tc tl tb ta td (f_X2_port_ret bf1 bpn bot bdr bhp fr (f_X5_controlHas_ret co 2))) (cwV 1 hts gX5_readPortB_X5_withTimersBit rfl rfl rfl (by decide +kernel) ⟨Nat.le_of_ble_eq_true rfl, Nat.le_of_ble_eq_true rfl⟩) nE_v (fun U hW => nE_w _ _ hW hE) hK hP hD hS hA (fun hPc => va_recv hK hPc (ci := 5) (q0 := 0) rfl rfl) [0, 4] [1, 2, 3, 5, 6] [5, 0, 1, 2, 6, 3, 4] rfl rfl (by decide) rfl rfl rfl hl.1 (Nat.le_of_ble_eq_true rfl) dX5_readPortB_13 ⟨Nat.zero_le _, Nat.zero_le _⟩ (fun H locs hP hD hS => ?_)
  refine lv_istore_n (lv' := [(1, .int (f_X5_withTimersBit_ret co tb (f_X2_port_ret bf1 bpn bot bdr bhp fr (f_X5_controlHas_ret co 2)))), (0, .ref qP)]) hx hb dX5_readPortB_16 rfl hl (by decide) rfl (fun ls hl => ?_)
  refine lv_aload_n hx hb dX5_readPortB_17 rfl (lv_at hl 1 rfl) ?_
  refine va_get (D := D) (ci := 5) (v := .ref qB) (C := RX5) (T := TX5) (N := 8) hx hb hts nX5_readPortB_X5 hown hK hP 0 rfl rfl 2 (by decide) k25 (fun _ h9 => h9) rfl dX5_readPortB_18 ?_
  refine st_vV (As := []) (rest := []) (wc := [(qB, .inr (2, [.ref qF, .int bf1, .int bf2, .int bpn, .int bl1, .int bl2, .int bot, .int bdr, .int bwy, .int bhp, .int bue, .int buc])), (qF, .inr (0, [.int fr, .int fe]))]) (wr := [(qP, .inr (5, [.ref qF, .ref qA, .ref qB, .ref q1, .ref q2, .ref q3, .int co, .int cy])), (qA, .inr (2, [.ref qF, .int af1, .int af2, .int apn, .int al1, .int al2, .int aot, .int adr, .int awy, .int ahp, .int aue, .int auc])), (q1, .inr (3, [.ref qF, .int tc, .int tl, .int tb, .int ta, .int td])), (q2, .inr (4, [.ref qF, .int vc, .int vl, .int va])), (q3, .inr (1, [.ref qF, .int sb, .int st, .int sg, .int sh]))]) (w1 := [(qB, .inr (2, [.ref qF, .int bf1, .int bf2, .int bpn, .int bl1, .int bl2, .int bot, .int bdr, .int bwy, .int bhp, .int bue, .int buc])), (qF, .inr (0, [.int (f_X2_touch_fr bf1 bf2 bwy fr), .int fe]))]) (wn := [(qP, .inr (5, [.ref qF, .ref qA, .ref qB, .ref q1, .ref q2, .ref q3, .int co, .int cy])), (qF, .inr (0, [.int (f_X2_touch_fr bf1 bf2 bwy fr), .int fe])), (qA, .inr (2, [.ref qF, .int af1, .int af2, .int apn, .int al1, .int al2, .int aot, .int adr, .int awy, .int ahp, .int aue, .int auc])), (qB, .inr (2, [.ref qF, .int bf1, .int bf2, .int bpn, .int bl1, .int bl2, .int bot, .int bdr, .int bwy, .int bhp, .int bue, .int buc])), (q1, .inr (3, [.ref qF, .int tc, .int tl, .int tb, .int ta, .int td])), (q2, .inr (4, [.ref qF, .int vc, .int vl, .int va])), (q3, .inr (1, [.ref qF, .int sb, .int st, .int sg, .int sh]))]) ⟨hx, hb, hml, hown, hts⟩ (k_X2_touch l D qB qF bf1 bf2 bpn bl1 bl2 bot bdr bwy bhp bue buc fr fe) (cwV 0 hts gX5_readPortB_X2_touch rfl rfl rfl (by decide +kernel) ⟨Nat.le_of_ble_eq_true rfl, Nat.le_of_ble_eq_true rfl⟩) tE_v (fun _ _ => trivial) hK hP hD hS hA (fun hPc => va_recv hK hPc (ci := 2) (q0 := 0) rfl rfl) [3, 1] [0, 2, 4, 5, 6] [0, 6, 1, 5, 2, 3, 4] rfl rfl (by decide) rfl rfl rfl hl.1 (Nat.le_of_ble_eq_true rfl) dX5_readPortB_21 ⟨Nat.zero_le _, Nat.zero_le _⟩ (fun H locs hP hD hS => ?_)
  refine lv_iload_n hx hb dX5_readPortB_24 rfl (lv_at hl 0 rfl) ?_
  exact st_reti hx hb hr hlocks (by rfl) hP hD hS dX5_readPortB_25
def f_X5_lineCB2Gives_ret (co bwy bue buc sg : Int32) : Int32 := if (4 : Int32) ≤ (bwy >>> ((1 : Int32) &&& (31 : Int32)) : Int32) then (f_X2_line2Gives_ret bwy bue buc) else (if ((co >>> ((2 : Int32) &&& (31 : Int32)) : Int32) &&& (7 : Int32)) = 6 then sg else (f_X2_line2Gives_ret bwy bue buc))
theorem nX5_lineCB2Gives_X1 : ∀ w ∈ wsX10, w ∈ wsX5_lineCB2Gives := fun w h => List.mem_cons_of_mem _ (List.mem_append_left _ (List.mem_append_right _ h))
theorem nX5_lineCB2Gives_X5 : ∀ w ∈ wsX50, w ∈ wsX5_lineCB2Gives := fun w h => List.mem_cons_of_mem _ (List.mem_append_left _ (List.mem_append_left _ (List.mem_append_right _ h)))
set_option maxHeartbeats 4000000 in
set_option maxRecDepth 100000 in
theorem k_X5_lineCB2Gives (l : Launch) (D : va_G) (qP qF qA qB q1 q2 q3 : Nat) (co cy fr fe af1 af2 apn al1 al2 aot adr awy ahp aue auc bf1 bf2 bpn bl1 bl2 bot bdr bwy bhp bue buc tc tl tb ta td vc vl va sb st sg sh : Int32) : stI l yX5_lineCB2Gives wsX5_lineCB2Gives ({ frames := 2, cells := 0, slots := 0, locals := 42 } : Room) D [] nE [.ref qP] [(qP, .inr (5, [.ref qF, .ref qA, .ref qB, .ref q1, .ref q2, .ref q3, .int co, .int cy])), (qF, .inr (0, [.int fr, .int fe])), (qA, .inr (2, [.ref qF, .int af1, .int af2, .int apn, .int al1, .int al2, .int aot, .int adr, .int awy, .int ahp, .int aue, .int auc])), (qB, .inr (2, [.ref qF, .int bf1, .int bf2, .int bpn, .int bl1, .int bl2, .int bot, .int bdr, .int bwy, .int bhp, .int bue, .int buc])), (q1, .inr (3, [.ref qF, .int tc, .int tl, .int tb, .int ta, .int td])), (q2, .inr (4, [.ref qF, .int vc, .int vl, .int va])), (q3, .inr (1, [.ref qF, .int sb, .int st, .int sg, .int sh]))] [(qP, .inr (5, [.ref qF, .ref qA, .ref qB, .ref q1, .ref q2, .ref q3, .int co, .int cy])), (qF, .inr (0, [.int fr, .int fe])), (qA, .inr (2, [.ref qF, .int af1, .int af2, .int apn, .int al1, .int al2, .int aot, .int adr, .int awy, .int ahp, .int aue, .int auc])), (qB, .inr (2, [.ref qF, .int bf1, .int bf2, .int bpn, .int bl1, .int bl2, .int bot, .int bdr, .int bwy, .int bhp, .int bue, .int buc])), (q1, .inr (3, [.ref qF, .int tc, .int tl, .int tb, .int ta, .int td])), (q2, .inr (4, [.ref qF, .int vc, .int vl, .int va])), (q3, .inr (1, [.ref qF, .int sb, .int st, .int sg, .int sh]))] (f_X5_lineCB2Gives_ret co bwy bue buc sg) := by
  intro sz
  refine Met.ofW (cc := cX5_lineCB2Gives) (maxL := 2) (ret := (some .int)) (by decide) rfl ?_
  intro p e s m args below meth c s₁ B hml hv
  obtain ⟨rfl, rfl, hP, hK, hD, hE⟩ := st_open hv
  have hx := B.exec
  have hb := B.bytes
  have hr := B.returns
  have hts := atoms_spec (ws := wsX5_lineCB2Gives) B.pre
  have hown : s.vm.findClass RX5 = some m.cls := findClass_of_methodNamed B.named
  have hlocks := B.notSynchronized
  generalize hAe : va_A [(qP, .inr (5, [.ref qF, .ref qA, .ref qB, .ref q1, .ref q2, .ref q3, .int co, .int cy])), (qF, .inr (0, [.int fr, .int fe])), (qA, .inr (2, [.ref qF, .int af1, .int af2, .int apn, .int al1, .int al2, .int aot, .int adr, .int awy, .int ahp, .int aue, .int auc])), (qB, .inr (2, [.ref qF, .int bf1, .int bf2, .int bpn, .int bl1, .int bl2, .int bot, .int bdr, .int bwy, .int bhp, .int bue, .int buc])), (q1, .inr (3, [.ref qF, .int tc, .int tl, .int tb, .int ta, .int td])), (q2, .inr (4, [.ref qF, .int vc, .int vl, .int va])), (q3, .inr (1, [.ref qF, .int sb, .int st, .int sg, .int sh]))] s.heap.size = A at hD ⊢
  have hA : ∀ q : Nat, s.heap.size ≤ q → A q := fun q h => by rw [← hAe]; exact Or.inr h
  have hS : va_S A s.heap s.heap [] := va_S.rf
  have k25 := hts (.fieldLink RX5 25 "PortTimers" "sideB" "LPortTimers$Side;") (by decide +kernel)
  have k47 := hts (.fieldLink RX5 47 "PortTimers" "shifter" "LPortTimers$Shifter;") (by decide +kernel)
  have hl := lv_entry ([.ref qP]) (n := 2) (Nat.le_of_ble_eq_true rfl)
  rw [lg_entry_eq]
  generalize (lg_sl ([.ref qP]) ++ List.replicate (2 - (lg_sl ([.ref qP])).length) Slot.unset).toArray = ls at hl ⊢
  have hl : lv_has ls 2 [(0, .ref qP)] := hl
  refine lv_aload_n hx hb dX5_lineCB2Gives_0 rfl (lv_at hl 0 rfl) ?_
  refine va_get (D := D) (ci := 5) (v := .ref qB) (C := RX5) (T := TX5) (N := 8) hx hb hts nX5_lineCB2Gives_X5 hown hK hP 0 rfl rfl 2 (by decide) k25 (fun _ h9 => h9) rfl dX5_lineCB2Gives_1 ?_
  refine st_iV (As := []) (rest := []) (wc := [(qB, .inr (2, [.ref qF, .int bf1, .int bf2, .int bpn, .int bl1, .int bl2, .int bot, .int bdr, .int bwy, .int bhp, .int bue, .int buc]))]) (wr := [(qP, .inr (5, [.ref qF, .ref qA, .ref qB, .ref q1, .ref q2, .ref q3, .int co, .int cy])), (qF, .inr (0, [.int fr, .int fe])), (qA, .inr (2, [.ref qF, .int af1, .int af2, .int apn, .int al1, .int al2, .int aot, .int adr, .int awy, .int ahp, .int aue, .int auc])), (q1, .inr (3, [.ref qF, .int tc, .int tl, .int tb, .int ta, .int td])), (q2, .inr (4, [.ref qF, .int vc, .int vl, .int va])), (q3, .inr (1, [.ref qF, .int sb, .int st, .int sg, .int sh]))]) (w1 := [(qB, .inr (2, [.ref qF, .int bf1, .int bf2, .int bpn, .int bl1, .int bl2, .int bot, .int bdr, .int bwy, .int bhp, .int bue, .int buc]))]) (wn := [(qP, .inr (5, [.ref qF, .ref qA, .ref qB, .ref q1, .ref q2, .ref q3, .int co, .int cy])), (qF, .inr (0, [.int fr, .int fe])), (qA, .inr (2, [.ref qF, .int af1, .int af2, .int apn, .int al1, .int al2, .int aot, .int adr, .int awy, .int ahp, .int aue, .int auc])), (qB, .inr (2, [.ref qF, .int bf1, .int bf2, .int bpn, .int bl1, .int bl2, .int bot, .int bdr, .int bwy, .int bhp, .int bue, .int buc])), (q1, .inr (3, [.ref qF, .int tc, .int tl, .int tb, .int ta, .int td])), (q2, .inr (4, [.ref qF, .int vc, .int vl, .int va])), (q3, .inr (1, [.ref qF, .int sb, .int st, .int sg, .int sh]))]) (r := (bwy >>> ((1 : Int32) &&& (31 : Int32)) : Int32)) ⟨hx, hb, hml, hown, hts⟩ (k_X2_wayOfLine2 l D qB qF bf1 bf2 bpn bl1 bl2 bot bdr bwy bhp bue buc) (cwV 0 hts gX5_lineCB2Gives_X2_wayOfLine2 rfl rfl rfl (by decide +kernel) ⟨Nat.le_of_ble_eq_true rfl, Nat.le_of_ble_eq_true rfl⟩) tE_v (fun _ _ => trivial) hK hP hD hS hA (fun hPc => va_recv hK hPc (ci := 2) (q0 := 0) rfl rfl) [3] [0, 1, 2, 4, 5, 6] [0, 1, 2, 6, 3, 4, 5] rfl rfl (by decide) rfl rfl rfl hl.1 (Nat.le_of_ble_eq_true rfl) dX5_lineCB2Gives_4 ⟨Nat.zero_le _, Nat.zero_le _⟩ (fun H locs hP hD hS => ?_)
  refine lv_iconst (v := 4) hx hb dX5_lineCB2Gives_7 (by decide) ?_
  refine lv_icmp_ge (tgt := 24) hx hb dX5_lineCB2Gives_8 (by decide) (fun c_1 => ?_) (fun c_1 => ?_)
  · refine lv_iconst (v := 0) hx hb dX5_lineCB2Gives_24 (by decide) ?_
    refine lv_istore_n (lv' := [(1, .int 0), (0, .ref qP)]) hx hb dX5_lineCB2Gives_25 rfl hl (by decide) rfl (fun ls hl => ?_)
    refine lv_iload_n hx hb dX5_lineCB2Gives_26 rfl (lv_at hl 0 rfl) ?_
    refine lv_if_eq (tgt := 40) hx hb dX5_lineCB2Gives_27 (by decide) (fun _ => ?_) (fun cc => absurd cc (by decide))
    refine lv_aload_n hx hb dX5_lineCB2Gives_40 rfl (lv_at hl 1 rfl) ?_
    refine va_get (D := D) (ci := 5) (v := .ref qB) (C := RX5) (T := TX5) (N := 8) hx hb hts nX5_lineCB2Gives_X5 hown hK hP 0 rfl rfl 2 (by decide) k25 (fun _ h9 => h9) rfl dX5_lineCB2Gives_41 ?_
    refine st_iV (As := []) (rest := []) (wc := [(qB, .inr (2, [.ref qF, .int bf1, .int bf2, .int bpn, .int bl1, .int bl2, .int bot, .int bdr, .int bwy, .int bhp, .int bue, .int buc]))]) (wr := [(qP, .inr (5, [.ref qF, .ref qA, .ref qB, .ref q1, .ref q2, .ref q3, .int co, .int cy])), (qF, .inr (0, [.int fr, .int fe])), (qA, .inr (2, [.ref qF, .int af1, .int af2, .int apn, .int al1, .int al2, .int aot, .int adr, .int awy, .int ahp, .int aue, .int auc])), (q1, .inr (3, [.ref qF, .int tc, .int tl, .int tb, .int ta, .int td])), (q2, .inr (4, [.ref qF, .int vc, .int vl, .int va])), (q3, .inr (1, [.ref qF, .int sb, .int st, .int sg, .int sh]))]) (w1 := [(qB, .inr (2, [.ref qF, .int bf1, .int bf2, .int bpn, .int bl1, .int bl2, .int bot, .int bdr, .int bwy, .int bhp, .int bue, .int buc]))]) (wn := [(qP, .inr (5, [.ref qF, .ref qA, .ref qB, .ref q1, .ref q2, .ref q3, .int co, .int cy])), (qF, .inr (0, [.int fr, .int fe])), (qA, .inr (2, [.ref qF, .int af1, .int af2, .int apn, .int al1, .int al2, .int aot, .int adr, .int awy, .int ahp, .int aue, .int auc])), (qB, .inr (2, [.ref qF, .int bf1, .int bf2, .int bpn, .int bl1, .int bl2, .int bot, .int bdr, .int bwy, .int bhp, .int bue, .int buc])), (q1, .inr (3, [.ref qF, .int tc, .int tl, .int tb, .int ta, .int td])), (q2, .inr (4, [.ref qF, .int vc, .int vl, .int va])), (q3, .inr (1, [.ref qF, .int sb, .int st, .int sg, .int sh]))]) (r := f_X2_line2Gives_ret bwy bue buc) ⟨hx, hb, hml, hown, hts⟩ (k_X2_line2Gives l D qB qF bf1 bf2 bpn bl1 bl2 bot bdr bwy bhp bue buc) (cwV 0 hts gX5_lineCB2Gives_X2_line2Gives rfl rfl rfl (by decide +kernel) ⟨Nat.le_of_ble_eq_true rfl, Nat.le_of_ble_eq_true rfl⟩) tE_v (fun _ _ => trivial) hK hP hD hS hA (fun hPc => va_recv hK hPc (ci := 2) (q0 := 0) rfl rfl) [3] [0, 1, 2, 4, 5, 6] [0, 1, 2, 6, 3, 4, 5] rfl rfl (by decide) rfl rfl rfl hl.1 (Nat.le_of_ble_eq_true rfl) dX5_lineCB2Gives_44 ⟨Nat.zero_le _, Nat.zero_le _⟩ (fun H locs hP hD hS => ?_)
    exact st_reti hx hb hr hlocks (by simp only [f_X5_lineCB2Gives_ret, if_pos c_1]) hP hD hS dX5_lineCB2Gives_47
  · refine lv_aload_n hx hb dX5_lineCB2Gives_11 rfl (lv_at hl 0 rfl) ?_
    refine st_iV (As := []) (rest := []) (wc := [(qP, .inr (5, [.ref qF, .ref qA, .ref qB, .ref q1, .ref q2, .ref q3, .int co, .int cy]))]) (wr := [(qF, .inr (0, [.int fr, .int fe])), (qA, .inr (2, [.ref qF, .int af1, .int af2, .int apn, .int al1, .int al2, .int aot, .int adr, .int awy, .int ahp, .int aue, .int auc])), (qB, .inr (2, [.ref qF, .int bf1, .int bf2, .int bpn, .int bl1, .int bl2, .int bot, .int bdr, .int bwy, .int bhp, .int bue, .int buc])), (q1, .inr (3, [.ref qF, .int tc, .int tl, .int tb, .int ta, .int td])), (q2, .inr (4, [.ref qF, .int vc, .int vl, .int va])), (q3, .inr (1, [.ref qF, .int sb, .int st, .int sg, .int sh]))]) (w1 := [(qP, .inr (5, [.ref qF, .ref qA, .ref qB, .ref q1, .ref q2, .ref q3, .int co, .int cy]))]) (wn := [(qP, .inr (5, [.ref qF, .ref qA, .ref qB, .ref q1, .ref q2, .ref q3, .int co, .int cy])), (qF, .inr (0, [.int fr, .int fe])), (qA, .inr (2, [.ref qF, .int af1, .int af2, .int apn, .int al1, .int al2, .int aot, .int adr, .int awy, .int ahp, .int aue, .int auc])), (qB, .inr (2, [.ref qF, .int bf1, .int bf2, .int bpn, .int bl1, .int bl2, .int bot, .int bdr, .int bwy, .int bhp, .int bue, .int buc])), (q1, .inr (3, [.ref qF, .int tc, .int tl, .int tb, .int ta, .int td])), (q2, .inr (4, [.ref qF, .int vc, .int vl, .int va])), (q3, .inr (1, [.ref qF, .int sb, .int st, .int sg, .int sh]))]) (r := ((co >>> ((2 : Int32) &&& (31 : Int32)) : Int32) &&& (7 : Int32))) ⟨hx, hb, hml, hown, hts⟩ (k_X5_mode l D qP qF qA qB q1 q2 q3 co cy) (cwV 0 hts gX5_lineCB2Gives_X5_mode rfl rfl rfl (by decide +kernel) ⟨Nat.le_of_ble_eq_true rfl, Nat.le_of_ble_eq_true rfl⟩) tE_v (fun _ _ => trivial) hK hP hD hS hA (fun hPc => va_recv hK hPc (ci := 5) (q0 := 0) rfl rfl) [0] [1, 2, 3, 4, 5, 6] [6, 0, 1, 2, 3, 4, 5] rfl rfl (by decide) rfl rfl rfl hl.1 (Nat.le_of_ble_eq_true rfl) dX5_lineCB2Gives_12 ⟨Nat.zero_le _, Nat.zero_le _⟩ (fun H locs hP hD hS => ?_)
    refine lv_bipush (v := 6) hx hb dX5_lineCB2Gives_15 (by decide) ?_
    refine lv_icmp_ne (tgt := 24) hx hb dX5_lineCB2Gives_17 (by decide) (fun c_2 => ?_) (fun c_2 => ?_)
    · refine lv_iconst (v := 0) hx hb dX5_lineCB2Gives_24 (by decide) ?_
      refine lv_istore_n (lv' := [(1, .int 0), (0, .ref qP)]) hx hb dX5_lineCB2Gives_25 rfl hl (by decide) rfl (fun ls hl => ?_)
      refine lv_iload_n hx hb dX5_lineCB2Gives_26 rfl (lv_at hl 0 rfl) ?_
      refine lv_if_eq (tgt := 40) hx hb dX5_lineCB2Gives_27 (by decide) (fun _ => ?_) (fun cc => absurd cc (by decide))
      refine lv_aload_n hx hb dX5_lineCB2Gives_40 rfl (lv_at hl 1 rfl) ?_
      refine va_get (D := D) (ci := 5) (v := .ref qB) (C := RX5) (T := TX5) (N := 8) hx hb hts nX5_lineCB2Gives_X5 hown hK hP 0 rfl rfl 2 (by decide) k25 (fun _ h9 => h9) rfl dX5_lineCB2Gives_41 ?_
      refine st_iV (As := []) (rest := []) (wc := [(qB, .inr (2, [.ref qF, .int bf1, .int bf2, .int bpn, .int bl1, .int bl2, .int bot, .int bdr, .int bwy, .int bhp, .int bue, .int buc]))]) (wr := [(qP, .inr (5, [.ref qF, .ref qA, .ref qB, .ref q1, .ref q2, .ref q3, .int co, .int cy])), (qF, .inr (0, [.int fr, .int fe])), (qA, .inr (2, [.ref qF, .int af1, .int af2, .int apn, .int al1, .int al2, .int aot, .int adr, .int awy, .int ahp, .int aue, .int auc])), (q1, .inr (3, [.ref qF, .int tc, .int tl, .int tb, .int ta, .int td])), (q2, .inr (4, [.ref qF, .int vc, .int vl, .int va])), (q3, .inr (1, [.ref qF, .int sb, .int st, .int sg, .int sh]))]) (w1 := [(qB, .inr (2, [.ref qF, .int bf1, .int bf2, .int bpn, .int bl1, .int bl2, .int bot, .int bdr, .int bwy, .int bhp, .int bue, .int buc]))]) (wn := [(qP, .inr (5, [.ref qF, .ref qA, .ref qB, .ref q1, .ref q2, .ref q3, .int co, .int cy])), (qF, .inr (0, [.int fr, .int fe])), (qA, .inr (2, [.ref qF, .int af1, .int af2, .int apn, .int al1, .int al2, .int aot, .int adr, .int awy, .int ahp, .int aue, .int auc])), (qB, .inr (2, [.ref qF, .int bf1, .int bf2, .int bpn, .int bl1, .int bl2, .int bot, .int bdr, .int bwy, .int bhp, .int bue, .int buc])), (q1, .inr (3, [.ref qF, .int tc, .int tl, .int tb, .int ta, .int td])), (q2, .inr (4, [.ref qF, .int vc, .int vl, .int va])), (q3, .inr (1, [.ref qF, .int sb, .int st, .int sg, .int sh]))]) (r := f_X2_line2Gives_ret bwy bue buc) ⟨hx, hb, hml, hown, hts⟩ (k_X2_line2Gives l D qB qF bf1 bf2 bpn bl1 bl2 bot bdr bwy bhp bue buc) (cwV 0 hts gX5_lineCB2Gives_X2_line2Gives rfl rfl rfl (by decide +kernel) ⟨Nat.le_of_ble_eq_true rfl, Nat.le_of_ble_eq_true rfl⟩) tE_v (fun _ _ => trivial) hK hP hD hS hA (fun hPc => va_recv hK hPc (ci := 2) (q0 := 0) rfl rfl) [3] [0, 1, 2, 4, 5, 6] [0, 1, 2, 6, 3, 4, 5] rfl rfl (by decide) rfl rfl rfl hl.1 (Nat.le_of_ble_eq_true rfl) dX5_lineCB2Gives_44 ⟨Nat.zero_le _, Nat.zero_le _⟩ (fun H locs hP hD hS => ?_)
      exact st_reti hx hb hr hlocks (by simp only [f_X5_lineCB2Gives_ret, if_neg c_1, if_neg c_2]) hP hD hS dX5_lineCB2Gives_47
    · refine lv_iconst (v := 1) hx hb dX5_lineCB2Gives_20 (by decide) ?_
      refine lv_goto (tgt := 25) hx hb dX5_lineCB2Gives_21 (by decide) ?_
      refine lv_istore_n (lv' := [(1, .int 1), (0, .ref qP)]) hx hb dX5_lineCB2Gives_25 rfl hl (by decide) rfl (fun ls hl => ?_)
      refine lv_iload_n hx hb dX5_lineCB2Gives_26 rfl (lv_at hl 0 rfl) ?_
      refine lv_if_eq (tgt := 40) hx hb dX5_lineCB2Gives_27 (by decide) (fun cc => absurd cc (by decide)) (fun _ => ?_)
      refine lv_aload_n hx hb dX5_lineCB2Gives_30 rfl (lv_at hl 1 rfl) ?_
      refine va_get (D := D) (ci := 5) (v := .ref q3) (C := RX5) (T := TX5) (N := 8) hx hb hts nX5_lineCB2Gives_X5 hown hK hP 0 rfl rfl 5 (by decide) k47 (fun _ h9 => h9) rfl dX5_lineCB2Gives_31 ?_
      refine va_getN (D := D) (ci := 1) (v := .int sg) (C := RX1) (T := TX1) (N := 5) hx hb hts nX5_lineCB2Gives_X1 hown hK hP 6 rfl rfl 3 (by decide) (va_Nw.use rfl (nx_224 hE)) (fun _ h9 => h9) rfl dX5_lineCB2Gives_34 ?_
      refine lv_goto (tgt := 47) hx hb dX5_lineCB2Gives_37 (by decide) ?_
      exact st_reti hx hb hr hlocks (by simp only [f_X5_lineCB2Gives_ret, if_neg c_1, if_pos c_2]) hP hD hS dX5_lineCB2Gives_47
theorem nX5_reset_X5 : ∀ w ∈ wsX50, w ∈ wsX5_reset := fun w h => List.mem_cons_of_mem _ (List.mem_append_left _ (List.mem_append_left _ (List.mem_append_left _ (List.mem_append_left _ (List.mem_append_left _ (List.mem_append_right _ h))))))
set_option maxHeartbeats 4000000 in
set_option maxRecDepth 100000 in
theorem k_X5_reset (l : Launch) (D : va_G) (qP qF qA qB q1 q2 q3 : Nat) (co cy fr fe af1 af2 apn al1 al2 aot adr awy ahp aue auc bf1 bf2 bpn bl1 bl2 bot bdr bwy bhp bue buc tc tl tb ta td vc vl va sb st sg sh : Int32) : stV l yX5_reset wsX5_reset ({ frames := 1, cells := 0, slots := 0, locals := 20 } : Room) D [] nE [.ref qP] [(qP, .inr (5, [.ref qF, .ref qA, .ref qB, .ref q1, .ref q2, .ref q3, .int co, .int cy])), (qF, .inr (0, [.int fr, .int fe])), (qA, .inr (2, [.ref qF, .int af1, .int af2, .int apn, .int al1, .int al2, .int aot, .int adr, .int awy, .int ahp, .int aue, .int auc])), (qB, .inr (2, [.ref qF, .int bf1, .int bf2, .int bpn, .int bl1, .int bl2, .int bot, .int bdr, .int bwy, .int bhp, .int bue, .int buc])), (q1, .inr (3, [.ref qF, .int tc, .int tl, .int tb, .int ta, .int td])), (q2, .inr (4, [.ref qF, .int vc, .int vl, .int va])), (q3, .inr (1, [.ref qF, .int sb, .int st, .int sg, .int sh]))] [(qP, .inr (5, [.ref qF, .ref qA, .ref qB, .ref q1, .ref q2, .ref q3, .int 0, .int 0])), (qF, .inr (0, [.int 0, .int 0])), (qA, .inr (2, [.ref qF, .int af1, .int af2, .int apn, .int al1, .int al2, .int 0, .int 0, .int 0, .int 0, .int 0, .int 0])), (qB, .inr (2, [.ref qF, .int bf1, .int bf2, .int bpn, .int bl1, .int bl2, .int 0, .int 0, .int 0, .int 0, .int 0, .int 0])), (q1, .inr (3, [.ref qF, .int 0, .int 0, .int 1, .int 0, .int 0])), (q2, .inr (4, [.ref qF, .int 0, .int 0, .int 0])), (q3, .inr (1, [.ref qF, .int 0, .int 0, .int 1, .int 0]))] := by
  intro sz
  refine Met.ofW (cc := cX5_reset) (maxL := 1) (ret := none) (by decide) rfl ?_
  intro p e s m args below meth c s₁ B hml hv
  obtain ⟨rfl, rfl, hP, hK, hD, hE⟩ := st_open hv
  have hx := B.exec
  have hb := B.bytes
  have hr := B.returns
  have hts := atoms_spec (ws := wsX5_reset) B.pre
  have hown : s.vm.findClass RX5 = some m.cls := findClass_of_methodNamed B.named
  have hlocks := B.notSynchronized
  generalize hAe : va_A [(qP, .inr (5, [.ref qF, .ref qA, .ref qB, .ref q1, .ref q2, .ref q3, .int co, .int cy])), (qF, .inr (0, [.int fr, .int fe])), (qA, .inr (2, [.ref qF, .int af1, .int af2, .int apn, .int al1, .int al2, .int aot, .int adr, .int awy, .int ahp, .int aue, .int auc])), (qB, .inr (2, [.ref qF, .int bf1, .int bf2, .int bpn, .int bl1, .int bl2, .int bot, .int bdr, .int bwy, .int bhp, .int bue, .int buc])), (q1, .inr (3, [.ref qF, .int tc, .int tl, .int tb, .int ta, .int td])), (q2, .inr (4, [.ref qF, .int vc, .int vl, .int va])), (q3, .inr (1, [.ref qF, .int sb, .int st, .int sg, .int sh]))] s.heap.size = A at hD ⊢
  have hA : ∀ q : Nat, s.heap.size ≤ q → A q := fun q h => by rw [← hAe]; exact Or.inr h
  have hS : va_S A s.heap s.heap [] := va_S.rf
  have k10 := hts (.fieldLink RX5 10 "PortTimers" "flags" "LPortTimers$Flags;") (by decide +kernel)
  have k21 := hts (.fieldLink RX5 21 "PortTimers" "sideA" "LPortTimers$Side;") (by decide +kernel)
  have k25 := hts (.fieldLink RX5 25 "PortTimers" "sideB" "LPortTimers$Side;") (by decide +kernel)
  have k33 := hts (.fieldLink RX5 33 "PortTimers" "timer1" "LPortTimers$Timer1;") (by decide +kernel)
  have k40 := hts (.fieldLink RX5 40 "PortTimers" "timer2" "LPortTimers$Timer2;") (by decide +kernel)
  have k47 := hts (.fieldLink RX5 47 "PortTimers" "shifter" "LPortTimers$Shifter;") (by decide +kernel)
  have k96 := hts (.fieldLink RX5 96 "PortTimers" "control" "I") (by decide +kernel)
  have k190 := hts (.fieldLink RX5 190 "PortTimers" "cycles" "I") (by decide +kernel)
  have hl := lv_entry ([.ref qP]) (n := 1) (Nat.le_of_ble_eq_true rfl)
  rw [lg_entry_eq]
  generalize (lg_sl ([.ref qP]) ++ List.replicate (1 - (lg_sl ([.ref qP])).length) Slot.unset).toArray = ls at hl ⊢
  have hl : lv_has ls 1 [(0, .ref qP)] := hl
  refine lv_aload_n hx hb dX5_reset_0 rfl (lv_at hl 0 rfl) ?_
  refine va_get (D := D) (ci := 5) (v := .ref qF) (C := RX5) (T := TX5) (N := 8) hx hb hts nX5_reset_X5 hown hK hP 0 rfl rfl 0 (by decide) k10 (fun _ h9 => h9) rfl dX5_reset_1 ?_
  refine st_vV (As := []) (rest := []) (wc := [(qF, .inr (0, [.int fr, .int fe]))]) (wr := [(qP, .inr (5, [.ref qF, .ref qA, .ref qB, .ref q1, .ref q2, .ref q3, .int co, .int cy])), (qA, .inr (2, [.ref qF, .int af1, .int af2, .int apn, .int al1, .int al2, .int aot, .int adr, .int awy, .int ahp, .int aue, .int auc])), (qB, .inr (2, [.ref qF, .int bf1, .int bf2, .int bpn, .int bl1, .int bl2, .int bot, .int bdr, .int bwy, .int bhp, .int bue, .int buc])), (q1, .inr (3, [.ref qF, .int tc, .int tl, .int tb, .int ta, .int td])), (q2, .inr (4, [.ref qF, .int vc, .int vl, .int va])), (q3, .inr (1, [.ref qF, .int sb, .int st, .int sg, .int sh]))]) (w1 := [(qF, .inr (0, [.int 0, .int 0]))]) (wn := [(qP, .inr (5, [.ref qF, .ref qA, .ref qB, .ref q1, .ref q2, .ref q3, .int co, .int cy])), (qF, .inr (0, [.int 0, .int 0])), (qA, .inr (2, [.ref qF, .int af1, .int af2, .int apn, .int al1, .int al2, .int aot, .int adr, .int awy, .int ahp, .int aue, .int auc])), (qB, .inr (2, [.ref qF, .int bf1, .int bf2, .int bpn, .int bl1, .int bl2, .int bot, .int bdr, .int bwy, .int bhp, .int bue, .int buc])), (q1, .inr (3, [.ref qF, .int tc, .int tl, .int tb, .int ta, .int td])), (q2, .inr (4, [.ref qF, .int vc, .int vl, .int va])), (q3, .inr (1, [.ref qF, .int sb, .int st, .int sg, .int sh]))]) ⟨hx, hb, hml, hown, hts⟩ (k_X0_clear l D qF fr fe) (cwV 0 hts gX5_reset_X0_clear rfl rfl rfl (by decide +kernel) ⟨Nat.le_of_ble_eq_true rfl, Nat.le_of_ble_eq_true rfl⟩) tE_v (fun _ _ => trivial) hK hP hD hS hA (fun hPc => va_recv hK hPc (ci := 0) (q0 := 0) rfl rfl) [1] [0, 2, 3, 4, 5, 6] [0, 6, 1, 2, 3, 4, 5] rfl rfl (by decide) rfl rfl rfl hl.1 (Nat.le_of_ble_eq_true rfl) dX5_reset_4 ⟨Nat.zero_le _, Nat.zero_le _⟩ (fun H locs hP hD hS => ?_)
  refine lv_aload_n hx hb dX5_reset_7 rfl (lv_at hl 0 rfl) ?_
  refine va_get (D := D) (ci := 5) (v := .ref qA) (C := RX5) (T := TX5) (N := 8) hx hb hts nX5_reset_X5 hown hK hP 0 rfl rfl 1 (by decide) k21 (fun _ h9 => h9) rfl dX5_reset_8 ?_
  refine st_vV (As := []) (rest := []) (wc := [(qA, .inr (2, [.ref qF, .int af1, .int af2, .int apn, .int al1, .int al2, .int aot, .int adr, .int awy, .int ahp, .int aue, .int auc]))]) (wr := [(qP, .inr (5, [.ref qF, .ref qA, .ref qB, .ref q1, .ref q2, .ref q3, .int co, .int cy])), (qF, .inr (0, [.int 0, .int 0])), (qB, .inr (2, [.ref qF, .int bf1, .int bf2, .int bpn, .int bl1, .int bl2, .int bot, .int bdr, .int bwy, .int bhp, .int bue, .int buc])), (q1, .inr (3, [.ref qF, .int tc, .int tl, .int tb, .int ta, .int td])), (q2, .inr (4, [.ref qF, .int vc, .int vl, .int va])), (q3, .inr (1, [.ref qF, .int sb, .int st, .int sg, .int sh]))]) (w1 := [(qA, .inr (2, [.ref qF, .int af1, .int af2, .int apn, .int al1, .int al2, .int 0, .int 0, .int 0, .int 0, .int 0, .int 0]))]) (wn := [(qP, .inr (5, [.ref qF, .ref qA, .ref qB, .ref q1, .ref q2, .ref q3, .int co, .int cy])), (qF, .inr (0, [.int 0, .int 0])), (qA, .inr (2, [.ref qF, .int af1, .int af2, .int apn, .int al1, .int al2, .int 0, .int 0, .int 0, .int 0, .int 0, .int 0])), (qB, .inr (2, [.ref qF, .int bf1, .int bf2, .int bpn, .int bl1, .int bl2, .int bot, .int bdr, .int bwy, .int bhp, .int bue, .int buc])), (q1, .inr (3, [.ref qF, .int tc, .int tl, .int tb, .int ta, .int td])), (q2, .inr (4, [.ref qF, .int vc, .int vl, .int va])), (q3, .inr (1, [.ref qF, .int sb, .int st, .int sg, .int sh]))]) ⟨hx, hb, hml, hown, hts⟩ (k_X2_clear l D qA qF af1 af2 apn al1 al2 aot adr awy ahp aue auc) (cwV 0 hts gX5_reset_X2_clear rfl rfl rfl (by decide +kernel) ⟨Nat.le_of_ble_eq_true rfl, Nat.le_of_ble_eq_true rfl⟩) tE_v (fun _ _ => trivial) hK hP hD hS hA (fun hPc => va_recv hK hPc (ci := 2) (q0 := 0) rfl rfl) [2] [0, 1, 3, 4, 5, 6] [0, 1, 6, 2, 3, 4, 5] rfl rfl (by decide) rfl rfl rfl hl.1 (Nat.le_of_ble_eq_true rfl) dX5_reset_11 ⟨Nat.zero_le _, Nat.zero_le _⟩ (fun H locs hP hD hS => ?_)
  refine lv_aload_n hx hb dX5_reset_14 rfl (lv_at hl 0 rfl) ?_
  refine va_get (D := D) (ci := 5) (v := .ref qB) (C := RX5) (T := TX5) (N := 8) hx hb hts nX5_reset_X5 hown hK hP 0 rfl rfl 2 (by decide) k25 (fun _ h9 => h9) rfl dX5_reset_15 ?_
  refine st_vV (As := []) (rest := []) (wc := [(qB, .inr (2, [.ref qF, .int bf1, .int bf2, .int bpn, .int bl1, .int bl2, .int bot, .int bdr, .int bwy, .int bhp, .int bue, .int buc]))]) (wr := [(qP, .inr (5, [.ref qF, .ref qA, .ref qB, .ref q1, .ref q2, .ref q3, .int co, .int cy])), (qF, .inr (0, [.int 0, .int 0])), (qA, .inr (2, [.ref qF, .int af1, .int af2, .int apn, .int al1, .int al2, .int 0, .int 0, .int 0, .int 0, .int 0, .int 0])), (q1, .inr (3, [.ref qF, .int tc, .int tl, .int tb, .int ta, .int td])), (q2, .inr (4, [.ref qF, .int vc, .int vl, .int va])), (q3, .inr (1, [.ref qF, .int sb, .int st, .int sg, .int sh]))]) (w1 := [(qB, .inr (2, [.ref qF, .int bf1, .int bf2, .int bpn, .int bl1, .int bl2, .int 0, .int 0, .int 0, .int 0, .int 0, .int 0]))]) (wn := [(qP, .inr (5, [.ref qF, .ref qA, .ref qB, .ref q1, .ref q2, .ref q3, .int co, .int cy])), (qF, .inr (0, [.int 0, .int 0])), (qA, .inr (2, [.ref qF, .int af1, .int af2, .int apn, .int al1, .int al2, .int 0, .int 0, .int 0, .int 0, .int 0, .int 0])), (qB, .inr (2, [.ref qF, .int bf1, .int bf2, .int bpn, .int bl1, .int bl2, .int 0, .int 0, .int 0, .int 0, .int 0, .int 0])), (q1, .inr (3, [.ref qF, .int tc, .int tl, .int tb, .int ta, .int td])), (q2, .inr (4, [.ref qF, .int vc, .int vl, .int va])), (q3, .inr (1, [.ref qF, .int sb, .int st, .int sg, .int sh]))]) ⟨hx, hb, hml, hown, hts⟩ (k_X2_clear l D qB qF bf1 bf2 bpn bl1 bl2 bot bdr bwy bhp bue buc) (cwV 0 hts gX5_reset_X2_clear rfl rfl rfl (by decide +kernel) ⟨Nat.le_of_ble_eq_true rfl, Nat.le_of_ble_eq_true rfl⟩) tE_v (fun _ _ => trivial) hK hP hD hS hA (fun hPc => va_recv hK hPc (ci := 2) (q0 := 0) rfl rfl) [3] [0, 1, 2, 4, 5, 6] [0, 1, 2, 6, 3, 4, 5] rfl rfl (by decide) rfl rfl rfl hl.1 (Nat.le_of_ble_eq_true rfl) dX5_reset_18 ⟨Nat.zero_le _, Nat.zero_le _⟩ (fun H locs hP hD hS => ?_)
  refine lv_aload_n hx hb dX5_reset_21 rfl (lv_at hl 0 rfl) ?_
  refine va_get (D := D) (ci := 5) (v := .ref q1) (C := RX5) (T := TX5) (N := 8) hx hb hts nX5_reset_X5 hown hK hP 0 rfl rfl 3 (by decide) k33 (fun _ h9 => h9) rfl dX5_reset_22 ?_
  refine st_vV (As := []) (rest := []) (wc := [(q1, .inr (3, [.ref qF, .int tc, .int tl, .int tb, .int ta, .int td]))]) (wr := [(qP, .inr (5, [.ref qF, .ref qA, .ref qB, .ref q1, .ref q2, .ref q3, .int co, .int cy])), (qF, .inr (0, [.int 0, .int 0])), (qA, .inr (2, [.ref qF, .int af1, .int af2, .int apn, .int al1, .int al2, .int 0, .int 0, .int 0, .int 0, .int 0, .int 0])), (qB, .inr (2, [.ref qF, .int bf1, .int bf2, .int bpn, .int bl1, .int bl2, .int 0, .int 0, .int 0, .int 0, .int 0, .int 0])), (q2, .inr (4, [.ref qF, .int vc, .int vl, .int va])), (q3, .inr (1, [.ref qF, .int sb, .int st, .int sg, .int sh]))]) (w1 := [(q1, .inr (3, [.ref qF, .int 0, .int 0, .int 1, .int 0, .int 0]))]) (wn := [(qP, .inr (5, [.ref qF, .ref qA, .ref qB, .ref q1, .ref q2, .ref q3, .int co, .int cy])), (qF, .inr (0, [.int 0, .int 0])), (qA, .inr (2, [.ref qF, .int af1, .int af2, .int apn, .int al1, .int al2, .int 0, .int 0, .int 0, .int 0, .int 0, .int 0])), (qB, .inr (2, [.ref qF, .int bf1, .int bf2, .int bpn, .int bl1, .int bl2, .int 0, .int 0, .int 0, .int 0, .int 0, .int 0])), (q1, .inr (3, [.ref qF, .int 0, .int 0, .int 1, .int 0, .int 0])), (q2, .inr (4, [.ref qF, .int vc, .int vl, .int va])), (q3, .inr (1, [.ref qF, .int sb, .int st, .int sg, .int sh]))]) ⟨hx, hb, hml, hown, hts⟩ (k_X3_clear l D q1 qF tc tl tb ta td) (cwV 0 hts gX5_reset_X3_clear rfl rfl rfl (by decide +kernel) ⟨Nat.le_of_ble_eq_true rfl, Nat.le_of_ble_eq_true rfl⟩) tE_v (fun _ _ => trivial) hK hP hD hS hA (fun hPc => va_recv hK hPc (ci := 3) (q0 := 0) rfl rfl) [4] [0, 1, 2, 3, 5, 6] [0, 1, 2, 3, 6, 4, 5] rfl rfl (by decide) rfl rfl rfl hl.1 (Nat.le_of_ble_eq_true rfl) dX5_reset_25 ⟨Nat.zero_le _, Nat.zero_le _⟩ (fun H locs hP hD hS => ?_)
  refine lv_aload_n hx hb dX5_reset_28 rfl (lv_at hl 0 rfl) ?_
  refine va_get (D := D) (ci := 5) (v := .ref q2) (C := RX5) (T := TX5) (N := 8) hx hb hts nX5_reset_X5 hown hK hP 0 rfl rfl 4 (by decide) k40 (fun _ h9 => h9) rfl dX5_reset_29 ?_
  refine st_vV (As := []) (rest := []) (wc := [(q2, .inr (4, [.ref qF, .int vc, .int vl, .int va]))]) (wr := [(qP, .inr (5, [.ref qF, .ref qA, .ref qB, .ref q1, .ref q2, .ref q3, .int co, .int cy])), (qF, .inr (0, [.int 0, .int 0])), (qA, .inr (2, [.ref qF, .int af1, .int af2, .int apn, .int al1, .int al2, .int 0, .int 0, .int 0, .int 0, .int 0, .int 0])), (qB, .inr (2, [.ref qF, .int bf1, .int bf2, .int bpn, .int bl1, .int bl2, .int 0, .int 0, .int 0, .int 0, .int 0, .int 0])), (q1, .inr (3, [.ref qF, .int 0, .int 0, .int 1, .int 0, .int 0])), (q3, .inr (1, [.ref qF, .int sb, .int st, .int sg, .int sh]))]) (w1 := [(q2, .inr (4, [.ref qF, .int 0, .int 0, .int 0]))]) (wn := [(qP, .inr (5, [.ref qF, .ref qA, .ref qB, .ref q1, .ref q2, .ref q3, .int co, .int cy])), (qF, .inr (0, [.int 0, .int 0])), (qA, .inr (2, [.ref qF, .int af1, .int af2, .int apn, .int al1, .int al2, .int 0, .int 0, .int 0, .int 0, .int 0, .int 0])), (qB, .inr (2, [.ref qF, .int bf1, .int bf2, .int bpn, .int bl1, .int bl2, .int 0, .int 0, .int 0, .int 0, .int 0, .int 0])), (q1, .inr (3, [.ref qF, .int 0, .int 0, .int 1, .int 0, .int 0])), (q2, .inr (4, [.ref qF, .int 0, .int 0, .int 0])), (q3, .inr (1, [.ref qF, .int sb, .int st, .int sg, .int sh]))]) ⟨hx, hb, hml, hown, hts⟩ (k_X4_clear l D q2 qF vc vl va) (cwV 0 hts gX5_reset_X4_clear rfl rfl rfl (by decide +kernel) ⟨Nat.le_of_ble_eq_true rfl, Nat.le_of_ble_eq_true rfl⟩) tE_v (fun _ _ => trivial) hK hP hD hS hA (fun hPc => va_recv hK hPc (ci := 4) (q0 := 0) rfl rfl) [5] [0, 1, 2, 3, 4, 6] [0, 1, 2, 3, 4, 6, 5] rfl rfl (by decide) rfl rfl rfl hl.1 (Nat.le_of_ble_eq_true rfl) dX5_reset_32 ⟨Nat.zero_le _, Nat.zero_le _⟩ (fun H locs hP hD hS => ?_)
  refine lv_aload_n hx hb dX5_reset_35 rfl (lv_at hl 0 rfl) ?_
  refine va_get (D := D) (ci := 5) (v := .ref q3) (C := RX5) (T := TX5) (N := 8) hx hb hts nX5_reset_X5 hown hK hP 0 rfl rfl 5 (by decide) k47 (fun _ h9 => h9) rfl dX5_reset_36 ?_
  refine st_vV (As := []) (rest := []) (wc := [(q3, .inr (1, [.ref qF, .int sb, .int st, .int sg, .int sh]))]) (wr := [(qP, .inr (5, [.ref qF, .ref qA, .ref qB, .ref q1, .ref q2, .ref q3, .int co, .int cy])), (qF, .inr (0, [.int 0, .int 0])), (qA, .inr (2, [.ref qF, .int af1, .int af2, .int apn, .int al1, .int al2, .int 0, .int 0, .int 0, .int 0, .int 0, .int 0])), (qB, .inr (2, [.ref qF, .int bf1, .int bf2, .int bpn, .int bl1, .int bl2, .int 0, .int 0, .int 0, .int 0, .int 0, .int 0])), (q1, .inr (3, [.ref qF, .int 0, .int 0, .int 1, .int 0, .int 0])), (q2, .inr (4, [.ref qF, .int 0, .int 0, .int 0]))]) (w1 := [(q3, .inr (1, [.ref qF, .int 0, .int 0, .int 1, .int 0]))]) (wn := [(qP, .inr (5, [.ref qF, .ref qA, .ref qB, .ref q1, .ref q2, .ref q3, .int co, .int cy])), (qF, .inr (0, [.int 0, .int 0])), (qA, .inr (2, [.ref qF, .int af1, .int af2, .int apn, .int al1, .int al2, .int 0, .int 0, .int 0, .int 0, .int 0, .int 0])), (qB, .inr (2, [.ref qF, .int bf1, .int bf2, .int bpn, .int bl1, .int bl2, .int 0, .int 0, .int 0, .int 0, .int 0, .int 0])), (q1, .inr (3, [.ref qF, .int 0, .int 0, .int 1, .int 0, .int 0])), (q2, .inr (4, [.ref qF, .int 0, .int 0, .int 0])), (q3, .inr (1, [.ref qF, .int 0, .int 0, .int 1, .int 0]))]) ⟨hx, hb, hml, hown, hts⟩ (k_X1_clear l D q3 qF sb st sg sh) (cwV 0 hts gX5_reset_X1_clear rfl rfl rfl (by decide +kernel) ⟨Nat.le_of_ble_eq_true rfl, Nat.le_of_ble_eq_true rfl⟩) tE_v (fun _ _ => trivial) hK hP hD hS hA (fun hPc => va_recv hK hPc (ci := 1) (q0 := 0) rfl rfl) [6] [0, 1, 2, 3, 4, 5] [0, 1, 2, 3, 4, 5, 6] rfl rfl (by decide) rfl rfl rfl hl.1 (Nat.le_of_ble_eq_true rfl) dX5_reset_39 ⟨Nat.zero_le _, Nat.zero_le _⟩ (fun H locs hP hD hS => ?_)
  refine lv_aload_n hx hb dX5_reset_42 rfl (lv_at hl 0 rfl) ?_
  refine lv_iconst (v := 0) hx hb dX5_reset_43 (by decide) ?_
  refine va_put (D := D) (ci := 5) (v := .int 0) (ty := .int) (C := RX5) (T := TX5) (N := 8) hx hb hts nX5_reset_X5 tyX5 tyX5_ok nmX5 hown hK hP hD hS 0 rfl rfl 6 (by decide) k96 (fun _ h9 => h9) rfl (by decide +kernel) rfl rfl (Nat.le_of_ble_eq_true rfl) dX5_reset_44 (fun H locs hP hD hS => ?_)
  have hP : va_P D vwCl [(qP, .inr (5, [.ref qF, .ref qA, .ref qB, .ref q1, .ref q2, .ref q3, .int 0, .int cy])), (qF, .inr (0, [.int 0, .int 0])), (qA, .inr (2, [.ref qF, .int af1, .int af2, .int apn, .int al1, .int al2, .int 0, .int 0, .int 0, .int 0, .int 0, .int 0])), (qB, .inr (2, [.ref qF, .int bf1, .int bf2, .int bpn, .int bl1, .int bl2, .int 0, .int 0, .int 0, .int 0, .int 0, .int 0])), (q1, .inr (3, [.ref qF, .int 0, .int 0, .int 1, .int 0, .int 0])), (q2, .inr (4, [.ref qF, .int 0, .int 0, .int 0])), (q3, .inr (1, [.ref qF, .int 0, .int 0, .int 1, .int 0]))] H := hP
  have hD : va_D A [(qP, .inr (5, [.ref qF, .ref qA, .ref qB, .ref q1, .ref q2, .ref q3, .int 0, .int cy])), (qF, .inr (0, [.int 0, .int 0])), (qA, .inr (2, [.ref qF, .int af1, .int af2, .int apn, .int al1, .int al2, .int 0, .int 0, .int 0, .int 0, .int 0, .int 0])), (qB, .inr (2, [.ref qF, .int bf1, .int bf2, .int bpn, .int bl1, .int bl2, .int 0, .int 0, .int 0, .int 0, .int 0, .int 0])), (q1, .inr (3, [.ref qF, .int 0, .int 0, .int 1, .int 0, .int 0])), (q2, .inr (4, [.ref qF, .int 0, .int 0, .int 0])), (q3, .inr (1, [.ref qF, .int 0, .int 0, .int 1, .int 0]))] := hD
  refine lv_aload_n hx hb dX5_reset_47 rfl (lv_at hl 0 rfl) ?_
  refine lv_iconst (v := 0) hx hb dX5_reset_48 (by decide) ?_
  refine va_put (D := D) (ci := 5) (v := .int 0) (ty := .int) (C := RX5) (T := TX5) (N := 8) hx hb hts nX5_reset_X5 tyX5 tyX5_ok nmX5 hown hK hP hD hS 0 rfl rfl 7 (by decide) k190 (fun _ h9 => h9) rfl (by decide +kernel) rfl rfl (Nat.le_of_ble_eq_true rfl) dX5_reset_49 (fun H locs hP hD hS => ?_)
  have hP : va_P D vwCl [(qP, .inr (5, [.ref qF, .ref qA, .ref qB, .ref q1, .ref q2, .ref q3, .int 0, .int 0])), (qF, .inr (0, [.int 0, .int 0])), (qA, .inr (2, [.ref qF, .int af1, .int af2, .int apn, .int al1, .int al2, .int 0, .int 0, .int 0, .int 0, .int 0, .int 0])), (qB, .inr (2, [.ref qF, .int bf1, .int bf2, .int bpn, .int bl1, .int bl2, .int 0, .int 0, .int 0, .int 0, .int 0, .int 0])), (q1, .inr (3, [.ref qF, .int 0, .int 0, .int 1, .int 0, .int 0])), (q2, .inr (4, [.ref qF, .int 0, .int 0, .int 0])), (q3, .inr (1, [.ref qF, .int 0, .int 0, .int 1, .int 0]))] H := hP
  have hD : va_D A [(qP, .inr (5, [.ref qF, .ref qA, .ref qB, .ref q1, .ref q2, .ref q3, .int 0, .int 0])), (qF, .inr (0, [.int 0, .int 0])), (qA, .inr (2, [.ref qF, .int af1, .int af2, .int apn, .int al1, .int al2, .int 0, .int 0, .int 0, .int 0, .int 0, .int 0])), (qB, .inr (2, [.ref qF, .int bf1, .int bf2, .int bpn, .int bl1, .int bl2, .int 0, .int 0, .int 0, .int 0, .int 0, .int 0])), (q1, .inr (3, [.ref qF, .int 0, .int 0, .int 1, .int 0, .int 0])), (q2, .inr (4, [.ref qF, .int 0, .int 0, .int 0])), (q3, .inr (1, [.ref qF, .int 0, .int 0, .int 1, .int 0]))] := hD
  exact st_retv hx hb hr hlocks hP hD hS dX5_reset_52
