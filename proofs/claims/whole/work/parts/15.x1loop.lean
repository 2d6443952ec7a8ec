theorem nn_of {x : Int32} (h : ¬ x < 0) : x = nI x.toNatClampNeg ∧ x.toNatClampNeg < 2 ^ 31 := by
  obtain ⟨j, hj, e⟩ := nI_of h
  have : x.toNatClampNeg = j := by rw [e]; exact nI_clamp hj
  rw [this]
  exact ⟨e, hj⟩
def f_X1_cyc_sb (sb sh p1 p2 : Int32) : Int32 := if sh = 0 then sb else (f_X1_shift_sb sb p1 p2)
def f_X1_cyc_st (st sh : Int32) : Int32 := if sh = 0 then st else (st - (1 : Int32))
def f_X1_cyc_sg (sb sg sh p1 : Int32) : Int32 := if sh = 0 then sg else (f_X1_shift_sg sb sg p1)
def f_X1_cyc_sh (sh : Int32) : Int32 := if sh = 0 then 1 else 0
def f_X1_cyc_fr (st sh fr : Int32) : Int32 := if sh = 0 then fr else (f_X1_shift_fr st fr)
def sl_X1 (p1 : Int32) (p2 : Int32) : Nat → Int32 → Int32 → Int32 → Int32 → Int32 → Int32 × Int32 × Int32 × Int32 × Int32
  | 0, fr, sb, st, sg, sh => (fr, sb, st, sg, sh)
  | k + 1, fr, sb, st, sg, sh => if st ≤ 0 then (fr, sb, st, sg, sh) else sl_X1 p1 p2 k (f_X1_cyc_fr st sh fr) (f_X1_cyc_sb sb sh p1 p2) (f_X1_cyc_st st sh) (f_X1_cyc_sg sb sg sh p1) (f_X1_cyc_sh sh)
def f_X1_goOn_sb (sb st sg sh fr p0 p1 p2 : Int32) : Int32 := if p1 = 2 then ((sl_X1 p1 p2 p0.toNatClampNeg fr sb st sg sh).2.1) else (if p1 = 6 then ((sl_X1 p1 p2 p0.toNatClampNeg fr sb st sg sh).2.1) else sb)
def f_X1_goOn_st (sb st sg sh fr p0 p1 p2 : Int32) : Int32 := if p1 = 2 then ((sl_X1 p1 p2 p0.toNatClampNeg fr sb st sg sh).2.2.1) else (if p1 = 6 then ((sl_X1 p1 p2 p0.toNatClampNeg fr sb st sg sh).2.2.1) else st)
def f_X1_goOn_sg (sb st sg sh fr p0 p1 p2 : Int32) : Int32 := if p1 = 2 then ((sl_X1 p1 p2 p0.toNatClampNeg fr sb st sg sh).2.2.2.1) else (if p1 = 6 then ((sl_X1 p1 p2 p0.toNatClampNeg fr sb st sg sh).2.2.2.1) else sg)
def f_X1_goOn_sh (sb st sg sh fr p0 p1 p2 : Int32) : Int32 := if p1 = 2 then ((sl_X1 p1 p2 p0.toNatClampNeg fr sb st sg sh).2.2.2.2) else (if p1 = 6 then ((sl_X1 p1 p2 p0.toNatClampNeg fr sb st sg sh).2.2.2.2) else sh)
def f_X1_goOn_fr (sb st sg sh fr p0 p1 p2 : Int32) : Int32 := if p1 = 2 then ((sl_X1 p1 p2 p0.toNatClampNeg fr sb st sg sh).1) else (if p1 = 6 then ((sl_X1 p1 p2 p0.toNatClampNeg fr sb st sg sh).1) else fr)
theorem nX1_goOn_X1 : ∀ w ∈ wsX10, w ∈ wsX1_goOn := fun w h => List.mem_cons_of_mem _ (List.mem_append_left _ (List.mem_append_right _ h))
set_option maxHeartbeats 4000000 in
set_option maxRecDepth 100000 in
theorem k_X1_goOn (l : Launch) (D : va_G) (q3 qF : Nat) (sb st sg sh fr fe p0 p1 p2 : Int32) (hnn : ¬ p0 < 0) : stV l yX1_goOn wsX1_goOn ({ frames := 2, cells := 0, slots := 0, locals := 45 } : Room) D [] tE [.ref q3, .int p0, .int p1, .int p2] [(q3, .inr (1, [.ref qF, .int sb, .int st, .int sg, .int sh])), (qF, .inr (0, [.int fr, .int fe]))] [(q3, .inr (1, [.ref qF, .int (f_X1_goOn_sb sb st sg sh fr p0 p1 p2), .int (f_X1_goOn_st sb st sg sh fr p0 p1 p2), .int (f_X1_goOn_sg sb st sg sh fr p0 p1 p2), .int (f_X1_goOn_sh sb st sg sh fr p0 p1 p2)])), (qF, .inr (0, [.int (f_X1_goOn_fr sb st sg sh fr p0 p1 p2), .int fe]))] := by
  intro sz
  refine Met.ofW (cc := cX1_goOn) (maxL := 5) (ret := none) (by decide) rfl ?_
  intro p e s m args below meth c s₁ B hml hv
  obtain ⟨rfl, rfl, hP, hK, hD, hE⟩ := st_open hv
  have hx := B.exec
  have hb := B.bytes
  have hr := B.returns
  have hts := atoms_spec (ws := wsX1_goOn) B.pre
  have hown : s.vm.findClass RX1 = some m.cls := findClass_of_methodNamed B.named
  have hlocks := B.notSynchronized
  generalize hAe : va_A [(q3, .inr (1, [.ref qF, .int sb, .int st, .int sg, .int sh])), (qF, .inr (0, [.int fr, .int fe]))] s.heap.size = A at hD ⊢
  have hA : ∀ q : Nat, s.heap.size ≤ q → A q := fun q h => by rw [← hAe]; exact Or.inr h
  have hS : va_S A s.heap s.heap [] := va_S.rf
  have k22 := hts (.fieldLink RX1 22 "PortTimers$Shifter" "toCome" "I") (by decide +kernel)
  have k25 := hts (.fieldLink RX1 25 "PortTimers$Shifter" "halfway" "Z") (by decide +kernel)
  have hl := lv_entry ([.ref q3, .int p0, .int p1, .int p2]) (n := 5) (Nat.le_of_ble_eq_true rfl)
  rw [lg_entry_eq]
  generalize (lg_sl ([.ref q3, .int p0, .int p1, .int p2]) ++ List.replicate (5 - (lg_sl ([.ref q3, .int p0, .int p1, .int p2])).length) Slot.unset).toArray = ls at hl ⊢
  have hl : lv_has ls 5 [(0, .ref q3), (1, .int p0), (2, .int p1), (3, .int p2)] := hl
  have loop : ∀ (k i : Nat) (x4 fr sb st sg sh : Int32), x4 = nI i → i + k = p0.toNatClampNeg → ∀ (H : Heap) (locs : List Loc) (ls : Array Slot), va_P D vwCl [(q3, .inr (1, [.ref qF, .int sb, .int st, .int sg, .int sh])), (qF, .inr (0, [.int fr, .int fe]))] H → va_D A [(q3, .inr (1, [.ref qF, .int sb, .int st, .int sg, .int sh])), (qF, .inr (0, [.int fr, .int fe]))] → va_S A s.heap H locs → lv_has ls 5 [(4, .int x4), (0, .ref q3), (1, .int p0), (2, .int p1), (3, .int p2)] → W p l e (headSpec wsX1_goOn ({ frames := 2, cells := 0, slots := 0, locals := 45 } : Room)).room s m ([.ref q3, .int p0, .int p1, .int p2] : List Value).toArray below meth c H locs 0 0 (MQ below (va_Qv (fun _ : Unit => True) (stB D A [(q3, .inr (1, [.ref qF, .int ((sl_X1 p1 p2 k fr sb st sg sh).2.1), .int ((sl_X1 p1 p2 k fr sb st sg sh).2.2.1), .int ((sl_X1 p1 p2 k fr sb st sg sh).2.2.2.1), .int ((sl_X1 p1 p2 k fr sb st sg sh).2.2.2.2)])), (qF, .inr (0, [.int ((sl_X1 p1 p2 k fr sb st sg sh).1), .int fe]))]) A) ([.ref q3, .int p0, .int p1, .int p2] : List Value).toArray s 0 0 A) (F0 m 15 ls []) := by
    have hp := nn_of hnn
    intro k
    induction k with
    | zero =>
      intro i x4 fr sb st sg sh ex hi H locs ls hP hD hS hl
      have hge : p0 ≤ x4 := by rw [hp.1, ex]; exact nI_le (by omega) (by omega)
      refine lv_iload hx hb dX1_goOn_15 (lv_at hl 0 rfl) ?_
      refine lv_iload_n hx hb dX1_goOn_17 rfl (lv_at hl 2 rfl) ?_
      refine lv_icmp_ge (tgt := 63) hx hb dX1_goOn_18 (by decide) (fun _ => ?_) (fun cc => absurd hge cc)
      have hs : sl_X1 p1 p2 0 fr sb st sg sh = (fr, sb, st, sg, sh) := by simp only [sl_X1]
      rw [hs]
      exact st_retv hx hb hr hlocks hP hD hS dX1_goOn_63
    | succ k ih =>
      intro i x4 fr sb st sg sh ex hi H locs ls hP hD hS hl
      have hge : ¬ p0 ≤ x4 := by rw [hp.1, ex]; exact nI_ge (by omega) (by omega)
      refine lv_iload hx hb dX1_goOn_15 (lv_at hl 0 rfl) ?_
      refine lv_iload_n hx hb dX1_goOn_17 rfl (lv_at hl 2 rfl) ?_
      refine lv_icmp_ge (tgt := 63) hx hb dX1_goOn_18 (by decide) (fun cc => absurd cc hge) (fun _ => ?_)
      refine lv_aload_n hx hb dX1_goOn_21 rfl (lv_at hl 1 rfl) ?_
      refine va_get (D := D) (ci := 1) (v := .int st) (C := RX1) (T := TX1) (N := 5) hx hb hts nX1_goOn_X1 hown hK hP 0 rfl rfl 2 (by decide) k22 (fun _ h9 => h9) rfl dX1_goOn_22 ?_
      refine lv_if_le (tgt := 63) hx hb dX1_goOn_25 (by decide) (fun c_201 => ?_) (fun c_201 => ?_)
      · have hs : sl_X1 p1 p2 (k + 1) fr sb st sg sh = (fr, sb, st, sg, sh) := by simp only [sl_X1, if_pos c_201]
        rw [hs]
        exact st_retv hx hb hr hlocks hP hD hS dX1_goOn_63
      · refine lv_aload_n hx hb dX1_goOn_28 rfl (lv_at hl 1 rfl) ?_
        refine va_get (D := D) (ci := 1) (v := .int sh) (C := RX1) (T := TX1) (N := 5) hx hb hts nX1_goOn_X1 hown hK hP 0 rfl rfl 4 (by decide) k25 (fun _ h9 => h9) rfl dX1_goOn_29 ?_
        refine lv_if_eq (tgt := 41) hx hb dX1_goOn_32 (by decide) (fun c_202 => ?_) (fun c_202 => ?_)
        · refine lv_aload_n hx hb dX1_goOn_41 rfl (lv_at hl 1 rfl) ?_
          refine lv_aload_n hx hb dX1_goOn_42 rfl (lv_at hl 1 rfl) ?_
          refine va_get (D := D) (ci := 1) (v := .int sh) (C := RX1) (T := TX1) (N := 5) hx hb hts nX1_goOn_X1 hown hK hP 0 rfl rfl 4 (by decide) k25 (fun _ h9 => h9) rfl dX1_goOn_43 ?_
          refine lv_if_ne (tgt := 53) hx hb dX1_goOn_46 (by decide) (fun cc => absurd c_202 cc) (fun _ => ?_)
          refine lv_iconst (v := 1) hx hb dX1_goOn_49 (by decide) ?_
          refine lv_goto (tgt := 54) hx hb dX1_goOn_50 (by decide) ?_
          refine va_put (D := D) (ci := 1) (v := .int 1) (ty := .boolean) (C := RX1) (T := TX1) (N := 5) hx hb hts nX1_goOn_X1 tyX1 tyX1_ok nmX1 hown hK hP hD hS 0 rfl rfl 4 (by decide) k25 (fun _ h9 => h9) rfl (by decide +kernel) rfl rfl (Nat.le_of_ble_eq_true rfl) dX1_goOn_54 (fun H locs hP hD hS => ?_)
          have hP : va_P D vwCl [(q3, .inr (1, [.ref qF, .int sb, .int st, .int sg, .int 1])), (qF, .inr (0, [.int fr, .int fe]))] H := hP
          have hD : va_D A [(q3, .inr (1, [.ref qF, .int sb, .int st, .int sg, .int 1])), (qF, .inr (0, [.int fr, .int fe]))] := hD
          refine lv_iinc (v := x4 + 1) (lv' := [(4, .int (x4 + 1)), (0, .ref q3), (1, .int p0), (2, .int p1), (3, .int p2)]) hx hb dX1_goOn_57 hl (k := 0) rfl rfl (by decide) rfl (fun ls hl => ?_)
          refine lv_goto (tgt := 15) hx hb dX1_goOn_60 (by decide) ?_
          have hs : sl_X1 p1 p2 (k + 1) fr sb st sg sh = sl_X1 p1 p2 k fr sb st sg 1 := by simp only [sl_X1, f_X1_cyc_sb, f_X1_cyc_st, f_X1_cyc_sg, f_X1_cyc_sh, f_X1_cyc_fr, if_neg hge, if_neg c_201, if_pos c_202]
          rw [hs]
          exact ih (i + 1) (x4 + 1) fr sb st sg 1 (by rw [ex]; exact nI_1 i) (by omega) H locs ls hP hD hS (lv_sub hl [0, 1, 2, 3, 4] rfl)
        · refine lv_aload_n hx hb dX1_goOn_35 rfl (lv_at hl 1 rfl) ?_
          refine lv_iload_n hx hb dX1_goOn_36 rfl (lv_at hl 3 rfl) ?_
          refine lv_iload_n hx hb dX1_goOn_37 rfl (lv_at hl 4 rfl) ?_
          refine st_vV (As := [.int p1, .int p2]) (rest := []) (wc := [(q3, .inr (1, [.ref qF, .int sb, .int st, .int sg, .int sh])), (qF, .inr (0, [.int fr, .int fe]))]) (wr := []) (w1 := [(q3, .inr (1, [.ref qF, .int (f_X1_shift_sb sb p1 p2), .int (st - (1 : Int32)), .int (f_X1_shift_sg sb sg p1), .int sh])), (qF, .inr (0, [.int (f_X1_shift_fr st fr), .int fe]))]) (wn := [(q3, .inr (1, [.ref qF, .int (f_X1_shift_sb sb p1 p2), .int (st - (1 : Int32)), .int (f_X1_shift_sg sb sg p1), .int sh])), (qF, .inr (0, [.int (f_X1_shift_fr st fr), .int fe]))]) ⟨hx, hb, hml, hown, hts⟩ (k_X1_shift l D q3 qF sb st sg sh fr fe p1 p2) (cwV 2 hts gX1_goOn_X1_shift rfl rfl rfl (by decide +kernel) ⟨Nat.le_of_ble_eq_true rfl, Nat.le_of_ble_eq_true rfl⟩) tE_v (fun _ _ => trivial) hK hP hD hS hA (fun hPc => va_recv hK hPc (ci := 1) (q0 := 0) rfl rfl) [0, 1] [] [0, 1] rfl rfl (by decide) rfl rfl rfl hl.1 (Nat.le_of_ble_eq_true rfl) dX1_goOn_38 ⟨Nat.zero_le _, Nat.zero_le _⟩ (fun H locs hP hD hS => ?_)
          refine lv_aload_n hx hb dX1_goOn_41 rfl (lv_at hl 1 rfl) ?_
          refine lv_aload_n hx hb dX1_goOn_42 rfl (lv_at hl 1 rfl) ?_
          refine va_get (D := D) (ci := 1) (v := .int sh) (C := RX1) (T := TX1) (N := 5) hx hb hts nX1_goOn_X1 hown hK hP 0 rfl rfl 4 (by decide) k25 (fun _ h9 => h9) rfl dX1_goOn_43 ?_
          refine lv_if_ne (tgt := 53) hx hb dX1_goOn_46 (by decide) (fun _ => ?_) (fun cc => absurd cc c_202)
          refine lv_iconst (v := 0) hx hb dX1_goOn_53 (by decide) ?_
          refine va_put (D := D) (ci := 1) (v := .int 0) (ty := .boolean) (C := RX1) (T := TX1) (N := 5) hx hb hts nX1_goOn_X1 tyX1 tyX1_ok nmX1 hown hK hP hD hS 0 rfl rfl 4 (by decide) k25 (fun _ h9 => h9) rfl (by decide +kernel) rfl rfl (Nat.le_of_ble_eq_true rfl) dX1_goOn_54 (fun H locs hP hD hS => ?_)
          have hP : va_P D vwCl [(q3, .inr (1, [.ref qF, .int (f_X1_shift_sb sb p1 p2), .int (st - (1 : Int32)), .int (f_X1_shift_sg sb sg p1), .int 0])), (qF, .inr (0, [.int (f_X1_shift_fr st fr), .int fe]))] H := hP
          have hD : va_D A [(q3, .inr (1, [.ref qF, .int (f_X1_shift_sb sb p1 p2), .int (st - (1 : Int32)), .int (f_X1_shift_sg sb sg p1), .int 0])), (qF, .inr (0, [.int (f_X1_shift_fr st fr), .int fe]))] := hD
          refine lv_iinc (v := x4 + 1) (lv' := [(4, .int (x4 + 1)), (0, .ref q3), (1, .int p0), (2, .int p1), (3, .int p2)]) hx hb dX1_goOn_57 hl (k := 0) rfl rfl (by decide) rfl (fun ls hl => ?_)
          refine lv_goto (tgt := 15) hx hb dX1_goOn_60 (by decide) ?_
          have hs : sl_X1 p1 p2 (k + 1) fr sb st sg sh = sl_X1 p1 p2 k (f_X1_shift_fr st fr) (f_X1_shift_sb sb p1 p2) (st - (1 : Int32)) (f_X1_shift_sg sb sg p1) 0 := by simp only [sl_X1, f_X1_cyc_sb, f_X1_cyc_st, f_X1_cyc_sg, f_X1_cyc_sh, f_X1_cyc_fr, if_neg hge, if_neg c_201, if_neg c_202]
          rw [hs]
          exact ih (i + 1) (x4 + 1) (f_X1_shift_fr st fr) (f_X1_shift_sb sb p1 p2) (st - (1 : Int32)) (f_X1_shift_sg sb sg p1) 0 (by rw [ex]; exact nI_1 i) (by omega) H locs ls hP hD hS (lv_sub hl [0, 1, 2, 3, 4] rfl)
  refine lv_iload_n hx hb dX1_goOn_0 rfl (lv_at hl 2 rfl) ?_
  refine lv_iconst (v := 2) hx hb dX1_goOn_1 (by decide) ?_
  refine lv_icmp_eq (tgt := 12) hx hb dX1_goOn_2 (by decide) (fun c_1 => ?_) (fun c_1 => ?_)
  · refine lv_iconst (v := 0) hx hb dX1_goOn_12 (by decide) ?_
    refine lv_istore (lv' := [(4, .int 0), (0, .ref q3), (1, .int p0), (2, .int p1), (3, .int p2)]) hx hb dX1_goOn_13 hl (by decide) rfl (fun ls hl => ?_)
    have hw : ([(q3, .inr (1, [.ref qF, .int (f_X1_goOn_sb sb st sg sh fr p0 p1 p2), .int (f_X1_goOn_st sb st sg sh fr p0 p1 p2), .int (f_X1_goOn_sg sb st sg sh fr p0 p1 p2), .int (f_X1_goOn_sh sb st sg sh fr p0 p1 p2)])), (qF, .inr (0, [.int (f_X1_goOn_fr sb st sg sh fr p0 p1 p2), .int fe]))] : va_W) = [(q3, .inr (1, [.ref qF, .int ((sl_X1 p1 p2 p0.toNatClampNeg fr sb st sg sh).2.1), .int ((sl_X1 p1 p2 p0.toNatClampNeg fr sb st sg sh).2.2.1), .int ((sl_X1 p1 p2 p0.toNatClampNeg fr sb st sg sh).2.2.2.1), .int ((sl_X1 p1 p2 p0.toNatClampNeg fr sb st sg sh).2.2.2.2)])), (qF, .inr (0, [.int ((sl_X1 p1 p2 p0.toNatClampNeg fr sb st sg sh).1), .int fe]))] := by simp only [f_X1_goOn_sb, f_X1_goOn_st, f_X1_goOn_sg, f_X1_goOn_sh, f_X1_goOn_fr, if_pos c_1]
    rw [hw]
    exact loop p0.toNatClampNeg 0 0 fr sb st sg sh nI_0.symm (by omega) _ _ ls hP hD hS (lv_sub hl [0, 1, 2, 3, 4] rfl)
  · refine lv_iload_n hx hb dX1_goOn_5 rfl (lv_at hl 2 rfl) ?_
    refine lv_bipush (v := 6) hx hb dX1_goOn_6 (by decide) ?_
    refine lv_icmp_eq (tgt := 12) hx hb dX1_goOn_8 (by decide) (fun c_2 => ?_) (fun c_2 => ?_)
    · refine lv_iconst (v := 0) hx hb dX1_goOn_12 (by decide) ?_
      refine lv_istore (lv' := [(4, .int 0), (0, .ref q3), (1, .int p0), (2, .int p1), (3, .int p2)]) hx hb dX1_goOn_13 hl (by decide) rfl (fun ls hl => ?_)
      have hw : ([(q3, .inr (1, [.ref qF, .int (f_X1_goOn_sb sb st sg sh fr p0 p1 p2), .int (f_X1_goOn_st sb st sg sh fr p0 p1 p2), .int (f_X1_goOn_sg sb st sg sh fr p0 p1 p2), .int (f_X1_goOn_sh sb st sg sh fr p0 p1 p2)])), (qF, .inr (0, [.int (f_X1_goOn_fr sb st sg sh fr p0 p1 p2), .int fe]))] : va_W) = [(q3, .inr (1, [.ref qF, .int ((sl_X1 p1 p2 p0.toNatClampNeg fr sb st sg sh).2.1), .int ((sl_X1 p1 p2 p0.toNatClampNeg fr sb st sg sh).2.2.1), .int ((sl_X1 p1 p2 p0.toNatClampNeg fr sb st sg sh).2.2.2.1), .int ((sl_X1 p1 p2 p0.toNatClampNeg fr sb st sg sh).2.2.2.2)])), (qF, .inr (0, [.int ((sl_X1 p1 p2 p0.toNatClampNeg fr sb st sg sh).1), .int fe]))] := by simp only [f_X1_goOn_sb, f_X1_goOn_st, f_X1_goOn_sg, f_X1_goOn_sh, f_X1_goOn_fr, if_neg c_1, if_pos c_2]
      rw [hw]
      exact loop p0.toNatClampNeg 0 0 fr sb st sg sh nI_0.symm (by omega) _ _ ls hP hD hS (lv_sub hl [0, 1, 2, 3, 4] rfl)
    · have hw : ([(q3, .inr (1, [.ref qF, .int (f_X1_goOn_sb sb st sg sh fr p0 p1 p2), .int (f_X1_goOn_st sb st sg sh fr p0 p1 p2), .int (f_X1_goOn_sg sb st sg sh fr p0 p1 p2), .int (f_X1_goOn_sh sb st sg sh fr p0 p1 p2)])), (qF, .inr (0, [.int (f_X1_goOn_fr sb st sg sh fr p0 p1 p2), .int fe]))] : va_W) = [(q3, .inr (1, [.ref qF, .int sb, .int st, .int sg, .int sh])), (qF, .inr (0, [.int fr, .int fe]))] := by simp only [f_X1_goOn_sb, f_X1_goOn_st, f_X1_goOn_sg, f_X1_goOn_sh, f_X1_goOn_fr, if_neg c_1, if_neg c_2]
      exact st_retv hx hb hr hlocks (by rw [hw]; exact hP) (by rw [hw]; exact hD) hS dX1_goOn_11
