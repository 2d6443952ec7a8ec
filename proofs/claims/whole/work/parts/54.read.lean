theorem c1_0 : ((1 : Int32) <<< ((0 : Int32) &&& (31 : Int32)) : Int32) = 1 := by decide
theorem c1_1 : ((1 : Int32) <<< ((1 : Int32) &&& (31 : Int32)) : Int32) = 2 := by decide
theorem c1_2 : ((1 : Int32) <<< ((2 : Int32) &&& (31 : Int32)) : Int32) = 4 := by decide
theorem c1_3 : ((1 : Int32) <<< ((3 : Int32) &&& (31 : Int32)) : Int32) = 8 := by decide
theorem c1_4 : ((1 : Int32) <<< ((4 : Int32) &&& (31 : Int32)) : Int32) = 16 := by decide
theorem c1_5 : ((1 : Int32) <<< ((5 : Int32) &&& (31 : Int32)) : Int32) = 32 := by decide
theorem c1_6 : ((1 : Int32) <<< ((6 : Int32) &&& (31 : Int32)) : Int32) = 64 := by decide
theorem tA_fr {w : Int32} (h : Rb 8 w) (fr : Int32) : f_X2_touch_fr 2 1 (w &&& (15 : Int32)) fr = f_X6_touchA_m10 w fr := by
  unfold f_X2_touch_fr f_X6_touchA_m10
  rw [wayA_eq h, c1_0, c1_1]
theorem tB_fr {w : Int32} (h : Rb 8 w) (fr : Int32) : f_X2_touch_fr 16 8 (w >>> ((4 : Int32) &&& (31 : Int32)) : Int32) fr = f_X6_touchB_m10 w fr := by
  unfold f_X2_touch_fr f_X6_touchB_m10
  rw [wayB_eq h, c1_3, c1_4]
theorem tA_ue {w ue : Int32} (h : Rb 8 w) (hu : Rb 1 ue) : f_X2_giveTouch_ue (w &&& (15 : Int32)) ue = f_X6_touchA_m14 w ue := by
  unfold f_X2_giveTouch_ue f_X6_touchA_m14
  rw [wayA_eq h]
  obtain ⟨j, hj, e⟩ := way7 h ((1 : Int32) &&& (31 : Int32))
  rw [e]
  rcases (show j = 0 ∨ j = 1 ∨ j = 2 ∨ j = 3 ∨ j = 4 ∨ j = 5 ∨ j = 6 ∨ j = 7 by omega) with rfl | rfl | rfl | rfl | rfl | rfl | rfl | rfl <;> rcases hu.bit with e | e <;> rw [e] <;> decide
theorem tA_uc {w ue uc : Int32} (h : Rb 8 w) (hu : Rb 1 ue) (hc : Rb 1 uc) : f_X2_giveTouch_uc (w &&& (15 : Int32)) uc = f_X6_touchA_m15 w ue uc := by
  unfold f_X2_giveTouch_uc f_X6_touchA_m15
  rw [wayA_eq h]
  obtain ⟨j, hj, e⟩ := way7 h ((1 : Int32) &&& (31 : Int32))
  rw [e]
  rcases (show j = 0 ∨ j = 1 ∨ j = 2 ∨ j = 3 ∨ j = 4 ∨ j = 5 ∨ j = 6 ∨ j = 7 by omega) with rfl | rfl | rfl | rfl | rfl | rfl | rfl | rfl <;> rcases hu.bit with e | e <;> rcases hc.bit with e2 | e2 <;> rw [e, e2] <;> decide
theorem tB_ue {w ue : Int32} (h : Rb 8 w) (hu : Rb 1 ue) : f_X2_giveTouch_ue (w >>> ((4 : Int32) &&& (31 : Int32)) : Int32) ue = f_X6_touchB_m16 w ue 1 := by
  unfold f_X2_giveTouch_ue f_X6_touchB_m16
  rw [wayB_eq h]
  obtain ⟨j, hj, e⟩ := way7 h ((5 : Int32) &&& (31 : Int32))
  rw [e]
  rcases (show j = 0 ∨ j = 1 ∨ j = 2 ∨ j = 3 ∨ j = 4 ∨ j = 5 ∨ j = 6 ∨ j = 7 by omega) with rfl | rfl | rfl | rfl | rfl | rfl | rfl | rfl <;> rcases hu.bit with e | e <;> rw [e] <;> decide
theorem tB_uc {w ue uc : Int32} (h : Rb 8 w) (hu : Rb 1 ue) (hc : Rb 1 uc) : f_X2_giveTouch_uc (w >>> ((4 : Int32) &&& (31 : Int32)) : Int32) uc = f_X6_touchB_m17 w ue uc 1 := by
  unfold f_X2_giveTouch_uc f_X6_touchB_m17
  rw [wayB_eq h]
  obtain ⟨j, hj, e⟩ := way7 h ((5 : Int32) &&& (31 : Int32))
  rw [e]
  rcases (show j = 0 ∨ j = 1 ∨ j = 2 ∨ j = 3 ∨ j = 4 ∨ j = 5 ∨ j = 6 ∨ j = 7 by omega) with rfl | rfl | rfl | rfl | rfl | rfl | rfl | rfl <;> rcases hu.bit with e | e <;> rcases hc.bit with e2 | e2 <;> rw [e, e2] <;> decide
theorem tB_ue0 {w ue : Int32} (h : Rb 8 w) (hu : Rb 1 ue) : f_X6_touchB_m16 w ue 0 = ue := by
  unfold f_X6_touchB_m16
  obtain ⟨j, hj, e⟩ := way7 h ((5 : Int32) &&& (31 : Int32))
  rw [e]
  rcases (show j = 0 ∨ j = 1 ∨ j = 2 ∨ j = 3 ∨ j = 4 ∨ j = 5 ∨ j = 6 ∨ j = 7 by omega) with rfl | rfl | rfl | rfl | rfl | rfl | rfl | rfl <;> rcases hu.bit with e | e <;> rw [e] <;> decide
theorem tB_uc0 {w ue uc : Int32} (h : Rb 8 w) (hu : Rb 1 ue) (hc : Rb 1 uc) : f_X6_touchB_m17 w ue uc 0 = uc := by
  unfold f_X6_touchB_m17
  obtain ⟨j, hj, e⟩ := way7 h ((5 : Int32) &&& (31 : Int32))
  rw [e]
  rcases (show j = 0 ∨ j = 1 ∨ j = 2 ∨ j = 3 ∨ j = 4 ∨ j = 5 ∨ j = 6 ∨ j = 7 by omega) with rfl | rfl | rfl | rfl | rfl | rfl | rfl | rfl <;> rcases hu.bit with e | e <;> rcases hc.bit with e2 | e2 <;> rw [e, e2] <;> decide
theorem tA_rb {w fr : Int32} (h : Rb 7 fr) : Rb 7 (f_X6_touchA_m10 w fr) := by
  unfold f_X6_touchA_m10
  (repeat' split) <;> first | exact h.and_l | exact h.and_l.and_l
theorem tB_rb {w fr : Int32} (h : Rb 7 fr) : Rb 7 (f_X6_touchB_m10 w fr) := by
  unfold f_X6_touchB_m10
  (repeat' split) <;> first | exact h.and_l | exact h.and_l.and_l
theorem tA_r14 {w ue : Int32} : Rb 1 (f_X6_touchA_m14 w ue) := by
  unfold f_X6_touchA_m14
  (repeat' split) <;> first | exact Rb.b0 | exact Rb.b1
theorem tA_r15 {w ue uc : Int32} : Rb 1 (f_X6_touchA_m15 w ue uc) := by
  unfold f_X6_touchA_m15
  (repeat' split) <;> first | exact Rb.b0 | exact Rb.b1
theorem tB_r16 {w ue x : Int32} : Rb 1 (f_X6_touchB_m16 w ue x) := by
  unfold f_X6_touchB_m16
  (repeat' split) <;> first | exact Rb.b0 | exact Rb.b1
theorem tB_r17 {w ue uc x : Int32} : Rb 1 (f_X6_touchB_m17 w ue uc x) := by
  unfold f_X6_touchB_m17
  (repeat' split) <;> first | exact Rb.b0 | exact Rb.b1
theorem pA_eq {co fr pn ot dr hp : Int32} (h8 : Rb 8 co) (h10 : Rb 7 fr) : f_X2_port_ret 2 pn ot dr hp fr (f_X5_controlHas_ret co 1) = f_X6_portA_ret pn ot dr co fr hp := by
  unfold f_X2_port_ret f_X6_portA_ret
  rw [(has_eq h10).1]
  by_cases h : (co &&& (1 : Int32)) = 1
  · rw [if_neg (fun q => (ctl_eq h8).1.mp q h), if_pos h]
  · rw [if_pos ((ctl_eq h8).1.mpr h), if_neg h]
theorem pB_eq {co fr pn ot dr hp tb : Int32} (h8 : Rb 8 co) (h10 : Rb 7 fr) (hp8 : Rb 8 hp) (hn8 : Rb 8 pn) (ho8 : Rb 8 ot) (h22 : Rb 1 tb) : f_X5_withTimersBit_ret co tb (f_X2_port_ret 16 pn ot dr hp fr (f_X5_controlHas_ret co 2)) = f_X6_portB_ret pn ot dr co fr hp tb := by
  have key : ∀ v : Int32, Rb 8 v → f_X5_withTimersBit_ret co tb v = (if (co &&& (128 : Int32)) = 0 then v else (if tb = 0 then ((v &&& (127 : Int32)) ||| (0 : Int32)) else ((v &&& (127 : Int32)) ||| (128 : Int32)))) := by
    intro v hv
    unfold f_X5_withTimersBit_ret
    by_cases hc : (co &&& (128 : Int32)) = 0
    · rw [if_pos ((ctl0 co 128).mpr hc), if_pos hc]
    · rw [if_neg (fun q => hc ((ctl0 co 128).mp q)), if_neg hc, b129 hv]
      rcases h22.bit with e | e
      · rw [e, if_pos rfl, show ((0 : Int32) <<< ((7 : Int32) &&& (31 : Int32)) : Int32) = 0 from by decide]
      · rw [e, if_neg (by decide), show ((1 : Int32) <<< ((7 : Int32) &&& (31 : Int32)) : Int32) = 128 from by decide]
  unfold f_X2_port_ret f_X6_portB_ret
  rw [(has_eq h10).2]
  by_cases h : (co &&& (2 : Int32)) = 2
  · rw [if_neg (fun q => (ctl_eq h8).2.mp q h), if_pos h]
    by_cases h3 : f_X6_has_ret fr 4 = 0
    · rw [if_pos h3, if_pos h3, key _ (port_rb ho8 hn8)]
    · rw [if_neg h3, if_neg h3, key _ (port_rb ho8 hp8)]
  · rw [if_pos ((ctl_eq h8).2.mpr h), if_neg h, key _ (port_rb ho8 hn8)]
theorem wc_eq (fr fe : Int32) : f_X0_withCall_ret fr fe = f_X6_allFlags_ret fr fe := by
  unfold f_X0_withCall_ret f_X0_call_ret f_X6_allFlags_ret
  by_cases h : (fr &&& fe) = 0
  · simp only [if_pos h, if_true]
  · simp (decide := true) only [if_neg h, if_false]
theorem rb8 : Rb 4 8 := by unfold Rb; decide
theorem rb_ite {k : Nat} {c : Prop} [Decidable c] {a b : Int32} (h1 : Rb k a) (h2 : Rb k b) : Rb k (if c then a else b) := by
  split
  · exact h1
  · exact h2
theorem pt_read (σ lf : Nat → Int32) (hI : Inv σ lf) (u1 : Int32) :
    f_X6_read_m0 u1 = f_X5_read_thr u1 ∧
    ((f_X5_read_thr u1) = 0 → f_X5_read_ret (σ 8) (σ 10) (σ 11) 2 (σ 1) (σ 4) (σ 6) ((σ 9) &&& (15 : Int32)) (σ 12) 16 (σ 2) (σ 5) (σ 7) ((σ 9) >>> ((4 : Int32) &&& (31 : Int32)) : Int32) (σ 13) (σ 18) (σ 19) (σ 22) (σ 23) (σ 26) u1 = f_X6_read_ret (σ 1) (σ 2) (σ 4) (σ 5) (σ 6) (σ 7) (σ 8) (σ 9) (σ 10) (σ 11) (σ 12) (σ 13) (σ 18) (σ 19) (σ 22) (σ 23) (σ 26) u1) ∧
    f_X5_read_fr (σ 10) 2 1 ((σ 9) &&& (15 : Int32)) 16 8 ((σ 9) >>> ((4 : Int32) &&& (31 : Int32)) : Int32) u1 = f_X6_read_m10 (σ 9) (σ 10) u1 ∧
    f_X5_read_aue ((σ 9) &&& (15 : Int32)) (σ 14) u1 = f_X6_read_m14 (σ 9) (σ 14) u1 ∧
    f_X5_read_auc ((σ 9) &&& (15 : Int32)) (σ 15) u1 = f_X6_read_m15 (σ 9) (σ 14) (σ 15) u1 ∧
    (σ 16) = f_X6_read_m16 (σ 9) (σ 16) u1 ∧
    (σ 17) = f_X6_read_m17 (σ 9) (σ 16) (σ 17) u1 ∧
    f_X5_read_st (σ 27) u1 = f_X6_read_m27 (σ 27) u1 ∧
    f_X5_read_sh (hwf (σ 28)) u1 = hwf (f_X6_read_m28 (σ 28) u1) ∧
    Inv (sg [f_X6_read_m0 u1, (σ 1), (σ 2), 0, (σ 4), (σ 5), (σ 6), (σ 7), (σ 8), (σ 9), f_X6_read_m10 (σ 9) (σ 10) u1, (σ 11), (σ 12), (σ 13), f_X6_read_m14 (σ 9) (σ 14) u1, f_X6_read_m15 (σ 9) (σ 14) (σ 15) u1, f_X6_read_m16 (σ 9) (σ 16) u1, f_X6_read_m17 (σ 9) (σ 16) (σ 17) u1, (σ 18), (σ 19), (σ 20), (σ 21), (σ 22), (σ 23), (σ 24), (σ 25), (σ 26), f_X6_read_m27 (σ 27) u1, f_X6_read_m28 (σ 28) u1, (σ 29), (σ 30)]) lf := by
  obtain ⟨⟨h1, h2, h4, h5, h6, h7, h8, h9, h10, h11, h12, h13⟩, ⟨h14, h15, h16, h17, h18, h19, h20, h21, h22, h23, h24, h25⟩, ⟨h26, h27, h28, h29⟩, hf⟩ := id hI
  refine ⟨?_, ?_, ?_, ?_, ?_, ?_, ?_, ?_, ?_, ?_⟩
  · rcases rc_16 u1 with h | rfl | rfl | rfl | rfl | rfl | rfl | rfl | rfl | rfl | rfl | rfl | rfl | rfl | rfl | rfl | rfl | h
    · have hn := rn_16 (Or.inl h)
      simp only [f_X6_read_m0, f_X5_read_thr, if_pos h, hn, if_false]
    iterate 16 (· decide)
    · have hn := rn_16 (Or.inr h)
      simp only [f_X6_read_m0, f_X5_read_thr, if_neg (rp_16 h).1, if_neg (rp_16 h).2, hn, if_false]
  · intro ht
    rcases rc_16 u1 with h | rfl | rfl | rfl | rfl | rfl | rfl | rfl | rfl | rfl | rfl | rfl | rfl | rfl | rfl | rfl | rfl | h
    · have hn := rn_16 (Or.inl h)
      simp only [f_X5_read_thr, hn, if_false] at ht
      exact absurd ht (by decide)
    · simp (decide := true) only [f_X5_read_ret, f_X6_read_ret, if_true, if_false, ↓reduceIte]
      exact pB_eq h8 h10 h13 h2 h5 h22
    · simp (decide := true) only [f_X5_read_ret, f_X6_read_ret, if_true, if_false, ↓reduceIte]
      exact pA_eq h8 h10
    · simp (decide := true) only [f_X5_read_ret, f_X6_read_ret, if_true, if_false, ↓reduceIte]
    · simp (decide := true) only [f_X5_read_ret, f_X6_read_ret, if_true, if_false, ↓reduceIte]
    · simp (decide := true) only [f_X5_read_ret, f_X6_read_ret, if_true, if_false, ↓reduceIte]
    · simp (decide := true) only [f_X5_read_ret, f_X6_read_ret, if_true, if_false, ↓reduceIte]
    · simp (decide := true) only [f_X5_read_ret, f_X6_read_ret, if_true, if_false, ↓reduceIte]
    · simp (decide := true) only [f_X5_read_ret, f_X6_read_ret, if_true, if_false, ↓reduceIte]
    · simp (decide := true) only [f_X5_read_ret, f_X6_read_ret, if_true, if_false, ↓reduceIte]
    · simp (decide := true) only [f_X5_read_ret, f_X6_read_ret, if_true, if_false, ↓reduceIte]
    · simp (decide := true) only [f_X5_read_ret, f_X6_read_ret, if_true, if_false, ↓reduceIte]
    · simp (decide := true) only [f_X5_read_ret, f_X6_read_ret, if_true, if_false, ↓reduceIte]
    · simp (decide := true) only [f_X5_read_ret, f_X6_read_ret, if_true, if_false, ↓reduceIte]
      exact ways_eq h9
    · simp (decide := true) only [f_X5_read_ret, f_X6_read_ret, if_true, if_false, ↓reduceIte]
      exact wc_eq _ _
    · simp (decide := true) only [f_X5_read_ret, f_X6_read_ret, if_true, if_false, ↓reduceIte]
    · simp (decide := true) only [f_X5_read_ret, f_X6_read_ret, if_true, if_false, ↓reduceIte]
      exact pA_eq h8 h10
    · have hn := rn_16 (Or.inr h)
      simp only [f_X5_read_thr, hn, if_false] at ht
      exact absurd ht (by decide)
  · rcases rc_16 u1 with h | rfl | rfl | rfl | rfl | rfl | rfl | rfl | rfl | rfl | rfl | rfl | rfl | rfl | rfl | rfl | rfl | h
    · have hn := rn_16 (Or.inl h)
      simp only [f_X5_read_fr, f_X6_read_m10, if_pos h, hn, if_false]
    iterate 16 (· simp (decide := true) only [f_X5_read_fr, f_X6_read_m10, if_true, if_false, ↓reduceIte, tA_fr h9, tB_fr h9, c1_6, c1_5, c1_2])
    · have hn := rn_16 (Or.inr h)
      simp only [f_X5_read_fr, f_X6_read_m10, if_neg (rp_16 h).1, if_neg (rp_16 h).2, hn, if_false]
  · rcases rc_16 u1 with h | rfl | rfl | rfl | rfl | rfl | rfl | rfl | rfl | rfl | rfl | rfl | rfl | rfl | rfl | rfl | rfl | h
    · have hn := rn_16 (Or.inl h)
      simp only [f_X5_read_aue, f_X6_read_m14, if_pos h, hn, if_false]
    iterate 16 (· simp (decide := true) only [f_X5_read_aue, f_X6_read_m14, if_true, if_false, ↓reduceIte, tA_ue h9 h14])
    · have hn := rn_16 (Or.inr h)
      simp only [f_X5_read_aue, f_X6_read_m14, if_neg (rp_16 h).1, if_neg (rp_16 h).2, hn, if_false]
  · rcases rc_16 u1 with h | rfl | rfl | rfl | rfl | rfl | rfl | rfl | rfl | rfl | rfl | rfl | rfl | rfl | rfl | rfl | rfl | h
    · have hn := rn_16 (Or.inl h)
      simp only [f_X5_read_auc, f_X6_read_m15, if_pos h, hn, if_false]
    iterate 16 (· simp (decide := true) only [f_X5_read_auc, f_X6_read_m15, if_true, if_false, ↓reduceIte, tA_uc h9 h14 h15])
    · have hn := rn_16 (Or.inr h)
      simp only [f_X5_read_auc, f_X6_read_m15, if_neg (rp_16 h).1, if_neg (rp_16 h).2, hn, if_false]
  · rcases rc_16 u1 with h | rfl | rfl | rfl | rfl | rfl | rfl | rfl | rfl | rfl | rfl | rfl | rfl | rfl | rfl | rfl | rfl | h
    · have hn := rn_16 (Or.inl h)
      simp only [f_X6_read_m16, if_pos h, hn, if_false]
    iterate 16 (· simp (decide := true) only [f_X6_read_m16, if_true, if_false, ↓reduceIte, tB_ue0 h9 h16])
    · have hn := rn_16 (Or.inr h)
      simp only [f_X6_read_m16, if_neg (rp_16 h).1, if_neg (rp_16 h).2, hn, if_false]
  · rcases rc_16 u1 with h | rfl | rfl | rfl | rfl | rfl | rfl | rfl | rfl | rfl | rfl | rfl | rfl | rfl | rfl | rfl | rfl | h
    · have hn := rn_16 (Or.inl h)
      simp only [f_X6_read_m17, if_pos h, hn, if_false]
    iterate 16 (· simp (decide := true) only [f_X6_read_m17, if_true, if_false, ↓reduceIte, tB_uc0 h9 h16 h17])
    · have hn := rn_16 (Or.inr h)
      simp only [f_X6_read_m17, if_neg (rp_16 h).1, if_neg (rp_16 h).2, hn, if_false]
  · rcases rc_16 u1 with h | rfl | rfl | rfl | rfl | rfl | rfl | rfl | rfl | rfl | rfl | rfl | rfl | rfl | rfl | rfl | rfl | h
    · have hn := rn_16 (Or.inl h)
      simp only [f_X5_read_st, f_X6_read_m27, if_pos h, hn, if_false]
    iterate 16 (· simp (decide := true) only [f_X5_read_st, f_X6_read_m27, if_true, if_false, ↓reduceIte])
    · have hn := rn_16 (Or.inr h)
      simp only [f_X5_read_st, f_X6_read_m27, if_neg (rp_16 h).1, if_neg (rp_16 h).2, hn, if_false]
  · rcases rc_16 u1 with h | rfl | rfl | rfl | rfl | rfl | rfl | rfl | rfl | rfl | rfl | rfl | rfl | rfl | rfl | rfl | rfl | h
    · have hn := rn_16 (Or.inl h)
      simp only [f_X5_read_sh, f_X6_read_m28, hwf, if_pos h, hn, if_false]
    iterate 16 (· simp (decide := true) only [f_X5_read_sh, f_X6_read_m28, hwf, if_true, if_false, ↓reduceIte])
    · have hn := rn_16 (Or.inr h)
      simp only [f_X5_read_sh, f_X6_read_m28, hwf, if_neg (rp_16 h).1, if_neg (rp_16 h).2, hn, if_false]
  · have e28 : (f_X6_read_m28 (σ 28) u1 = σ 28 ∧ f_X6_read_m27 (σ 27) u1 = σ 27) ∨ f_X6_read_m28 (σ 28) u1 = 2 := by
      rcases rc_16 u1 with h | rfl | rfl | rfl | rfl | rfl | rfl | rfl | rfl | rfl | rfl | rfl | rfl | rfl | rfl | rfl | rfl | h
      · have hn := rn_16 (Or.inl h)
        simp only [f_X6_read_m27, f_X6_read_m28, if_pos h, hn, if_false, and_self, true_or]
      iterate 16 (· simp (decide := true) only [f_X6_read_m27, f_X6_read_m28, if_true, if_false, ↓reduceIte, and_self, true_or, or_true])
      · have hn := rn_16 (Or.inr h)
        simp only [f_X6_read_m27, f_X6_read_m28, if_neg (rp_16 h).1, if_neg (rp_16 h).2, hn, if_false, and_self, true_or]
    have w28 : f_X6_read_m28 (σ 28) u1 = 0 ∧ f_X6_read_m27 (σ 27) u1 = 0 ∨ f_X6_read_m28 (σ 28) u1 = 1 ∨ f_X6_read_m28 (σ 28) u1 = 2 := by
      rcases e28 with ⟨a, b⟩ | a
      · rw [a, b]; exact h28
      · exact Or.inr (Or.inr a)
    exact inv_mk h1 h2 h4 h5 h6 h7 h8 h9 (by unfold f_X6_read_m10; repeat (first | (with_reducible apply rb_ite) | (with_reducible exact h10) | (with_reducible exact h10.and_l) | (with_reducible exact tA_rb h10) | (with_reducible exact tB_rb h10))) h11 h12 h13 (by unfold f_X6_read_m14; repeat (first | (with_reducible apply rb_ite) | (with_reducible exact h14) | (with_reducible exact tA_r14))) (by unfold f_X6_read_m15; repeat (first | (with_reducible apply rb_ite) | (with_reducible exact h15) | (with_reducible exact tA_r15))) (by unfold f_X6_read_m16; repeat (first | (with_reducible apply rb_ite) | (with_reducible exact h16) | (with_reducible exact tB_r16))) (by unfold f_X6_read_m17; repeat (first | (with_reducible apply rb_ite) | (with_reducible exact h17) | (with_reducible exact tB_r17))) h18 h19 h20 h21 h22 h23 h24 h25 h26 (by unfold f_X6_read_m27; repeat (first | (with_reducible apply rb_ite) | (with_reducible exact h27) | (with_reducible exact rb8))) h29 w28 hf
