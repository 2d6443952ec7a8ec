theorem bx_out (x d : Int32) : ((x &&& (127 : Int32)) ||| (128 : Int32)) &&& d = ((x &&& d) &&& (127 : Int32)) ||| (d &&& (128 : Int32)) := by
  apply Int32.toBitVec_inj.mp
  simp only [Int32.toBitVec_and, Int32.toBitVec_or]
  ext i hi
  simp only [BitVec.getElem_and, BitVec.getElem_or]
  cases x.toBitVec[i] <;> cases d.toBitVec[i] <;> cases (127 : Int32).toBitVec[i] <;> cases (128 : Int32).toBitVec[i] <;> rfl
theorem bx_out0 (x d : Int32) : (x &&& (127 : Int32)) &&& d = (x &&& d) &&& (127 : Int32) := by
  apply Int32.toBitVec_inj.mp
  simp only [Int32.toBitVec_and]
  ext i hi
  simp only [BitVec.getElem_and]
  cases x.toBitVec[i] <;> cases d.toBitVec[i] <;> cases (127 : Int32).toBitVec[i] <;> rfl
theorem or_0 (x : Int32) : x ||| (0 : Int32) = x := by
  apply Int32.toBitVec_inj.mp
  simp only [Int32.toBitVec_or]
  ext i hi
  simp
theorem out_1 {co tb ot dr : Int32} (h5 : Rb 8 ot) (h22 : Rb 1 tb) : (f_X5_withTimersBit_ret co tb ot) &&& dr = (if (co &&& (128 : Int32)) = 0 then ot &&& dr else (if tb = 0 then (((ot &&& dr) &&& (127 : Int32)) ||| (0 : Int32)) else (((ot &&& dr) &&& (127 : Int32)) ||| (dr &&& (128 : Int32))))) := by
  unfold f_X5_withTimersBit_ret
  by_cases hc : (co &&& (128 : Int32)) = 0
  · rw [if_pos ((ctl0 co 128).mpr hc), if_pos hc]
  · rw [if_neg (fun q => hc ((ctl0 co 128).mp q)), if_neg hc, b129 h5]
    rcases h22.bit with e | e
    · rw [e, if_pos rfl, show ((0 : Int32) <<< ((7 : Int32) &&& (31 : Int32)) : Int32) = 0 from by decide, or_0, or_0, bx_out0]
    · rw [e, if_neg (by decide), show ((1 : Int32) <<< ((7 : Int32) &&& (31 : Int32)) : Int32) = 128 from by decide, bx_out]
theorem gives_eq {x ue uc : Int32} (hx : ∃ j : Nat, j < 8 ∧ x = nI j) (h1 : Rb 1 ue) (h2 : Rb 1 uc) : (if (4 : Int32) ≤ x then (if x = 4 then (if ue = 0 then (1 : Int32) else 0) else (if x = 5 then (if uc = 0 then 1 else 0) else (if x = 6 then 0 else 1))) else 2) = (if (4 : Int32) ≤ x then f_X6_given_ret x ue uc else 2) := by
  obtain ⟨j, hj, rfl⟩ := hx
  unfold f_X6_given_ret
  rcases (show j = 0 ∨ j = 1 ∨ j = 2 ∨ j = 3 ∨ j = 4 ∨ j = 5 ∨ j = 6 ∨ j = 7 by omega) with rfl | rfl | rfl | rfl | rfl | rfl | rfl | rfl <;> rcases h1.bit with e | e <;> rcases h2.bit with e2 | e2 <;> rw [e, e2] <;> decide
theorem lcb_eq {x md sg ue uc : Int32} (hx : ∃ j : Nat, j < 8 ∧ x = nI j) (h1 : Rb 1 ue) (h2 : Rb 1 uc) : (if (4 : Int32) ≤ x then (if (4 : Int32) ≤ x then (if x = 4 then (if ue = 0 then (1 : Int32) else 0) else (if x = 5 then (if uc = 0 then 1 else 0) else (if x = 6 then 0 else 1))) else 2) else (if md = 6 then sg else (if (4 : Int32) ≤ x then (if x = 4 then (if ue = 0 then (1 : Int32) else 0) else (if x = 5 then (if uc = 0 then 1 else 0) else (if x = 6 then 0 else 1))) else 2))) = (if x ≤ 3 then (if md = 6 then sg else 2) else f_X6_given_ret x ue uc) := by
  rw [gives_eq hx h1 h2]
  have hc : ((4 : Int32) ≤ x ∧ ¬ x ≤ 3) ∨ (¬ (4 : Int32) ≤ x ∧ x ≤ 3) := by
    obtain ⟨j, hj, rfl⟩ := hx
    rcases (show j = 0 ∨ j = 1 ∨ j = 2 ∨ j = 3 ∨ j = 4 ∨ j = 5 ∨ j = 6 ∨ j = 7 by omega) with rfl | rfl | rfl | rfl | rfl | rfl | rfl | rfl <;> decide
  rcases hc with ⟨a, b⟩ | ⟨a, b⟩
  · simp only [if_pos a, if_neg b]
  · simp only [if_neg a, if_pos b]
theorem pt_out (σ lf : Nat → Int32) (hI : Inv σ lf) (u1 : Int32) :
    f_X6_out_m0 u1 = f_X5_out_thr u1 ∧
    ((f_X5_out_thr u1) = 0 → f_X5_out_ret (σ 8) (σ 10) (σ 11) (σ 4) (σ 6) ((σ 9) &&& (15 : Int32)) (σ 14) (σ 15) (σ 5) (σ 7) ((σ 9) >>> ((4 : Int32) &&& (31 : Int32)) : Int32) (σ 16) (σ 17) (σ 22) (σ 29) u1 = f_X6_out_ret (σ 4) (σ 5) (σ 6) (σ 7) (σ 8) (σ 9) (σ 10) (σ 11) (σ 14) (σ 15) (σ 16) (σ 17) (σ 22) (σ 29) u1) ∧
    Inv (sg [f_X6_out_m0 u1, (σ 1), (σ 2), 0, (σ 4), (σ 5), (σ 6), (σ 7), (σ 8), (σ 9), (σ 10), (σ 11), (σ 12), (σ 13), (σ 14), (σ 15), (σ 16), (σ 17), (σ 18), (σ 19), (σ 20), (σ 21), (σ 22), (σ 23), (σ 24), (σ 25), (σ 26), (σ 27), (σ 28), (σ 29), (σ 30)]) lf := by
  obtain ⟨⟨h1, h2, h4, h5, h6, h7, h8, h9, h10, h11, h12, h13⟩, ⟨h14, h15, h16, h17, h18, h19, h20, h21, h22, h23, h24, h25⟩, ⟨h26, h27, h28, h29⟩, hf⟩ := id hI
  refine ⟨?_, ?_, inv_mk h1 h2 h4 h5 h6 h7 h8 h9 h10 h11 h12 h13 h14 h15 h16 h17 h18 h19 h20 h21 h22 h23 h24 h25 h26 h27 h29 h28 hf⟩
  · rcases rc_5 u1 with h | rfl | rfl | rfl | rfl | rfl | h
    · have hn := rn_5 (Or.inl h)
      simp only [f_X6_out_m0, f_X5_out_thr, if_pos h, hn, if_false]
    iterate 5 (· decide)
    · have hn := rn_5 (Or.inr h)
      simp only [f_X6_out_m0, f_X5_out_thr, if_neg (rp_5 h).1, if_neg (rp_5 h).2, hn, if_false]
  · intro ht
    rcases rc_5 u1 with h | rfl | rfl | rfl | rfl | rfl | h
    · have hn := rn_5 (Or.inl h)
      simp only [f_X5_out_thr, hn, if_false] at ht
      exact absurd ht (by decide)
    · simp (decide := true) only [f_X5_out_ret, f_X6_out_ret, if_true, if_false, ↓reduceIte]
    · simp (decide := true) only [f_X5_out_ret, f_X6_out_ret, if_true, if_false, ↓reduceIte]
      exact out_1 h5 h22
    · simp (decide := true) only [f_X5_out_ret, f_X6_out_ret, if_true, if_false, ↓reduceIte]
      unfold f_X2_line2Gives_ret
      rw [wayA_eq h9]
      exact gives_eq (way7 h9 _) h14 h15
    · simp (decide := true) only [f_X5_out_ret, f_X6_out_ret, if_true, if_false, ↓reduceIte]
      unfold f_X5_lineCB2Gives_ret f_X2_line2Gives_ret
      rw [wayB_eq h9]
      exact lcb_eq (way7 h9 _) h16 h17
    · simp (decide := true) only [f_X5_out_ret, f_X6_out_ret, if_true, if_false, ↓reduceIte]
      unfold f_X0_call_ret
      by_cases hc : (σ 10 &&& σ 11) = 0
      · simp only [if_pos hc, if_true]
      · simp (decide := true) only [if_neg hc, if_false]
    · have hn := rn_5 (Or.inr h)
      simp only [f_X5_out_thr, hn, if_false] at ht
      exact absurd ht (by decide)
