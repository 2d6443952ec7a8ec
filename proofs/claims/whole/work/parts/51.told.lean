theorem pt_reset (σ lf : Nat → Int32) (hI : Inv σ lf) :
    (0 : Int32) = 0 &&& (15 : Int32) ∧
    (0 : Int32) = (0 >>> ((4 : Int32) &&& (31 : Int32)) : Int32) ∧
    (0 : Int32) = hwf 0 ∧
    Inv (sg [0, (σ 1), (σ 2), 0, 0, 0, 0, 0, 0, 0, 0, 0, 0, 0, 0, 0, 0, 0, 0, 0, 0, 0, 1, 0, 0, 0, 0, 0, 0, 1, 0]) lf := by
  obtain ⟨⟨h1, h2, h4, h5, h6, h7, h8, h9, h10, h11, h12, h13⟩, ⟨h14, h15, h16, h17, h18, h19, h20, h21, h22, h23, h24, h25⟩, ⟨h26, h27, h28, h29⟩, hf⟩ := id hI
  refine ⟨by decide, by decide, by decide, ?_⟩
  exact inv_mk h1 h2 Rb.b0 Rb.b0 Rb.b0 Rb.b0 Rb.b0 Rb.b0 Rb.b0 Rb.b0 Rb.b0 Rb.b0 Rb.b0 Rb.b0 Rb.b0 Rb.b0 Rb.b0 Rb.b0 Rb.b0 Rb.b0 Rb.b1 Rb.b0 Rb.b0 Rb.b0 Rb.b0 Rb.b0 Rb.b1 (Or.inl ⟨rfl, rfl⟩) hf

theorem pt_told (σ lf : Nat → Int32) (hI : Inv σ lf) (u1 : Int32) :
    f_X6_told_m0 u1 = f_X5_told_thr u1 ∧
    ((f_X5_told_thr u1) = 0 → f_X5_told_ret (σ 30) (σ 18) (σ 19) (σ 22) (σ 20) (σ 23) (σ 25) (σ 27) u1 = f_X6_told_ret (σ 18) (σ 19) (σ 20) (σ 22) (σ 23) (σ 25) (σ 27) (σ 30) u1) ∧
    Inv (sg [f_X6_told_m0 u1, (σ 1), (σ 2), 0, (σ 4), (σ 5), (σ 6), (σ 7), (σ 8), (σ 9), (σ 10), (σ 11), (σ 12), (σ 13), (σ 14), (σ 15), (σ 16), (σ 17), (σ 18), (σ 19), (σ 20), (σ 21), (σ 22), (σ 23), (σ 24), (σ 25), (σ 26), (σ 27), (σ 28), (σ 29), (σ 30)]) lf := by
  obtain ⟨⟨h1, h2, h4, h5, h6, h7, h8, h9, h10, h11, h12, h13⟩, ⟨h14, h15, h16, h17, h18, h19, h20, h21, h22, h23, h24, h25⟩, ⟨h26, h27, h28, h29⟩, hf⟩ := id hI
  refine ⟨?_, ?_, inv_mk h1 h2 h4 h5 h6 h7 h8 h9 h10 h11 h12 h13 h14 h15 h16 h17 h18 h19 h20 h21 h22 h23 h24 h25 h26 h27 h29 h28 hf⟩
  · rcases rc_7 u1 with h | rfl | rfl | rfl | rfl | rfl | rfl | rfl | h
    · have hn := rn_7 (Or.inl h)
      simp only [f_X6_told_m0, f_X5_told_thr, if_pos h, hn, if_false]
    iterate 7 (· decide)
    · have hn := rn_7 (Or.inr h)
      simp only [f_X6_told_m0, f_X5_told_thr, if_neg (rp_7 h).1, if_neg (rp_7 h).2, hn, if_false]
  · intro ht
    rcases rc_7 u1 with h | rfl | rfl | rfl | rfl | rfl | rfl | rfl | h
    · have hn := rn_7 (Or.inl h)
      simp only [f_X5_told_thr, hn, if_false] at ht
      exact absurd ht (by decide)
    · simp (decide := true) only [f_X5_told_ret, f_X6_told_ret, if_true, if_false, ↓reduceIte]
    · simp (decide := true) only [f_X5_told_ret, f_X6_told_ret, if_true, if_false, ↓reduceIte]
    · simp (decide := true) only [f_X5_told_ret, f_X6_told_ret, if_true, if_false, ↓reduceIte]
    · simp (decide := true) only [f_X5_told_ret, f_X6_told_ret, if_true, if_false, ↓reduceIte]
    · simp (decide := true) only [f_X5_told_ret, f_X6_told_ret, if_true, if_false, ↓reduceIte]
      rcases h22.bit with e | e <;> rw [e] <;> decide
    · simp (decide := true) only [f_X5_told_ret, f_X6_told_ret, if_true, if_false, ↓reduceIte]
      rcases h20.bit with e | e <;> rcases h25.bit with e2 | e2 <;> rw [e, e2] <;> decide
    · simp (decide := true) only [f_X5_told_ret, f_X6_told_ret, if_true, if_false, ↓reduceIte]
    · have hn := rn_7 (Or.inr h)
      simp only [f_X5_told_thr, hn, if_false] at ht
      exact absurd ht (by decide)

