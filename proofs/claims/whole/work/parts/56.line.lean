theorem mv1A {l v w A B : Int32} (h : Rb 8 w) (hl : l = 0 ∨ l = 1) (hv : v = 0 ∨ v = 1) : (if ((w &&& (15 : Int32)) &&& (1 : Int32)) = 0 then (if v = l then A else (if v = 0 then B else A)) else (if v = l then A else (if v = 1 then B else A))) = (if l = v then A else (if (w &&& (1 : Int32)) = 1 then (if (1 : Int32) = v then B else A) else (if (0 : Int32) = v then B else A))) := by
  rw [lowA_eq h]
  by_cases c : (w &&& (1 : Int32)) = 1
  · rw [if_neg (fun q => (lowB_eq h).2.mp q c)]
    simp only [if_pos c]
    rcases hl with rfl | rfl <;> rcases hv with rfl | rfl <;> simp (decide := true) only [if_true, if_false, ↓reduceIte]
  · rw [if_pos ((lowB_eq h).2.mpr c)]
    simp only [if_neg c]
    rcases hl with rfl | rfl <;> rcases hv with rfl | rfl <;> simp (decide := true) only [if_true, if_false, ↓reduceIte]
theorem mv1B {l v w A B : Int32} (h : Rb 8 w) (hl : l = 0 ∨ l = 1) (hv : v = 0 ∨ v = 1) : (if ((w >>> ((4 : Int32) &&& (31 : Int32)) : Int32) &&& (1 : Int32)) = 0 then (if v = l then A else (if v = 0 then B else A)) else (if v = l then A else (if v = 1 then B else A))) = (if l = v then A else (if (w &&& (16 : Int32)) = 16 then (if (1 : Int32) = v then B else A) else (if (0 : Int32) = v then B else A))) := by
  by_cases c : (w &&& (16 : Int32)) = 16
  · rw [if_neg (fun q => (lowB_eq h).1.mp q c)]
    simp only [if_pos c]
    rcases hl with rfl | rfl <;> rcases hv with rfl | rfl <;> simp (decide := true) only [if_true, if_false, ↓reduceIte]
  · rw [if_pos ((lowB_eq h).1.mpr c)]
    simp only [if_neg c]
    rcases hl with rfl | rfl <;> rcases hv with rfl | rfl <;> simp (decide := true) only [if_true, if_false, ↓reduceIte]
theorem mv2g {x l v A B : Int32} (hx : ∃ j : Nat, j < 8 ∧ x = nI j) (hl : l = 0 ∨ l = 1) (hv : v = 0 ∨ v = 1) : (if x < 2 then (if (4 : Int32) ≤ x then A else (if v = l then A else (if v = 0 then B else A))) else (if (4 : Int32) ≤ x then A else (if v = l then A else (if v = 1 then B else A)))) = (if l = v then A else (if x ≤ 1 then (if (4 : Int32) ≤ x then A else (if (0 : Int32) = v then B else A)) else (if (4 : Int32) ≤ x then A else (if (1 : Int32) = v then B else A)))) := by
  have hc : (x < 2 ∧ x ≤ 1) ∨ (¬ x < 2 ∧ ¬ x ≤ 1) := by
    obtain ⟨j, hj, rfl⟩ := hx
    rcases (show j = 0 ∨ j = 1 ∨ j = 2 ∨ j = 3 ∨ j = 4 ∨ j = 5 ∨ j = 6 ∨ j = 7 by omega) with rfl | rfl | rfl | rfl | rfl | rfl | rfl | rfl <;> decide
  by_cases h4 : (4 : Int32) ≤ x
  · simp only [if_pos h4, ite_self]
  · simp only [if_neg h4]
    rcases hc with ⟨a, b⟩ | ⟨a, b⟩
    · simp only [if_pos a, if_pos b]
      rcases hl with rfl | rfl <;> rcases hv with rfl | rfl <;> simp (decide := true) only [if_true, if_false, ↓reduceIte]
    · simp only [if_neg a, if_neg b]
      rcases hl with rfl | rfl <;> rcases hv with rfl | rfl <;> simp (decide := true) only [if_true, if_false, ↓reduceIte]
theorem nar_b {v : Int32} (hv : v = 0 ∨ v = 1) : vp_nar .boolean v = v := by
  rcases hv with rfl | rfl <;> rfl
theorem tn0 : (0 : Int32).toNatClampNeg = 0 := by decide
theorem tn1 : (1 : Int32).toNatClampNeg = 1 := by decide
theorem tn2 : (2 : Int32).toNatClampNeg = 2 := by decide
theorem tn3 : (3 : Int32).toNatClampNeg = 3 := by decide
theorem ln_lf {lf : Nat → Int32} {u v : Int32} (hf : ∀ k, k < 4 → Rb 1 (lf k)) (hv : v = 0 ∨ v = 1) : ∀ k, k < 4 → Rb 1 (f_X6_line_lf lf u v k) := by
  intro k hk
  have hv1 : Rb 1 v := by
    rcases hv with rfl | rfl
    · exact Rb.b0
    · exact Rb.b1
  unfold f_X6_line_lf
  by_cases h1 : u < 0
  · rw [if_pos h1]; exact hf k hk
  · rw [if_neg h1]
    by_cases h2 : u ≤ 3
    · rw [if_pos h2, nar_b hv]
      unfold upd
      by_cases h3 : k = u.toNatClampNeg
      · rw [if_pos h3]; exact hv1
      · rw [if_neg h3]; exact hf k hk
    · rw [if_neg h2]; exact hf k hk
theorem pt_line (σ lf : Nat → Int32) (hI : Inv σ lf) (u1 : Int32) (v : Int32) (hv : v = 0 ∨ v = 1) :
    f_X6_line_m0 u1 = f_X5_line_thr u1 ∧
    ((f_X5_line_thr u1) = 0 → f_X5_line_ret (lf 0) (lf 1) ((σ 9) &&& (15 : Int32)) (lf 2) (lf 3) ((σ 9) >>> ((4 : Int32) &&& (31 : Int32)) : Int32) u1 v = f_X6_line_ret (σ 9) lf u1 v) ∧
    f_X5_line_fr (σ 10) 2 1 (lf 0) (lf 1) ((σ 9) &&& (15 : Int32)) 16 8 (lf 2) (lf 3) ((σ 9) >>> ((4 : Int32) &&& (31 : Int32)) : Int32) u1 v = f_X6_line_m10 (σ 9) (σ 10) lf u1 v ∧
    f_X5_line_al1 (lf 0) u1 v = (f_X6_line_lf lf u1 v) 0 ∧
    f_X5_line_al2 (lf 1) u1 v = (f_X6_line_lf lf u1 v) 1 ∧
    f_X5_line_ahp (σ 1) (lf 0) ((σ 9) &&& (15 : Int32)) (σ 12) u1 v = f_X6_line_m12 (σ 1) (σ 9) (σ 12) lf u1 v ∧
    f_X5_line_aue (lf 0) ((σ 9) &&& (15 : Int32)) (σ 14) u1 v = f_X6_line_m14 (σ 9) (σ 14) lf u1 v ∧
    f_X5_line_bl1 (lf 2) u1 v = (f_X6_line_lf lf u1 v) 2 ∧
    f_X5_line_bl2 (lf 3) u1 v = (f_X6_line_lf lf u1 v) 3 ∧
    f_X5_line_bhp (σ 2) (lf 2) ((σ 9) >>> ((4 : Int32) &&& (31 : Int32)) : Int32) (σ 13) u1 v = f_X6_line_m13 (σ 2) (σ 9) (σ 13) lf u1 v ∧
    f_X5_line_bue (lf 2) ((σ 9) >>> ((4 : Int32) &&& (31 : Int32)) : Int32) (σ 16) u1 v = f_X6_line_m16 (σ 9) (σ 16) lf u1 v ∧
    Inv (sg [f_X6_line_m0 u1, (σ 1), (σ 2), 0, (σ 4), (σ 5), (σ 6), (σ 7), (σ 8), (σ 9), f_X6_line_m10 (σ 9) (σ 10) lf u1 v, (σ 11), f_X6_line_m12 (σ 1) (σ 9) (σ 12) lf u1 v, f_X6_line_m13 (σ 2) (σ 9) (σ 13) lf u1 v, f_X6_line_m14 (σ 9) (σ 14) lf u1 v, (σ 15), f_X6_line_m16 (σ 9) (σ 16) lf u1 v, (σ 17), (σ 18), (σ 19), (σ 20), (σ 21), (σ 22), (σ 23), (σ 24), (σ 25), (σ 26), (σ 27), (σ 28), (σ 29), (σ 30)]) (f_X6_line_lf lf u1 v) := by
  obtain ⟨⟨h1, h2, h4, h5, h6, h7, h8, h9, h10, h11, h12, h13⟩, ⟨h14, h15, h16, h17, h18, h19, h20, h21, h22, h23, h24, h25⟩, ⟨h26, h27, h28, h29⟩, hf⟩ := id hI
  refine ⟨?_, ?_, ?_, ?_, ?_, ?_, ?_, ?_, ?_, ?_, ?_, ?_⟩
  · rcases rc_4 u1 with h | rfl | rfl | rfl | rfl | h
    · have hn := rn_4 (Or.inl h)
      simp only [f_X6_line_m0, f_X5_line_thr, if_pos h, hn, if_false]
    iterate 4 (· decide)
    · have hn := rn_4 (Or.inr h)
      simp only [f_X6_line_m0, f_X5_line_thr, if_neg (rp_4 h).1, if_neg (rp_4 h).2, hn, if_false]
  · intro ht
    rcases rc_4 u1 with h | rfl | rfl | rfl | rfl | h
    · have hn := rn_4 (Or.inl h)
      simp only [f_X5_line_ret, f_X6_line_ret, if_pos h, hn, if_false]
    · simp (decide := true) only [f_X5_line_ret, f_X6_line_ret, if_true, if_false, ↓reduceIte, tn0, tn1, tn2, tn3, c1_0, c1_1, c1_3, c1_4]
      unfold f_X2_moveLine1_ret
      exact mv1A h9 (hf 0 (by omega)).bit hv
    · simp (decide := true) only [f_X5_line_ret, f_X6_line_ret, if_true, if_false, ↓reduceIte, tn0, tn1, tn2, tn3, c1_0, c1_1, c1_3, c1_4]
      unfold f_X2_moveLine2_ret
      rw [wayA_eq h9]
      exact mv2g (way7 h9 _) (hf 1 (by omega)).bit hv
    · simp (decide := true) only [f_X5_line_ret, f_X6_line_ret, if_true, if_false, ↓reduceIte, tn0, tn1, tn2, tn3, c1_0, c1_1, c1_3, c1_4]
      unfold f_X2_moveLine1_ret
      exact mv1B h9 (hf 2 (by omega)).bit hv
    · simp (decide := true) only [f_X5_line_ret, f_X6_line_ret, if_true, if_false, ↓reduceIte, tn0, tn1, tn2, tn3, c1_0, c1_1, c1_3, c1_4]
      unfold f_X2_moveLine2_ret
      rw [wayB_eq h9]
      exact mv2g (way7 h9 _) (hf 3 (by omega)).bit hv
    · have hn := rn_4 (Or.inr h)
      simp only [f_X5_line_ret, f_X6_line_ret, if_neg (rp_4 h).1, if_neg (rp_4 h).2, hn, if_false]
  · rcases rc_4 u1 with h | rfl | rfl | rfl | rfl | h
    · have hn := rn_4 (Or.inl h)
      simp only [f_X5_line_fr, f_X6_line_m10, if_pos h, hn, if_false]
    · simp (decide := true) only [f_X5_line_fr, f_X6_line_m10, if_true, if_false, ↓reduceIte, tn0, tn1, tn2, tn3, c1_0, c1_1, c1_3, c1_4]
      unfold f_X2_moveLine1_fr
      exact mv1A h9 (hf 0 (by omega)).bit hv
    · simp (decide := true) only [f_X5_line_fr, f_X6_line_m10, if_true, if_false, ↓reduceIte, tn0, tn1, tn2, tn3, c1_0, c1_1, c1_3, c1_4]
      unfold f_X2_moveLine2_fr
      rw [wayA_eq h9]
      exact mv2g (way7 h9 _) (hf 1 (by omega)).bit hv
    · simp (decide := true) only [f_X5_line_fr, f_X6_line_m10, if_true, if_false, ↓reduceIte, tn0, tn1, tn2, tn3, c1_0, c1_1, c1_3, c1_4]
      unfold f_X2_moveLine1_fr
      exact mv1B h9 (hf 2 (by omega)).bit hv
    · simp (decide := true) only [f_X5_line_fr, f_X6_line_m10, if_true, if_false, ↓reduceIte, tn0, tn1, tn2, tn3, c1_0, c1_1, c1_3, c1_4]
      unfold f_X2_moveLine2_fr
      rw [wayB_eq h9]
      exact mv2g (way7 h9 _) (hf 3 (by omega)).bit hv
    · have hn := rn_4 (Or.inr h)
      simp only [f_X5_line_fr, f_X6_line_m10, if_neg (rp_4 h).1, if_neg (rp_4 h).2, hn, if_false]
  · rcases rc_4 u1 with h | rfl | rfl | rfl | rfl | h
    · have hn := rn_4 (Or.inl h)
      simp only [f_X5_line_al1, f_X6_line_lf, upd, nar_b hv, if_pos h, hn, if_false]
    · simp (decide := true) only [f_X5_line_al1, f_X6_line_lf, upd, nar_b hv, if_true, if_false, ↓reduceIte, tn0, tn1, tn2, tn3, c1_0, c1_1, c1_3, c1_4]
    · simp (decide := true) only [f_X5_line_al1, f_X6_line_lf, upd, nar_b hv, if_true, if_false, ↓reduceIte, tn0, tn1, tn2, tn3, c1_0, c1_1, c1_3, c1_4]
    · simp (decide := true) only [f_X5_line_al1, f_X6_line_lf, upd, nar_b hv, if_true, if_false, ↓reduceIte, tn0, tn1, tn2, tn3, c1_0, c1_1, c1_3, c1_4]
    · simp (decide := true) only [f_X5_line_al1, f_X6_line_lf, upd, nar_b hv, if_true, if_false, ↓reduceIte, tn0, tn1, tn2, tn3, c1_0, c1_1, c1_3, c1_4]
    · have hn := rn_4 (Or.inr h)
      simp only [f_X5_line_al1, f_X6_line_lf, upd, nar_b hv, if_neg (rp_4 h).1, if_neg (rp_4 h).2, hn, if_false]
  · rcases rc_4 u1 with h | rfl | rfl | rfl | rfl | h
    · have hn := rn_4 (Or.inl h)
      simp only [f_X5_line_al2, f_X6_line_lf, upd, nar_b hv, if_pos h, hn, if_false]
    · simp (decide := true) only [f_X5_line_al2, f_X6_line_lf, upd, nar_b hv, if_true, if_false, ↓reduceIte, tn0, tn1, tn2, tn3, c1_0, c1_1, c1_3, c1_4]
    · simp (decide := true) only [f_X5_line_al2, f_X6_line_lf, upd, nar_b hv, if_true, if_false, ↓reduceIte, tn0, tn1, tn2, tn3, c1_0, c1_1, c1_3, c1_4]
    · simp (decide := true) only [f_X5_line_al2, f_X6_line_lf, upd, nar_b hv, if_true, if_false, ↓reduceIte, tn0, tn1, tn2, tn3, c1_0, c1_1, c1_3, c1_4]
    · simp (decide := true) only [f_X5_line_al2, f_X6_line_lf, upd, nar_b hv, if_true, if_false, ↓reduceIte, tn0, tn1, tn2, tn3, c1_0, c1_1, c1_3, c1_4]
    · have hn := rn_4 (Or.inr h)
      simp only [f_X5_line_al2, f_X6_line_lf, upd, nar_b hv, if_neg (rp_4 h).1, if_neg (rp_4 h).2, hn, if_false]
  · rcases rc_4 u1 with h | rfl | rfl | rfl | rfl | h
    · have hn := rn_4 (Or.inl h)
      simp only [f_X5_line_ahp, f_X6_line_m12, if_pos h, hn, if_false]
    · simp (decide := true) only [f_X5_line_ahp, f_X6_line_m12, if_true, if_false, ↓reduceIte, tn0, tn1, tn2, tn3, c1_0, c1_1, c1_3, c1_4]
      unfold f_X2_moveLine1_hp
      exact mv1A h9 (hf 0 (by omega)).bit hv
    · simp (decide := true) only [f_X5_line_ahp, f_X6_line_m12, if_true, if_false, ↓reduceIte, tn0, tn1, tn2, tn3, c1_0, c1_1, c1_3, c1_4]
      split <;> rfl
    · simp (decide := true) only [f_X5_line_ahp, f_X6_line_m12, if_true, if_false, ↓reduceIte, tn0, tn1, tn2, tn3, c1_0, c1_1, c1_3, c1_4]
      split <;> rfl
    · simp (decide := true) only [f_X5_line_ahp, f_X6_line_m12, if_true, if_false, ↓reduceIte, tn0, tn1, tn2, tn3, c1_0, c1_1, c1_3, c1_4]
      split <;> rfl
    · have hn := rn_4 (Or.inr h)
      simp only [f_X5_line_ahp, f_X6_line_m12, if_neg (rp_4 h).1, if_neg (rp_4 h).2, hn, if_false]
  · rcases rc_4 u1 with h | rfl | rfl | rfl | rfl | h
    · have hn := rn_4 (Or.inl h)
      simp only [f_X5_line_aue, f_X6_line_m14, if_pos h, hn, if_false]
    · simp (decide := true) only [f_X5_line_aue, f_X6_line_m14, if_true, if_false, ↓reduceIte, tn0, tn1, tn2, tn3, c1_0, c1_1, c1_3, c1_4]
      unfold f_X2_moveLine1_ue
      exact mv1A h9 (hf 0 (by omega)).bit hv
    · simp (decide := true) only [f_X5_line_aue, f_X6_line_m14, if_true, if_false, ↓reduceIte, tn0, tn1, tn2, tn3, c1_0, c1_1, c1_3, c1_4]
      split <;> rfl
    · simp (decide := true) only [f_X5_line_aue, f_X6_line_m14, if_true, if_false, ↓reduceIte, tn0, tn1, tn2, tn3, c1_0, c1_1, c1_3, c1_4]
      split <;> rfl
    · simp (decide := true) only [f_X5_line_aue, f_X6_line_m14, if_true, if_false, ↓reduceIte, tn0, tn1, tn2, tn3, c1_0, c1_1, c1_3, c1_4]
      split <;> rfl
    · have hn := rn_4 (Or.inr h)
      simp only [f_X5_line_aue, f_X6_line_m14, if_neg (rp_4 h).1, if_neg (rp_4 h).2, hn, if_false]
  · rcases rc_4 u1 with h | rfl | rfl | rfl | rfl | h
    · have hn := rn_4 (Or.inl h)
      simp only [f_X5_line_bl1, f_X6_line_lf, upd, nar_b hv, if_pos h, hn, if_false]
    · simp (decide := true) only [f_X5_line_bl1, f_X6_line_lf, upd, nar_b hv, if_true, if_false, ↓reduceIte, tn0, tn1, tn2, tn3, c1_0, c1_1, c1_3, c1_4]
    · simp (decide := true) only [f_X5_line_bl1, f_X6_line_lf, upd, nar_b hv, if_true, if_false, ↓reduceIte, tn0, tn1, tn2, tn3, c1_0, c1_1, c1_3, c1_4]
    · simp (decide := true) only [f_X5_line_bl1, f_X6_line_lf, upd, nar_b hv, if_true, if_false, ↓reduceIte, tn0, tn1, tn2, tn3, c1_0, c1_1, c1_3, c1_4]
    · simp (decide := true) only [f_X5_line_bl1, f_X6_line_lf, upd, nar_b hv, if_true, if_false, ↓reduceIte, tn0, tn1, tn2, tn3, c1_0, c1_1, c1_3, c1_4]
    · have hn := rn_4 (Or.inr h)
      simp only [f_X5_line_bl1, f_X6_line_lf, upd, nar_b hv, if_neg (rp_4 h).1, if_neg (rp_4 h).2, hn, if_false]
  · rcases rc_4 u1 with h | rfl | rfl | rfl | rfl | h
    · have hn := rn_4 (Or.inl h)
      simp only [f_X5_line_bl2, f_X6_line_lf, upd, nar_b hv, if_pos h, hn, if_false]
    · simp (decide := true) only [f_X5_line_bl2, f_X6_line_lf, upd, nar_b hv, if_true, if_false, ↓reduceIte, tn0, tn1, tn2, tn3, c1_0, c1_1, c1_3, c1_4]
    · simp (decide := true) only [f_X5_line_bl2, f_X6_line_lf, upd, nar_b hv, if_true, if_false, ↓reduceIte, tn0, tn1, tn2, tn3, c1_0, c1_1, c1_3, c1_4]
    · simp (decide := true) only [f_X5_line_bl2, f_X6_line_lf, upd, nar_b hv, if_true, if_false, ↓reduceIte, tn0, tn1, tn2, tn3, c1_0, c1_1, c1_3, c1_4]
    · simp (decide := true) only [f_X5_line_bl2, f_X6_line_lf, upd, nar_b hv, if_true, if_false, ↓reduceIte, tn0, tn1, tn2, tn3, c1_0, c1_1, c1_3, c1_4]
    · have hn := rn_4 (Or.inr h)
      simp only [f_X5_line_bl2, f_X6_line_lf, upd, nar_b hv, if_neg (rp_4 h).1, if_neg (rp_4 h).2, hn, if_false]
  · rcases rc_4 u1 with h | rfl | rfl | rfl | rfl | h
    · have hn := rn_4 (Or.inl h)
      simp only [f_X5_line_bhp, f_X6_line_m13, if_pos h, hn, if_false]
    · simp (decide := true) only [f_X5_line_bhp, f_X6_line_m13, if_true, if_false, ↓reduceIte, tn0, tn1, tn2, tn3, c1_0, c1_1, c1_3, c1_4]
      split <;> rfl
    · simp (decide := true) only [f_X5_line_bhp, f_X6_line_m13, if_true, if_false, ↓reduceIte, tn0, tn1, tn2, tn3, c1_0, c1_1, c1_3, c1_4]
      split <;> rfl
    · simp (decide := true) only [f_X5_line_bhp, f_X6_line_m13, if_true, if_false, ↓reduceIte, tn0, tn1, tn2, tn3, c1_0, c1_1, c1_3, c1_4]
      unfold f_X2_moveLine1_hp
      exact mv1B h9 (hf 2 (by omega)).bit hv
    · simp (decide := true) only [f_X5_line_bhp, f_X6_line_m13, if_true, if_false, ↓reduceIte, tn0, tn1, tn2, tn3, c1_0, c1_1, c1_3, c1_4]
      split <;> rfl
    · have hn := rn_4 (Or.inr h)
      simp only [f_X5_line_bhp, f_X6_line_m13, if_neg (rp_4 h).1, if_neg (rp_4 h).2, hn, if_false]
  · rcases rc_4 u1 with h | rfl | rfl | rfl | rfl | h
    · have hn := rn_4 (Or.inl h)
      simp only [f_X5_line_bue, f_X6_line_m16, if_pos h, hn, if_false]
    · simp (decide := true) only [f_X5_line_bue, f_X6_line_m16, if_true, if_false, ↓reduceIte, tn0, tn1, tn2, tn3, c1_0, c1_1, c1_3, c1_4]
      split <;> rfl
    · simp (decide := true) only [f_X5_line_bue, f_X6_line_m16, if_true, if_false, ↓reduceIte, tn0, tn1, tn2, tn3, c1_0, c1_1, c1_3, c1_4]
      split <;> rfl
    · simp (decide := true) only [f_X5_line_bue, f_X6_line_m16, if_true, if_false, ↓reduceIte, tn0, tn1, tn2, tn3, c1_0, c1_1, c1_3, c1_4]
      unfold f_X2_moveLine1_ue
      exact mv1B h9 (hf 2 (by omega)).bit hv
    · simp (decide := true) only [f_X5_line_bue, f_X6_line_m16, if_true, if_false, ↓reduceIte, tn0, tn1, tn2, tn3, c1_0, c1_1, c1_3, c1_4]
      split <;> rfl
    · have hn := rn_4 (Or.inr h)
      simp only [f_X5_line_bue, f_X6_line_m16, if_neg (rp_4 h).1, if_neg (rp_4 h).2, hn, if_false]
  · exact inv_mk h1 h2 h4 h5 h6 h7 h8 h9 (by unfold f_X6_line_m10; repeat (first | (with_reducible apply rb_ite) | (with_reducible exact h10) | (with_reducible exact h10.or (by unfold Rb; decide)))) h11 (by unfold f_X6_line_m12; repeat (first | (with_reducible apply rb_ite) | (with_reducible exact h12) | (with_reducible exact h1))) (by unfold f_X6_line_m13; repeat (first | (with_reducible apply rb_ite) | (with_reducible exact h13) | (with_reducible exact h2))) (by unfold f_X6_line_m14; repeat (first | (with_reducible apply rb_ite) | (with_reducible exact h14) | (with_reducible exact Rb.b0))) h15 (by unfold f_X6_line_m16; repeat (first | (with_reducible apply rb_ite) | (with_reducible exact h16) | (with_reducible exact Rb.b0))) h17 h18 h19 h20 h21 h22 h23 h24 h25 h26 h27 h29 h28 (ln_lf hf hv)
