theorem shl8 {p : Int32} (h : Rb 8 p) : Rb 16 (p <<< ((8 : Int32) &&& (31 : Int32)) : Int32) := by
  obtain ⟨j, hj, rfl⟩ := h.ex
  rw [pk_shlN _ 8 (by decide) (by omega)]
  exact Rb.of (by omega) (by omega)
theorem r127 (p : Int32) : Rb 7 (p &&& (127 : Int32)) := Rb.and_r (by unfold Rb; decide)
theorem pt_write (σ lf : Nat → Int32) (hI : Inv σ lf) (u1 : Int32) (u2 : Int32) :
    f_X6_write_m0 u1 u2 = f_X5_write_thr u1 u2 ∧
    f_X5_write_co (σ 8) u1 u2 = f_X6_write_m8 (σ 8) u1 u2 ∧
    f_X5_write_fr (σ 10) 2 1 ((σ 9) &&& (15 : Int32)) 16 8 ((σ 9) >>> ((4 : Int32) &&& (31 : Int32)) : Int32) u1 u2 = f_X6_write_m10 (σ 9) (σ 10) u1 u2 ∧
    f_X5_write_fe (σ 11) u1 u2 = f_X6_write_m11 (σ 11) u1 u2 ∧
    f_X5_write_aot (σ 4) u1 u2 = f_X6_write_m4 (σ 4) u1 u2 ∧
    f_X5_write_adr (σ 6) u1 u2 = f_X6_write_m6 (σ 6) u1 u2 ∧
    f_X5_write_awy ((σ 9) &&& (15 : Int32)) u1 u2 = (f_X6_write_m9 (σ 9) u1 u2) &&& (15 : Int32) ∧
    f_X5_write_aue ((σ 9) &&& (15 : Int32)) (σ 14) u1 u2 = f_X6_write_m14 (σ 9) (σ 14) u1 u2 ∧
    f_X5_write_auc ((σ 9) &&& (15 : Int32)) (σ 15) u1 u2 = f_X6_write_m15 (σ 9) (σ 14) (σ 15) u1 u2 ∧
    f_X5_write_bot (σ 5) u1 u2 = f_X6_write_m5 (σ 5) u1 u2 ∧
    f_X5_write_bdr (σ 7) u1 u2 = f_X6_write_m7 (σ 7) u1 u2 ∧
    f_X5_write_bwy ((σ 9) >>> ((4 : Int32) &&& (31 : Int32)) : Int32) u1 u2 = ((f_X6_write_m9 (σ 9) u1 u2) >>> ((4 : Int32) &&& (31 : Int32)) : Int32) ∧
    f_X5_write_bue ((σ 9) >>> ((4 : Int32) &&& (31 : Int32)) : Int32) (σ 16) u1 u2 = f_X6_write_m16 (σ 9) (σ 16) u1 u2 ∧
    f_X5_write_buc ((σ 9) >>> ((4 : Int32) &&& (31 : Int32)) : Int32) (σ 17) u1 u2 = f_X6_write_m17 (σ 9) (σ 16) (σ 17) u1 u2 ∧
    f_X5_write_tc (σ 18) (σ 19) u1 u2 = f_X6_write_m18 (σ 18) (σ 19) u1 u2 ∧
    f_X5_write_tl (σ 19) u1 u2 = f_X6_write_m19 (σ 19) u1 u2 ∧
    f_X5_write_tb (σ 22) u1 u2 = f_X6_write_m22 (σ 22) u1 u2 ∧
    f_X5_write_ta (σ 20) u1 u2 = f_X6_write_m20 (σ 20) u1 u2 ∧
    f_X5_write_td (σ 21) u1 u2 = f_X6_write_m21 (σ 21) u1 u2 ∧
    f_X5_write_vc (σ 23) (σ 24) u1 u2 = f_X6_write_m23 (σ 23) (σ 24) u1 u2 ∧
    f_X5_write_vl (σ 24) u1 u2 = f_X6_write_m24 (σ 24) u1 u2 ∧
    f_X5_write_va (σ 25) u1 u2 = f_X6_write_m25 (σ 25) u1 u2 ∧
    f_X5_write_sb (σ 26) u1 u2 = f_X6_write_m26 (σ 26) u1 u2 ∧
    f_X5_write_st (σ 27) u1 u2 = f_X6_write_m27 (σ 27) u1 u2 ∧
    f_X5_write_sh (hwf (σ 28)) u1 u2 = hwf (f_X6_write_m28 (σ 28) u1 u2) ∧
    Inv (sg [f_X6_write_m0 u1 u2, (σ 1), (σ 2), 0, f_X6_write_m4 (σ 4) u1 u2, f_X6_write_m5 (σ 5) u1 u2, f_X6_write_m6 (σ 6) u1 u2, f_X6_write_m7 (σ 7) u1 u2, f_X6_write_m8 (σ 8) u1 u2, f_X6_write_m9 (σ 9) u1 u2, f_X6_write_m10 (σ 9) (σ 10) u1 u2, f_X6_write_m11 (σ 11) u1 u2, (σ 12), (σ 13), f_X6_write_m14 (σ 9) (σ 14) u1 u2, f_X6_write_m15 (σ 9) (σ 14) (σ 15) u1 u2, f_X6_write_m16 (σ 9) (σ 16) u1 u2, f_X6_write_m17 (σ 9) (σ 16) (σ 17) u1 u2, f_X6_write_m18 (σ 18) (σ 19) u1 u2, f_X6_write_m19 (σ 19) u1 u2, f_X6_write_m20 (σ 20) u1 u2, f_X6_write_m21 (σ 21) u1 u2, f_X6_write_m22 (σ 22) u1 u2, f_X6_write_m23 (σ 23) (σ 24) u1 u2, f_X6_write_m24 (σ 24) u1 u2, f_X6_write_m25 (σ 25) u1 u2, f_X6_write_m26 (σ 26) u1 u2, f_X6_write_m27 (σ 27) u1 u2, f_X6_write_m28 (σ 28) u1 u2, (σ 29), (σ 30)]) lf := by
  obtain ⟨⟨h1, h2, h4, h5, h6, h7, h8, h9, h10, h11, h12, h13⟩, ⟨h14, h15, h16, h17, h18, h19, h20, h21, h22, h23, h24, h25⟩, ⟨h26, h27, h28, h29⟩, hf⟩ := id hI
  have oc : (u2 <<< ((8 : Int32) &&& (31 : Int32)) : Int32) ||| (σ 19 &&& (255 : Int32)) = (σ 19 &&& (255 : Int32)) ||| (u2 <<< ((8 : Int32) &&& (31 : Int32)) : Int32) := Int32.or_comm _ _
  refine ⟨?_, ?_, ?_, ?_, ?_, ?_, ?_, ?_, ?_, ?_, ?_, ?_, ?_, ?_, ?_, ?_, ?_, ?_, ?_, ?_, ?_, ?_, ?_, ?_, ?_, ?_⟩
  · by_cases hy : f_X6_noByte_ret u2 = 0
    · have hy5 := (nb_iff u2).mp hy
      rcases rc_16 u1 with h | rfl | rfl | rfl | rfl | rfl | rfl | rfl | rfl | rfl | rfl | rfl | rfl | rfl | rfl | rfl | rfl | h
      · have hn := rn_16 (Or.inl h)
        simp only [f_X6_write_m0, f_X5_write_thr, if_pos h, hn, if_false, if_neg hy5]
      iterate 16 (· simp (decide := true) only [f_X6_write_m0, f_X5_write_thr, if_pos hy, if_neg hy5, if_true, if_false, ↓reduceIte])
      · have hn := rn_16 (Or.inr h)
        simp only [f_X6_write_m0, f_X5_write_thr, if_neg (rp_16 h).1, if_pos h, hn, if_false, if_neg hy5]
    · have hy5 := nb_one hy
      simp only [f_X6_write_m0, f_X5_write_thr, if_neg hy, if_pos hy5, ite_self]
  · by_cases hy : f_X6_noByte_ret u2 = 0
    · have hy5 := (nb_iff u2).mp hy
      rcases rc_16 u1 with h | rfl | rfl | rfl | rfl | rfl | rfl | rfl | rfl | rfl | rfl | rfl | rfl | rfl | rfl | rfl | rfl | h
      · have hn := rn_16 (Or.inl h)
        simp only [f_X5_write_co, f_X6_write_m8, if_pos h, hn, if_false, if_neg hy5]
      iterate 16 (· simp (decide := true) only [f_X5_write_co, f_X6_write_m8, if_pos hy, if_neg hy5, if_true, if_false, ↓reduceIte])
      · have hn := rn_16 (Or.inr h)
        simp only [f_X5_write_co, f_X6_write_m8, if_neg (rp_16 h).1, if_pos h, hn, if_false, if_neg hy5]
    · have hy5 := nb_one hy
      simp only [f_X5_write_co, f_X6_write_m8, if_neg hy, if_pos hy5, ite_self]
  · by_cases hy : f_X6_noByte_ret u2 = 0
    · have hy5 := (nb_iff u2).mp hy
      rcases rc_16 u1 with h | rfl | rfl | rfl | rfl | rfl | rfl | rfl | rfl | rfl | rfl | rfl | rfl | rfl | rfl | rfl | rfl | h
      · have hn := rn_16 (Or.inl h)
        simp only [f_X5_write_fr, f_X6_write_m10, if_pos h, hn, if_false, if_neg hy5]
      iterate 16 (· simp (decide := true) only [f_X5_write_fr, f_X6_write_m10, if_pos hy, if_neg hy5, if_true, if_false, ↓reduceIte, tA_fr h9, tB_fr h9, c1_6, c1_5, c1_2])
      · have hn := rn_16 (Or.inr h)
        simp only [f_X5_write_fr, f_X6_write_m10, if_neg (rp_16 h).1, if_pos h, hn, if_false, if_neg hy5]
    · have hy5 := nb_one hy
      simp only [f_X5_write_fr, f_X6_write_m10, if_neg hy, if_pos hy5, ite_self]
  · by_cases hy : f_X6_noByte_ret u2 = 0
    · have hy5 := (nb_iff u2).mp hy
      rcases rc_16 u1 with h | rfl | rfl | rfl | rfl | rfl | rfl | rfl | rfl | rfl | rfl | rfl | rfl | rfl | rfl | rfl | rfl | h
      · have hn := rn_16 (Or.inl h)
        simp only [f_X5_write_fe, f_X6_write_m11, f_X0_enable_fe, if_pos h, hn, if_false, if_neg hy5]
      iterate 16 (· simp (decide := true) only [f_X5_write_fe, f_X6_write_m11, f_X0_enable_fe, if_pos hy, if_neg hy5, if_true, if_false, ↓reduceIte])
      · have hn := rn_16 (Or.inr h)
        simp only [f_X5_write_fe, f_X6_write_m11, f_X0_enable_fe, if_neg (rp_16 h).1, if_pos h, hn, if_false, if_neg hy5]
    · have hy5 := nb_one hy
      simp only [f_X5_write_fe, f_X6_write_m11, f_X0_enable_fe, if_neg hy, if_pos hy5, ite_self]
  · by_cases hy : f_X6_noByte_ret u2 = 0
    · have hy5 := (nb_iff u2).mp hy
      rcases rc_16 u1 with h | rfl | rfl | rfl | rfl | rfl | rfl | rfl | rfl | rfl | rfl | rfl | rfl | rfl | rfl | rfl | rfl | h
      · have hn := rn_16 (Or.inl h)
        simp only [f_X5_write_aot, f_X6_write_m4, if_pos h, hn, if_false, if_neg hy5]
      iterate 16 (· simp (decide := true) only [f_X5_write_aot, f_X6_write_m4, if_pos hy, if_neg hy5, if_true, if_false, ↓reduceIte])
      · have hn := rn_16 (Or.inr h)
        simp only [f_X5_write_aot, f_X6_write_m4, if_neg (rp_16 h).1, if_pos h, hn, if_false, if_neg hy5]
    · have hy5 := nb_one hy
      simp only [f_X5_write_aot, f_X6_write_m4, if_neg hy, if_pos hy5, ite_self]
  · by_cases hy : f_X6_noByte_ret u2 = 0
    · have hy5 := (nb_iff u2).mp hy
      rcases rc_16 u1 with h | rfl | rfl | rfl | rfl | rfl | rfl | rfl | rfl | rfl | rfl | rfl | rfl | rfl | rfl | rfl | rfl | h
      · have hn := rn_16 (Or.inl h)
        simp only [f_X5_write_adr, f_X6_write_m6, if_pos h, hn, if_false, if_neg hy5]
      iterate 16 (· simp (decide := true) only [f_X5_write_adr, f_X6_write_m6, if_pos hy, if_neg hy5, if_true, if_false, ↓reduceIte])
      · have hn := rn_16 (Or.inr h)
        simp only [f_X5_write_adr, f_X6_write_m6, if_neg (rp_16 h).1, if_pos h, hn, if_false, if_neg hy5]
    · have hy5 := nb_one hy
      simp only [f_X5_write_adr, f_X6_write_m6, if_neg hy, if_pos hy5, ite_self]
  · by_cases hy : f_X6_noByte_ret u2 = 0
    · have hy5 := (nb_iff u2).mp hy
      rcases rc_16 u1 with h | rfl | rfl | rfl | rfl | rfl | rfl | rfl | rfl | rfl | rfl | rfl | rfl | rfl | rfl | rfl | rfl | h
      · have hn := rn_16 (Or.inl h)
        simp only [f_X5_write_awy, f_X6_write_m9, if_pos h, hn, if_false, if_neg hy5]
      iterate 16 (· simp (decide := true) only [f_X5_write_awy, f_X6_write_m9, if_pos hy, if_neg hy5, if_true, if_false, ↓reduceIte])
      · have hn := rn_16 (Or.inr h)
        simp only [f_X5_write_awy, f_X6_write_m9, if_neg (rp_16 h).1, if_pos h, hn, if_false, if_neg hy5]
    · have hy5 := nb_one hy
      simp only [f_X5_write_awy, f_X6_write_m9, if_neg hy, if_pos hy5, ite_self]
  · by_cases hy : f_X6_noByte_ret u2 = 0
    · have hy5 := (nb_iff u2).mp hy
      rcases rc_16 u1 with h | rfl | rfl | rfl | rfl | rfl | rfl | rfl | rfl | rfl | rfl | rfl | rfl | rfl | rfl | rfl | rfl | h
      · have hn := rn_16 (Or.inl h)
        simp only [f_X5_write_aue, f_X6_write_m14, if_pos h, hn, if_false, if_neg hy5]
      iterate 16 (· simp (decide := true) only [f_X5_write_aue, f_X6_write_m14, if_pos hy, if_neg hy5, if_true, if_false, ↓reduceIte, tA_ue h9 h14])
      · have hn := rn_16 (Or.inr h)
        simp only [f_X5_write_aue, f_X6_write_m14, if_neg (rp_16 h).1, if_pos h, hn, if_false, if_neg hy5]
    · have hy5 := nb_one hy
      simp only [f_X5_write_aue, f_X6_write_m14, if_neg hy, if_pos hy5, ite_self]
  · by_cases hy : f_X6_noByte_ret u2 = 0
    · have hy5 := (nb_iff u2).mp hy
      rcases rc_16 u1 with h | rfl | rfl | rfl | rfl | rfl | rfl | rfl | rfl | rfl | rfl | rfl | rfl | rfl | rfl | rfl | rfl | h
      · have hn := rn_16 (Or.inl h)
        simp only [f_X5_write_auc, f_X6_write_m15, if_pos h, hn, if_false, if_neg hy5]
      iterate 16 (· simp (decide := true) only [f_X5_write_auc, f_X6_write_m15, if_pos hy, if_neg hy5, if_true, if_false, ↓reduceIte, tA_uc h9 h14 h15])
      · have hn := rn_16 (Or.inr h)
        simp only [f_X5_write_auc, f_X6_write_m15, if_neg (rp_16 h).1, if_pos h, hn, if_false, if_neg hy5]
    · have hy5 := nb_one hy
      simp only [f_X5_write_auc, f_X6_write_m15, if_neg hy, if_pos hy5, ite_self]
  · by_cases hy : f_X6_noByte_ret u2 = 0
    · have hy5 := (nb_iff u2).mp hy
      rcases rc_16 u1 with h | rfl | rfl | rfl | rfl | rfl | rfl | rfl | rfl | rfl | rfl | rfl | rfl | rfl | rfl | rfl | rfl | h
      · have hn := rn_16 (Or.inl h)
        simp only [f_X5_write_bot, f_X6_write_m5, if_pos h, hn, if_false, if_neg hy5]
      iterate 16 (· simp (decide := true) only [f_X5_write_bot, f_X6_write_m5, if_pos hy, if_neg hy5, if_true, if_false, ↓reduceIte])
      · have hn := rn_16 (Or.inr h)
        simp only [f_X5_write_bot, f_X6_write_m5, if_neg (rp_16 h).1, if_pos h, hn, if_false, if_neg hy5]
    · have hy5 := nb_one hy
      simp only [f_X5_write_bot, f_X6_write_m5, if_neg hy, if_pos hy5, ite_self]
  · by_cases hy : f_X6_noByte_ret u2 = 0
    · have hy5 := (nb_iff u2).mp hy
      rcases rc_16 u1 with h | rfl | rfl | rfl | rfl | rfl | rfl | rfl | rfl | rfl | rfl | rfl | rfl | rfl | rfl | rfl | rfl | h
      · have hn := rn_16 (Or.inl h)
        simp only [f_X5_write_bdr, f_X6_write_m7, if_pos h, hn, if_false, if_neg hy5]
      iterate 16 (· simp (decide := true) only [f_X5_write_bdr, f_X6_write_m7, if_pos hy, if_neg hy5, if_true, if_false, ↓reduceIte])
      · have hn := rn_16 (Or.inr h)
        simp only [f_X5_write_bdr, f_X6_write_m7, if_neg (rp_16 h).1, if_pos h, hn, if_false, if_neg hy5]
    · have hy5 := nb_one hy
      simp only [f_X5_write_bdr, f_X6_write_m7, if_neg hy, if_pos hy5, ite_self]
  · by_cases hy : f_X6_noByte_ret u2 = 0
    · have hy5 := (nb_iff u2).mp hy
      rcases rc_16 u1 with h | rfl | rfl | rfl | rfl | rfl | rfl | rfl | rfl | rfl | rfl | rfl | rfl | rfl | rfl | rfl | rfl | h
      · have hn := rn_16 (Or.inl h)
        simp only [f_X5_write_bwy, f_X6_write_m9, if_pos h, hn, if_false, if_neg hy5]
      iterate 16 (· simp (decide := true) only [f_X5_write_bwy, f_X6_write_m9, if_pos hy, if_neg hy5, if_true, if_false, ↓reduceIte])
      · have hn := rn_16 (Or.inr h)
        simp only [f_X5_write_bwy, f_X6_write_m9, if_neg (rp_16 h).1, if_pos h, hn, if_false, if_neg hy5]
    · have hy5 := nb_one hy
      simp only [f_X5_write_bwy, f_X6_write_m9, if_neg hy, if_pos hy5, ite_self]
  · by_cases hy : f_X6_noByte_ret u2 = 0
    · have hy5 := (nb_iff u2).mp hy
      rcases rc_16 u1 with h | rfl | rfl | rfl | rfl | rfl | rfl | rfl | rfl | rfl | rfl | rfl | rfl | rfl | rfl | rfl | rfl | h
      · have hn := rn_16 (Or.inl h)
        simp only [f_X5_write_bue, f_X6_write_m16, if_pos h, hn, if_false, if_neg hy5]
      iterate 16 (· simp (decide := true) only [f_X5_write_bue, f_X6_write_m16, if_pos hy, if_neg hy5, if_true, if_false, ↓reduceIte, tB_ue h9 h16])
      · have hn := rn_16 (Or.inr h)
        simp only [f_X5_write_bue, f_X6_write_m16, if_neg (rp_16 h).1, if_pos h, hn, if_false, if_neg hy5]
    · have hy5 := nb_one hy
      simp only [f_X5_write_bue, f_X6_write_m16, if_neg hy, if_pos hy5, ite_self]
  · by_cases hy : f_X6_noByte_ret u2 = 0
    · have hy5 := (nb_iff u2).mp hy
      rcases rc_16 u1 with h | rfl | rfl | rfl | rfl | rfl | rfl | rfl | rfl | rfl | rfl | rfl | rfl | rfl | rfl | rfl | rfl | h
      · have hn := rn_16 (Or.inl h)
        simp only [f_X5_write_buc, f_X6_write_m17, if_pos h, hn, if_false, if_neg hy5]
      iterate 16 (· simp (decide := true) only [f_X5_write_buc, f_X6_write_m17, if_pos hy, if_neg hy5, if_true, if_false, ↓reduceIte, tB_uc h9 h16 h17])
      · have hn := rn_16 (Or.inr h)
        simp only [f_X5_write_buc, f_X6_write_m17, if_neg (rp_16 h).1, if_pos h, hn, if_false, if_neg hy5]
    · have hy5 := nb_one hy
      simp only [f_X5_write_buc, f_X6_write_m17, if_neg hy, if_pos hy5, ite_self]
  · by_cases hy : f_X6_noByte_ret u2 = 0
    · have hy5 := (nb_iff u2).mp hy
      rcases rc_16 u1 with h | rfl | rfl | rfl | rfl | rfl | rfl | rfl | rfl | rfl | rfl | rfl | rfl | rfl | rfl | rfl | rfl | h
      · have hn := rn_16 (Or.inl h)
        simp only [f_X5_write_tc, f_X6_write_m18, if_pos h, hn, if_false, if_neg hy5]
      iterate 16 (· simp (decide := true) only [f_X5_write_tc, f_X6_write_m18, if_pos hy, if_neg hy5, if_true, if_false, ↓reduceIte, oc])
      · have hn := rn_16 (Or.inr h)
        simp only [f_X5_write_tc, f_X6_write_m18, if_neg (rp_16 h).1, if_pos h, hn, if_false, if_neg hy5]
    · have hy5 := nb_one hy
      simp only [f_X5_write_tc, f_X6_write_m18, if_neg hy, if_pos hy5, ite_self]
  · by_cases hy : f_X6_noByte_ret u2 = 0
    · have hy5 := (nb_iff u2).mp hy
      rcases rc_16 u1 with h | rfl | rfl | rfl | rfl | rfl | rfl | rfl | rfl | rfl | rfl | rfl | rfl | rfl | rfl | rfl | rfl | h
      · have hn := rn_16 (Or.inl h)
        simp only [f_X5_write_tl, f_X6_write_m19, if_pos h, hn, if_false, if_neg hy5]
      iterate 16 (· simp (decide := true) only [f_X5_write_tl, f_X6_write_m19, if_pos hy, if_neg hy5, if_true, if_false, ↓reduceIte, oc, b256 h19])
      · have hn := rn_16 (Or.inr h)
        simp only [f_X5_write_tl, f_X6_write_m19, if_neg (rp_16 h).1, if_pos h, hn, if_false, if_neg hy5]
    · have hy5 := nb_one hy
      simp only [f_X5_write_tl, f_X6_write_m19, if_neg hy, if_pos hy5, ite_self]
  · by_cases hy : f_X6_noByte_ret u2 = 0
    · have hy5 := (nb_iff u2).mp hy
      rcases rc_16 u1 with h | rfl | rfl | rfl | rfl | rfl | rfl | rfl | rfl | rfl | rfl | rfl | rfl | rfl | rfl | rfl | rfl | h
      · have hn := rn_16 (Or.inl h)
        simp only [f_X5_write_tb, f_X6_write_m22, if_pos h, hn, if_false, if_neg hy5]
      iterate 16 (· simp (decide := true) only [f_X5_write_tb, f_X6_write_m22, if_pos hy, if_neg hy5, if_true, if_false, ↓reduceIte])
      · have hn := rn_16 (Or.inr h)
        simp only [f_X5_write_tb, f_X6_write_m22, if_neg (rp_16 h).1, if_pos h, hn, if_false, if_neg hy5]
    · have hy5 := nb_one hy
      simp only [f_X5_write_tb, f_X6_write_m22, if_neg hy, if_pos hy5, ite_self]
  · by_cases hy : f_X6_noByte_ret u2 = 0
    · have hy5 := (nb_iff u2).mp hy
      rcases rc_16 u1 with h | rfl | rfl | rfl | rfl | rfl | rfl | rfl | rfl | rfl | rfl | rfl | rfl | rfl | rfl | rfl | rfl | h
      · have hn := rn_16 (Or.inl h)
        simp only [f_X5_write_ta, f_X6_write_m20, if_pos h, hn, if_false, if_neg hy5]
      iterate 16 (· simp (decide := true) only [f_X5_write_ta, f_X6_write_m20, if_pos hy, if_neg hy5, if_true, if_false, ↓reduceIte])
      · have hn := rn_16 (Or.inr h)
        simp only [f_X5_write_ta, f_X6_write_m20, if_neg (rp_16 h).1, if_pos h, hn, if_false, if_neg hy5]
    · have hy5 := nb_one hy
      simp only [f_X5_write_ta, f_X6_write_m20, if_neg hy, if_pos hy5, ite_self]
  · by_cases hy : f_X6_noByte_ret u2 = 0
    · have hy5 := (nb_iff u2).mp hy
      rcases rc_16 u1 with h | rfl | rfl | rfl | rfl | rfl | rfl | rfl | rfl | rfl | rfl | rfl | rfl | rfl | rfl | rfl | rfl | h
      · have hn := rn_16 (Or.inl h)
        simp only [f_X5_write_td, f_X6_write_m21, if_pos h, hn, if_false, if_neg hy5]
      iterate 16 (· simp (decide := true) only [f_X5_write_td, f_X6_write_m21, if_pos hy, if_neg hy5, if_true, if_false, ↓reduceIte])
      · have hn := rn_16 (Or.inr h)
        simp only [f_X5_write_td, f_X6_write_m21, if_neg (rp_16 h).1, if_pos h, hn, if_false, if_neg hy5]
    · have hy5 := nb_one hy
      simp only [f_X5_write_td, f_X6_write_m21, if_neg hy, if_pos hy5, ite_self]
  · by_cases hy : f_X6_noByte_ret u2 = 0
    · have hy5 := (nb_iff u2).mp hy
      rcases rc_16 u1 with h | rfl | rfl | rfl | rfl | rfl | rfl | rfl | rfl | rfl | rfl | rfl | rfl | rfl | rfl | rfl | rfl | h
      · have hn := rn_16 (Or.inl h)
        simp only [f_X5_write_vc, f_X6_write_m23, if_pos h, hn, if_false, if_neg hy5]
      iterate 16 (· simp (decide := true) only [f_X5_write_vc, f_X6_write_m23, if_pos hy, if_neg hy5, if_true, if_false, ↓reduceIte])
      · have hn := rn_16 (Or.inr h)
        simp only [f_X5_write_vc, f_X6_write_m23, if_neg (rp_16 h).1, if_pos h, hn, if_false, if_neg hy5]
    · have hy5 := nb_one hy
      simp only [f_X5_write_vc, f_X6_write_m23, if_neg hy, if_pos hy5, ite_self]
  · by_cases hy : f_X6_noByte_ret u2 = 0
    · have hy5 := (nb_iff u2).mp hy
      rcases rc_16 u1 with h | rfl | rfl | rfl | rfl | rfl | rfl | rfl | rfl | rfl | rfl | rfl | rfl | rfl | rfl | rfl | rfl | h
      · have hn := rn_16 (Or.inl h)
        simp only [f_X5_write_vl, f_X6_write_m24, if_pos h, hn, if_false, if_neg hy5]
      iterate 16 (· simp (decide := true) only [f_X5_write_vl, f_X6_write_m24, if_pos hy, if_neg hy5, if_true, if_false, ↓reduceIte])
      · have hn := rn_16 (Or.inr h)
        simp only [f_X5_write_vl, f_X6_write_m24, if_neg (rp_16 h).1, if_pos h, hn, if_false, if_neg hy5]
    · have hy5 := nb_one hy
      simp only [f_X5_write_vl, f_X6_write_m24, if_neg hy, if_pos hy5, ite_self]
  · by_cases hy : f_X6_noByte_ret u2 = 0
    · have hy5 := (nb_iff u2).mp hy
      rcases rc_16 u1 with h | rfl | rfl | rfl | rfl | rfl | rfl | rfl | rfl | rfl | rfl | rfl | rfl | rfl | rfl | rfl | rfl | h
      · have hn := rn_16 (Or.inl h)
        simp only [f_X5_write_va, f_X6_write_m25, if_pos h, hn, if_false, if_neg hy5]
      iterate 16 (· simp (decide := true) only [f_X5_write_va, f_X6_write_m25, if_pos hy, if_neg hy5, if_true, if_false, ↓reduceIte])
      · have hn := rn_16 (Or.inr h)
        simp only [f_X5_write_va, f_X6_write_m25, if_neg (rp_16 h).1, if_pos h, hn, if_false, if_neg hy5]
    · have hy5 := nb_one hy
      simp only [f_X5_write_va, f_X6_write_m25, if_neg hy, if_pos hy5, ite_self]
  · by_cases hy : f_X6_noByte_ret u2 = 0
    · have hy5 := (nb_iff u2).mp hy
      rcases rc_16 u1 with h | rfl | rfl | rfl | rfl | rfl | rfl | rfl | rfl | rfl | rfl | rfl | rfl | rfl | rfl | rfl | rfl | h
      · have hn := rn_16 (Or.inl h)
        simp only [f_X5_write_sb, f_X6_write_m26, if_pos h, hn, if_false, if_neg hy5]
      iterate 16 (· simp (decide := true) only [f_X5_write_sb, f_X6_write_m26, if_pos hy, if_neg hy5, if_true, if_false, ↓reduceIte])
      · have hn := rn_16 (Or.inr h)
        simp only [f_X5_write_sb, f_X6_write_m26, if_neg (rp_16 h).1, if_pos h, hn, if_false, if_neg hy5]
    · have hy5 := nb_one hy
      simp only [f_X5_write_sb, f_X6_write_m26, if_neg hy, if_pos hy5, ite_self]
  · by_cases hy : f_X6_noByte_ret u2 = 0
    · have hy5 := (nb_iff u2).mp hy
      rcases rc_16 u1 with h | rfl | rfl | rfl | rfl | rfl | rfl | rfl | rfl | rfl | rfl | rfl | rfl | rfl | rfl | rfl | rfl | h
      · have hn := rn_16 (Or.inl h)
        simp only [f_X5_write_st, f_X6_write_m27, if_pos h, hn, if_false, if_neg hy5]
      iterate 16 (· simp (decide := true) only [f_X5_write_st, f_X6_write_m27, if_pos hy, if_neg hy5, if_true, if_false, ↓reduceIte])
      · have hn := rn_16 (Or.inr h)
        simp only [f_X5_write_st, f_X6_write_m27, if_neg (rp_16 h).1, if_pos h, hn, if_false, if_neg hy5]
    · have hy5 := nb_one hy
      simp only [f_X5_write_st, f_X6_write_m27, if_neg hy, if_pos hy5, ite_self]
  · by_cases hy : f_X6_noByte_ret u2 = 0
    · have hy5 := (nb_iff u2).mp hy
      rcases rc_16 u1 with h | rfl | rfl | rfl | rfl | rfl | rfl | rfl | rfl | rfl | rfl | rfl | rfl | rfl | rfl | rfl | rfl | h
      · have hn := rn_16 (Or.inl h)
        simp only [f_X5_write_sh, f_X6_write_m28, hwf, if_pos h, hn, if_false, if_neg hy5]
      iterate 16 (· simp (decide := true) only [f_X5_write_sh, f_X6_write_m28, hwf, if_pos hy, if_neg hy5, if_true, if_false, ↓reduceIte])
      · have hn := rn_16 (Or.inr h)
        simp only [f_X5_write_sh, f_X6_write_m28, hwf, if_neg (rp_16 h).1, if_pos h, hn, if_false, if_neg hy5]
    · have hy5 := nb_one hy
      simp only [f_X5_write_sh, f_X6_write_m28, hwf, if_neg hy, if_pos hy5, ite_self]
  · have e28 : (f_X6_write_m28 (σ 28) u1 u2 = σ 28 ∧ f_X6_write_m27 (σ 27) u1 u2 = σ 27) ∨ f_X6_write_m28 (σ 28) u1 u2 = 2 := by
      by_cases hy : f_X6_noByte_ret u2 = 0
      · have hy5 := (nb_iff u2).mp hy
        rcases rc_16 u1 with h | rfl | rfl | rfl | rfl | rfl | rfl | rfl | rfl | rfl | rfl | rfl | rfl | rfl | rfl | rfl | rfl | h
        · have hn := rn_16 (Or.inl h)
          simp only [f_X6_write_m27, f_X6_write_m28, if_pos h, hn, if_false, if_neg hy5, and_self, true_or]
        iterate 16 (· simp (decide := true) only [f_X6_write_m27, f_X6_write_m28, if_pos hy, if_neg hy5, if_true, if_false, ↓reduceIte, and_self, true_or, or_true])
        · have hn := rn_16 (Or.inr h)
          simp only [f_X6_write_m27, f_X6_write_m28, if_neg (rp_16 h).1, if_pos h, hn, if_false, if_neg hy5, and_self, true_or]
      · have hy5 := nb_one hy
        simp only [f_X6_write_m27, f_X6_write_m28, if_neg hy, if_pos hy5, ite_self, and_self, true_or]
    have w28 : f_X6_write_m28 (σ 28) u1 u2 = 0 ∧ f_X6_write_m27 (σ 27) u1 u2 = 0 ∨ f_X6_write_m28 (σ 28) u1 u2 = 1 ∨ f_X6_write_m28 (σ 28) u1 u2 = 2 := by
      rcases e28 with ⟨a, b⟩ | a
      · rw [a, b]; exact h28
      · exact Or.inr (Or.inr a)
    by_cases hy : f_X6_noByte_ret u2 = 0
    · have r2 := nb_rb hy
      exact inv_mk h1 h2 (by unfold f_X6_write_m4; simp only [if_pos hy]; repeat (first | (with_reducible apply rb_ite) | (with_reducible exact h4) | (with_reducible exact r2))) (by unfold f_X6_write_m5; simp only [if_pos hy]; repeat (first | (with_reducible apply rb_ite) | (with_reducible exact h5) | (with_reducible exact r2))) (by unfold f_X6_write_m6; simp only [if_pos hy]; repeat (first | (with_reducible apply rb_ite) | (with_reducible exact h6) | (with_reducible exact r2))) (by unfold f_X6_write_m7; simp only [if_pos hy]; repeat (first | (with_reducible apply rb_ite) | (with_reducible exact h7) | (with_reducible exact r2))) (by unfold f_X6_write_m8; simp only [if_pos hy]; repeat (first | (with_reducible apply rb_ite) | (with_reducible exact h8) | (with_reducible exact r2))) (by unfold f_X6_write_m9; simp only [if_pos hy]; repeat (first | (with_reducible apply rb_ite) | (with_reducible exact h9) | (with_reducible exact r2))) (by unfold f_X6_write_m10; simp only [if_pos hy]; repeat (first | (with_reducible apply rb_ite) | (with_reducible exact h10) | (with_reducible exact h10.and_l) | (with_reducible exact tA_rb h10) | (with_reducible exact tB_rb h10))) (by unfold f_X6_write_m11; simp only [if_pos hy]; repeat (first | (with_reducible apply rb_ite) | (with_reducible exact h11) | (with_reducible exact h11.and_l) | (with_reducible exact h11.or (r127 u2)))) h12 h13 (by unfold f_X6_write_m14; simp only [if_pos hy]; repeat (first | (with_reducible apply rb_ite) | (with_reducible exact h14) | (with_reducible exact tA_r14))) (by unfold f_X6_write_m15; simp only [if_pos hy]; repeat (first | (with_reducible apply rb_ite) | (with_reducible exact h15) | (with_reducible exact tA_r15))) (by unfold f_X6_write_m16; simp only [if_pos hy]; repeat (first | (with_reducible apply rb_ite) | (with_reducible exact h16) | (with_reducible exact tB_r16))) (by unfold f_X6_write_m17; simp only [if_pos hy]; repeat (first | (with_reducible apply rb_ite) | (with_reducible exact h17) | (with_reducible exact tB_r17))) (by unfold f_X6_write_m18; simp only [if_pos hy]; repeat (first | (with_reducible apply rb_ite) | (with_reducible exact h18) | (with_reducible exact (Rb.and_l h19).or (shl8 r2)))) (by unfold f_X6_write_m19; simp only [if_pos hy]; repeat (first | (with_reducible apply rb_ite) | (with_reducible exact h19) | (with_reducible exact (Rb.and_l h19).or (shl8 r2)) | (with_reducible exact (Rb.and_l h19).or (r2.mono (by omega))))) (by unfold f_X6_write_m20; simp only [if_pos hy]; repeat (first | (with_reducible apply rb_ite) | (with_reducible exact h20) | (with_reducible exact Rb.b1))) (by unfold f_X6_write_m21; simp only [if_pos hy]; repeat (first | (with_reducible apply rb_ite) | (with_reducible exact h21) | (with_reducible exact Rb.b0))) (by unfold f_X6_write_m22; simp only [if_pos hy]; repeat (first | (with_reducible apply rb_ite) | (with_reducible exact h22) | (with_reducible exact Rb.b0))) (by unfold f_X6_write_m23; simp only [if_pos hy]; repeat (first | (with_reducible apply rb_ite) | (with_reducible exact h23) | (with_reducible exact (shl8 r2).or (h24.mono (by omega))))) (by unfold f_X6_write_m24; simp only [if_pos hy]; repeat (first | (with_reducible apply rb_ite) | (with_reducible exact h24) | (with_reducible exact r2))) (by unfold f_X6_write_m25; simp only [if_pos hy]; repeat (first | (with_reducible apply rb_ite) | (with_reducible exact h25) | (with_reducible exact Rb.b1))) (by unfold f_X6_write_m26; simp only [if_pos hy]; repeat (first | (with_reducible apply rb_ite) | (with_reducible exact h26) | (with_reducible exact r2))) (by unfold f_X6_write_m27; simp only [if_pos hy]; repeat (first | (with_reducible apply rb_ite) | (with_reducible exact h27) | (with_reducible exact rb8))) h29 w28 hf
    · exact inv_mk h1 h2 (by unfold f_X6_write_m4; simp only [if_neg hy, ite_self]; exact h4) (by unfold f_X6_write_m5; simp only [if_neg hy, ite_self]; exact h5) (by unfold f_X6_write_m6; simp only [if_neg hy, ite_self]; exact h6) (by unfold f_X6_write_m7; simp only [if_neg hy, ite_self]; exact h7) (by unfold f_X6_write_m8; simp only [if_neg hy, ite_self]; exact h8) (by unfold f_X6_write_m9; simp only [if_neg hy, ite_self]; exact h9) (by unfold f_X6_write_m10; simp only [if_neg hy, ite_self]; exact h10) (by unfold f_X6_write_m11; simp only [if_neg hy, ite_self]; exact h11) h12 h13 (by unfold f_X6_write_m14; simp only [if_neg hy, ite_self]; exact h14) (by unfold f_X6_write_m15; simp only [if_neg hy, ite_self]; exact h15) (by unfold f_X6_write_m16; simp only [if_neg hy, ite_self]; exact h16) (by unfold f_X6_write_m17; simp only [if_neg hy, ite_self]; exact h17) (by unfold f_X6_write_m18; simp only [if_neg hy, ite_self]; exact h18) (by unfold f_X6_write_m19; simp only [if_neg hy, ite_self]; exact h19) (by unfold f_X6_write_m20; simp only [if_neg hy, ite_self]; exact h20) (by unfold f_X6_write_m21; simp only [if_neg hy, ite_self]; exact h21) (by unfold f_X6_write_m22; simp only [if_neg hy, ite_self]; exact h22) (by unfold f_X6_write_m23; simp only [if_neg hy, ite_self]; exact h23) (by unfold f_X6_write_m24; simp only [if_neg hy, ite_self]; exact h24) (by unfold f_X6_write_m25; simp only [if_neg hy, ite_self]; exact h25) (by unfold f_X6_write_m26; simp only [if_neg hy, ite_self]; exact h26) (by unfold f_X6_write_m27; simp only [if_neg hy, ite_self]; exact h27) h29 w28 hf
