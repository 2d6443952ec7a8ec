theorem st_n {N : Nat} (h : N ≤ 200000) : ¬ nI N < 0 := nI_pos (by omega)
theorem st_l {N : Nat} (h : N ≤ 200000) : nI N ≤ (200000 : Int32) := nI_le (a := N) (b := 200000) h (by omega)
theorem st_z : nI 0 ≤ (0 : Int32) := by decide
theorem st_p {N : Nat} (h0 : ¬ N = 0) (h : N ≤ 200000) : ¬ nI N ≤ (0 : Int32) := nI_nle (by omega) (by omega)
theorem x5_tc {m8 : Int32} {c l a d b : Nat} (hc : c < 65536) (hl : l < 65536) (ha : a < 2) (hd : d < 2) (hb : b < 2) {N : Nat} (hN : N ≤ 200000) : f_X5_step_tc m8 (nI c) (nI l) (nI d) (nI N) = nI (K18 m8 N c l d) := by
  unfold f_X5_step_tc
  rw [if_neg (st_n hN), if_pos (st_l hN)]
  by_cases h0 : N = 0
  · subst h0
    rw [if_pos st_z]
    rw [K18_0 m8 hc]
  · rw [if_neg (st_p h0 hN)]
    unfold f_X3_goOn_tc K18
    by_cases hm : (m8 &&& (64 : Int32)) = 0
    · rw [if_pos ((ctl0 m8 64).mpr hm), if_pos hm, j_TCo (by omega) hc]
    · rw [if_neg (fun q => hm ((ctl0 m8 64).mp q)), if_neg hm, j_fTC (by omega) (by omega) hc hl hd]
theorem x5_ta {m8 : Int32} {c l a d b : Nat} (hc : c < 65536) (hl : l < 65536) (ha : a < 2) (hd : d < 2) (hb : b < 2) {N : Nat} (hN : N ≤ 200000) : f_X5_step_ta m8 (nI c) (nI a) (nI N) = nI (K20 m8 N c a) := by
  unfold f_X5_step_ta
  rw [if_neg (st_n hN), if_pos (st_l hN)]
  by_cases h0 : N = 0
  · subst h0
    rw [if_pos st_z]
    rw [K20_0 m8]
  · rw [if_neg (st_p h0 hN)]
    unfold f_X3_goOn_ta K20
    by_cases hm : (m8 &&& (64 : Int32)) = 0
    · rw [if_pos ((ctl0 m8 64).mpr hm), if_pos hm, j_oTA (by omega) hc ha]
    · rw [if_neg (fun q => hm ((ctl0 m8 64).mp q)), if_neg hm]
theorem x5_td {m8 : Int32} {c l a d b : Nat} (hc : c < 65536) (hl : l < 65536) (ha : a < 2) (hd : d < 2) (hb : b < 2) {N : Nat} (hN : N ≤ 200000) : f_X5_step_td m8 (nI c) (nI l) (nI d) (nI N) = nI (K21 m8 N c l d) := by
  unfold f_X5_step_td
  rw [if_neg (st_n hN), if_pos (st_l hN)]
  by_cases h0 : N = 0
  · subst h0
    rw [if_pos st_z]
    rw [K21_0 m8]
  · rw [if_neg (st_p h0 hN)]
    unfold f_X3_goOn_td K21
    by_cases hm : (m8 &&& (64 : Int32)) = 0
    · rw [if_pos ((ctl0 m8 64).mpr hm), if_pos hm, if_neg h0]; rfl
    · rw [if_neg (fun q => hm ((ctl0 m8 64).mp q)), if_neg hm, j_fTD (by omega) (by omega) hc hl hd]
theorem x5_tb {m8 : Int32} {c l a d b : Nat} (hc : c < 65536) (hl : l < 65536) (ha : a < 2) (hd : d < 2) (hb : b < 2) {N : Nat} (hN : N ≤ 200000) : f_X5_step_tb m8 (nI c) (nI l) (nI b) (nI a) (nI d) (nI N) = nI (K22 m8 N c l a d b) := by
  unfold f_X5_step_tb
  rw [if_neg (st_n hN), if_pos (st_l hN)]
  by_cases h0 : N = 0
  · subst h0
    rw [if_pos st_z]
    rw [K22_0 m8 hb]
  · rw [if_neg (st_p h0 hN)]
    unfold f_X3_goOn_tb K22
    by_cases hm : (m8 &&& (64 : Int32)) = 0
    · rw [if_pos ((ctl0 m8 64).mpr hm), if_pos hm, j_oTB (by omega) hc ha]
    · rw [if_neg (fun q => hm ((ctl0 m8 64).mp q)), if_neg hm, j_fTB (by omega) (by omega) hc hl hd hb]
theorem x5_vc {m8 : Int32} {c a : Nat} (hc : c < 65536) (ha : a < 2) {N : Nat} (hN : N ≤ 200000) : f_X5_step_vc m8 (nI c) (nI N) = nI (K23 m8 N c) := by
  unfold f_X5_step_vc
  rw [if_neg (st_n hN), if_pos (st_l hN)]
  by_cases h0 : N = 0
  · subst h0
    rw [if_pos st_z]
    rw [K23_0 m8 hc]
  · rw [if_neg (st_p h0 hN)]
    unfold f_X5_goOn_vc K23
    by_cases hm : (m8 &&& (32 : Int32)) = 0
    · rw [if_pos ((ctl0 m8 32).mpr hm), if_pos hm, j_TCo (by omega) hc]
    · rw [if_neg (fun q => hm ((ctl0 m8 32).mp q)), if_neg hm]
theorem x5_va {m8 : Int32} {c a : Nat} (hc : c < 65536) (ha : a < 2) {N : Nat} (hN : N ≤ 200000) : f_X5_step_va m8 (nI c) (nI a) (nI N) = nI (K25 m8 N c a) := by
  unfold f_X5_step_va
  rw [if_neg (st_n hN), if_pos (st_l hN)]
  by_cases h0 : N = 0
  · subst h0
    rw [if_pos st_z]
    rw [K25_0 m8]
  · rw [if_neg (st_p h0 hN)]
    unfold f_X5_goOn_va K25
    by_cases hm : (m8 &&& (32 : Int32)) = 0
    · rw [if_pos ((ctl0 m8 32).mpr hm), if_pos hm, j_vA (by omega) hc ha]
    · rw [if_neg (fun q => hm ((ctl0 m8 32).mp q)), if_neg hm]
theorem g3_fr {m8 fr : Int32} {N c l a d : Nat} (h0 : ¬ N = 0) (hN : N ≤ 200000) (hc : c < 65536) (hl : l < 65536) (ha : a < 2) (hd : d < 2) : f_X3_goOn_fr (nI c) (nI l) (nI a) (nI d) fr (nI N) (f_X5_controlHas_ret m8 64) = fr ||| Q1 m8 N c l a d := by
  unfold f_X3_goOn_fr Q1
  by_cases hm : (m8 &&& (64 : Int32)) = 0
  · rw [if_pos ((ctl0 m8 64).mpr hm), if_pos hm, j_oFR _ (by omega) hc ha]
  · rw [if_neg (fun q => hm ((ctl0 m8 64).mp q)), if_neg hm, j_fFR _ (by omega) (by omega) hc hl hd]
theorem g1_fr {m8 : Int32} {lf : Nat → Int32} {N : Nat} (hN : N ≤ 200000) (fr sb st sg sh : Int32) : f_X1_goOn_fr sb st sg sh fr (nI N) ((m8 >>> ((2 : Int32) &&& (31 : Int32)) : Int32) &&& (7 : Int32)) (lf 3) = (SS m8 lf N fr sb st sg sh).1 := by
  unfold f_X1_goOn_fr SS
  rw [nI_clamp (by omega)]
  by_cases h : ((m8 >>> ((2 : Int32) &&& (31 : Int32)) : Int32) &&& (7 : Int32)) = 2
  · rw [if_pos h, if_pos h]
  · rw [if_neg h, if_neg h]
    by_cases h2 : ((m8 >>> ((2 : Int32) &&& (31 : Int32)) : Int32) &&& (7 : Int32)) = 6
    · rw [if_pos h2, if_pos h2]
    · rw [if_neg h2, if_neg h2]
theorem g1_sb {m8 : Int32} {lf : Nat → Int32} {N : Nat} (hN : N ≤ 200000) (fr sb st sg sh : Int32) : f_X1_goOn_sb sb st sg sh fr (nI N) ((m8 >>> ((2 : Int32) &&& (31 : Int32)) : Int32) &&& (7 : Int32)) (lf 3) = (SS m8 lf N fr sb st sg sh).2.1 := by
  unfold f_X1_goOn_sb SS
  rw [nI_clamp (by omega)]
  by_cases h : ((m8 >>> ((2 : Int32) &&& (31 : Int32)) : Int32) &&& (7 : Int32)) = 2
  · rw [if_pos h, if_pos h]
  · rw [if_neg h, if_neg h]
    by_cases h2 : ((m8 >>> ((2 : Int32) &&& (31 : Int32)) : Int32) &&& (7 : Int32)) = 6
    · rw [if_pos h2, if_pos h2]
    · rw [if_neg h2, if_neg h2]
theorem g1_st {m8 : Int32} {lf : Nat → Int32} {N : Nat} (hN : N ≤ 200000) (fr sb st sg sh : Int32) : f_X1_goOn_st sb st sg sh fr (nI N) ((m8 >>> ((2 : Int32) &&& (31 : Int32)) : Int32) &&& (7 : Int32)) (lf 3) = (SS m8 lf N fr sb st sg sh).2.2.1 := by
  unfold f_X1_goOn_st SS
  rw [nI_clamp (by omega)]
  by_cases h : ((m8 >>> ((2 : Int32) &&& (31 : Int32)) : Int32) &&& (7 : Int32)) = 2
  · rw [if_pos h, if_pos h]
  · rw [if_neg h, if_neg h]
    by_cases h2 : ((m8 >>> ((2 : Int32) &&& (31 : Int32)) : Int32) &&& (7 : Int32)) = 6
    · rw [if_pos h2, if_pos h2]
    · rw [if_neg h2, if_neg h2]
theorem g1_sg {m8 : Int32} {lf : Nat → Int32} {N : Nat} (hN : N ≤ 200000) (fr sb st sg sh : Int32) : f_X1_goOn_sg sb st sg sh fr (nI N) ((m8 >>> ((2 : Int32) &&& (31 : Int32)) : Int32) &&& (7 : Int32)) (lf 3) = (SS m8 lf N fr sb st sg sh).2.2.2.1 := by
  unfold f_X1_goOn_sg SS
  rw [nI_clamp (by omega)]
  by_cases h : ((m8 >>> ((2 : Int32) &&& (31 : Int32)) : Int32) &&& (7 : Int32)) = 2
  · rw [if_pos h, if_pos h]
  · rw [if_neg h, if_neg h]
    by_cases h2 : ((m8 >>> ((2 : Int32) &&& (31 : Int32)) : Int32) &&& (7 : Int32)) = 6
    · rw [if_pos h2, if_pos h2]
    · rw [if_neg h2, if_neg h2]
theorem g1_sh {m8 : Int32} {lf : Nat → Int32} {N : Nat} (hN : N ≤ 200000) (fr sb st sg sh : Int32) : f_X1_goOn_sh sb st sg sh fr (nI N) ((m8 >>> ((2 : Int32) &&& (31 : Int32)) : Int32) &&& (7 : Int32)) (lf 3) = (SS m8 lf N fr sb st sg sh).2.2.2.2 := by
  unfold f_X1_goOn_sh SS
  rw [nI_clamp (by omega)]
  by_cases h : ((m8 >>> ((2 : Int32) &&& (31 : Int32)) : Int32) &&& (7 : Int32)) = 2
  · rw [if_pos h, if_pos h]
  · rw [if_neg h, if_neg h]
    by_cases h2 : ((m8 >>> ((2 : Int32) &&& (31 : Int32)) : Int32) &&& (7 : Int32)) = 6
    · rw [if_pos h2, if_pos h2]
    · rw [if_neg h2, if_neg h2]
theorem x5_fr {m8 fr sb st sg sh : Int32} {lf : Nat → Int32} {c l a d v w : Nat} (hc : c < 65536) (hl : l < 65536) (ha : a < 2) (hd : d < 2) (hv : v < 65536) (hw : w < 2) {N : Nat} (hN : N ≤ 200000) : f_X5_step_fr m8 fr (lf 3) (nI c) (nI l) (nI a) (nI d) (nI v) (nI w) sb st sg sh (nI N) = ((fr ||| Q1 m8 N c l a d) ||| Q2 m8 N v w) ||| (SS m8 lf N 0 sb st sg sh).1 := by
  unfold f_X5_step_fr
  rw [if_neg (st_n hN), if_pos (st_l hN)]
  by_cases h0 : N = 0
  · subst h0
    rw [if_pos st_z]
    rw [SS_0, Q1_0, Q2_0, or_z, or_z, or_z]
  · rw [if_neg (st_p h0 hN)]
    unfold f_X5_goOn_fr Q2
    rw [g3_fr h0 hN hc hl ha hd]
    by_cases hm : (m8 &&& (32 : Int32)) = 0
    · rw [if_pos ((ctl0 m8 32).mpr hm), if_pos hm, j_vFR _ (by omega) hv hw, g1_fr hN, SS_fr]
    · rw [if_neg (fun q => hm ((ctl0 m8 32).mp q)), if_neg hm, or_z, g1_fr hN, SS_fr]
theorem x5_sb {m8 fr sb st sg sh : Int32} {lf : Nat → Int32} {c l a d v w : Nat} (hc : c < 65536) (hl : l < 65536) (ha : a < 2) (hd : d < 2) (hv : v < 65536) (hw : w < 2) {N : Nat} (hN : N ≤ 200000) : f_X5_step_sb m8 fr (lf 3) (nI c) (nI l) (nI a) (nI d) (nI v) (nI w) sb st sg sh (nI N) = (SS m8 lf N 0 sb st sg sh).2.1 := by
  unfold f_X5_step_sb
  rw [if_neg (st_n hN), if_pos (st_l hN)]
  by_cases h0 : N = 0
  · subst h0
    rw [if_pos st_z]
    rw [SS_0]
  · rw [if_neg (st_p h0 hN)]
    unfold f_X5_goOn_sb
    rw [g3_fr h0 hN hc hl ha hd]
    by_cases hm : (m8 &&& (32 : Int32)) = 0
    · rw [if_pos ((ctl0 m8 32).mpr hm), j_vFR _ (by omega) hv hw, g1_sb hN, SS_fr]
    · rw [if_neg (fun q => hm ((ctl0 m8 32).mp q)), g1_sb hN, SS_fr]
theorem x5_st {m8 fr sb st sg sh : Int32} {lf : Nat → Int32} {c l a d v w : Nat} (hc : c < 65536) (hl : l < 65536) (ha : a < 2) (hd : d < 2) (hv : v < 65536) (hw : w < 2) {N : Nat} (hN : N ≤ 200000) : f_X5_step_st m8 fr (lf 3) (nI c) (nI l) (nI a) (nI d) (nI v) (nI w) sb st sg sh (nI N) = (SS m8 lf N 0 sb st sg sh).2.2.1 := by
  unfold f_X5_step_st
  rw [if_neg (st_n hN), if_pos (st_l hN)]
  by_cases h0 : N = 0
  · subst h0
    rw [if_pos st_z]
    rw [SS_0]
  · rw [if_neg (st_p h0 hN)]
    unfold f_X5_goOn_st
    rw [g3_fr h0 hN hc hl ha hd]
    by_cases hm : (m8 &&& (32 : Int32)) = 0
    · rw [if_pos ((ctl0 m8 32).mpr hm), j_vFR _ (by omega) hv hw, g1_st hN, SS_fr]
    · rw [if_neg (fun q => hm ((ctl0 m8 32).mp q)), g1_st hN, SS_fr]
theorem x5_sg {m8 fr sb st sg sh : Int32} {lf : Nat → Int32} {c l a d v w : Nat} (hc : c < 65536) (hl : l < 65536) (ha : a < 2) (hd : d < 2) (hv : v < 65536) (hw : w < 2) {N : Nat} (hN : N ≤ 200000) : f_X5_step_sg m8 fr (lf 3) (nI c) (nI l) (nI a) (nI d) (nI v) (nI w) sb st sg sh (nI N) = (SS m8 lf N 0 sb st sg sh).2.2.2.1 := by
  unfold f_X5_step_sg
  rw [if_neg (st_n hN), if_pos (st_l hN)]
  by_cases h0 : N = 0
  · subst h0
    rw [if_pos st_z]
    rw [SS_0]
  · rw [if_neg (st_p h0 hN)]
    unfold f_X5_goOn_sg
    rw [g3_fr h0 hN hc hl ha hd]
    by_cases hm : (m8 &&& (32 : Int32)) = 0
    · rw [if_pos ((ctl0 m8 32).mpr hm), j_vFR _ (by omega) hv hw, g1_sg hN, SS_fr]
    · rw [if_neg (fun q => hm ((ctl0 m8 32).mp q)), g1_sg hN, SS_fr]
theorem x5_sh {m8 fr sb st sg sh : Int32} {lf : Nat → Int32} {c l a d v w : Nat} (hc : c < 65536) (hl : l < 65536) (ha : a < 2) (hd : d < 2) (hv : v < 65536) (hw : w < 2) {N : Nat} (hN : N ≤ 200000) : f_X5_step_sh m8 fr (lf 3) (nI c) (nI l) (nI a) (nI d) (nI v) (nI w) sb st sg sh (nI N) = (SS m8 lf N 0 sb st sg sh).2.2.2.2 := by
  unfold f_X5_step_sh
  rw [if_neg (st_n hN), if_pos (st_l hN)]
  by_cases h0 : N = 0
  · subst h0
    rw [if_pos st_z]
    rw [SS_0]
  · rw [if_neg (st_p h0 hN)]
    unfold f_X5_goOn_sh
    rw [g3_fr h0 hN hc hl ha hd]
    by_cases hm : (m8 &&& (32 : Int32)) = 0
    · rw [if_pos ((ctl0 m8 32).mpr hm), j_vFR _ (by omega) hv hw, g1_sh hN, SS_fr]
    · rw [if_neg (fun q => hm ((ctl0 m8 32).mp q)), g1_sh hN, SS_fr]
theorem x5_ret {co fr fe bl2 tc tl ta td vc va sb st sg sh : Int32} {N : Nat} (hN : N ≤ 200000) : f_X5_step_ret co fr fe bl2 tc tl ta td vc va sb st sg sh (nI N) = f_X0_withCall_ret (f_X5_step_fr co fr bl2 tc tl ta td vc va sb st sg sh (nI N)) fe := by
  unfold f_X5_step_ret f_X5_step_fr
  rw [if_neg (st_n hN), if_pos (st_l hN), if_neg (st_n hN), if_pos (st_l hN)]
  by_cases h0 : nI N ≤ (0 : Int32)
  · rw [if_pos h0, if_pos h0]
  · rw [if_neg h0, if_neg h0]
theorem sc_tc {m8 m10 m15 m17 m18 m19 m20 m21 m22 m23 m25 m26 m27 m28 m29 m30 : Int32} {lf : Nat → Int32} (h18 : Rb 16 m18) (h19 : Rb 16 m19) (h20 : Rb 1 m20) (h21 : Rb 1 m21) (h22 : Rb 1 m22) {N : Nat} (hN : N ≤ 200000) : f_X5_step_tc m8 m18 m19 m21 (nI N) = (lp_X6 m8 m19 lf N m10 m15 m17 m18 m20 m21 m22 m23 m25 m26 m27 m28 m29 m30).2.2.2.1 := by
  obtain ⟨c, hc, rfl⟩ := h18.ex
  obtain ⟨l, hl, rfl⟩ := h19.ex
  obtain ⟨a, ha, rfl⟩ := h20.ex
  obtain ⟨d, hd, rfl⟩ := h21.ex
  obtain ⟨b, hb, rfl⟩ := h22.ex
  rw [x5_tc (a := a) (b := b) hc hl ha hd hb hN]
  exact ((lp_t1 m8 lf hl N _ _ _ _ _ _ _ _ _ _ c a d b hc ha hd hb).1).symm
theorem sc_ta {m8 m10 m15 m17 m18 m19 m20 m21 m22 m23 m25 m26 m27 m28 m29 m30 : Int32} {lf : Nat → Int32} (h18 : Rb 16 m18) (h19 : Rb 16 m19) (h20 : Rb 1 m20) (h21 : Rb 1 m21) (h22 : Rb 1 m22) {N : Nat} (hN : N ≤ 200000) : f_X5_step_ta m8 m18 m20 (nI N) = (lp_X6 m8 m19 lf N m10 m15 m17 m18 m20 m21 m22 m23 m25 m26 m27 m28 m29 m30).2.2.2.2.1 := by
  obtain ⟨c, hc, rfl⟩ := h18.ex
  obtain ⟨l, hl, rfl⟩ := h19.ex
  obtain ⟨a, ha, rfl⟩ := h20.ex
  obtain ⟨d, hd, rfl⟩ := h21.ex
  obtain ⟨b, hb, rfl⟩ := h22.ex
  rw [x5_ta (l := l) (d := d) (b := b) hc hl ha hd hb hN]
  exact ((lp_t1 m8 lf hl N _ _ _ _ _ _ _ _ _ _ c a d b hc ha hd hb).2.1).symm
theorem sc_td {m8 m10 m15 m17 m18 m19 m20 m21 m22 m23 m25 m26 m27 m28 m29 m30 : Int32} {lf : Nat → Int32} (h18 : Rb 16 m18) (h19 : Rb 16 m19) (h20 : Rb 1 m20) (h21 : Rb 1 m21) (h22 : Rb 1 m22) {N : Nat} (hN : N ≤ 200000) : f_X5_step_td m8 m18 m19 m21 (nI N) = (lp_X6 m8 m19 lf N m10 m15 m17 m18 m20 m21 m22 m23 m25 m26 m27 m28 m29 m30).2.2.2.2.2.1 := by
  obtain ⟨c, hc, rfl⟩ := h18.ex
  obtain ⟨l, hl, rfl⟩ := h19.ex
  obtain ⟨a, ha, rfl⟩ := h20.ex
  obtain ⟨d, hd, rfl⟩ := h21.ex
  obtain ⟨b, hb, rfl⟩ := h22.ex
  rw [x5_td (a := a) (b := b) hc hl ha hd hb hN]
  exact ((lp_t1 m8 lf hl N _ _ _ _ _ _ _ _ _ _ c a d b hc ha hd hb).2.2.1).symm
theorem sc_tb {m8 m10 m15 m17 m18 m19 m20 m21 m22 m23 m25 m26 m27 m28 m29 m30 : Int32} {lf : Nat → Int32} (h18 : Rb 16 m18) (h19 : Rb 16 m19) (h20 : Rb 1 m20) (h21 : Rb 1 m21) (h22 : Rb 1 m22) {N : Nat} (hN : N ≤ 200000) : f_X5_step_tb m8 m18 m19 m22 m20 m21 (nI N) = (lp_X6 m8 m19 lf N m10 m15 m17 m18 m20 m21 m22 m23 m25 m26 m27 m28 m29 m30).2.2.2.2.2.2.1 := by
  obtain ⟨c, hc, rfl⟩ := h18.ex
  obtain ⟨l, hl, rfl⟩ := h19.ex
  obtain ⟨a, ha, rfl⟩ := h20.ex
  obtain ⟨d, hd, rfl⟩ := h21.ex
  obtain ⟨b, hb, rfl⟩ := h22.ex
  rw [x5_tb hc hl ha hd hb hN]
  exact ((lp_t1 m8 lf hl N _ _ _ _ _ _ _ _ _ _ c a d b hc ha hd hb).2.2.2).symm
theorem sc_vc {m8 m10 m15 m17 m18 m19 m20 m21 m22 m23 m25 m26 m27 m28 m29 m30 : Int32} {lf : Nat → Int32} (h23 : Rb 16 m23) (h25 : Rb 1 m25) {N : Nat} (hN : N ≤ 200000) : f_X5_step_vc m8 m23 (nI N) = (lp_X6 m8 m19 lf N m10 m15 m17 m18 m20 m21 m22 m23 m25 m26 m27 m28 m29 m30).2.2.2.2.2.2.2.1 := by
  obtain ⟨v, hv, rfl⟩ := h23.ex
  obtain ⟨w, hw, rfl⟩ := h25.ex
  rw [x5_vc (a := w) hv hw hN]
  exact ((lp_t2 m8 m19 lf N _ _ _ _ _ _ _ _ _ _ _ _ v w hv hw).1).symm
theorem sc_va {m8 m10 m15 m17 m18 m19 m20 m21 m22 m23 m25 m26 m27 m28 m29 m30 : Int32} {lf : Nat → Int32} (h23 : Rb 16 m23) (h25 : Rb 1 m25) {N : Nat} (hN : N ≤ 200000) : f_X5_step_va m8 m23 m25 (nI N) = (lp_X6 m8 m19 lf N m10 m15 m17 m18 m20 m21 m22 m23 m25 m26 m27 m28 m29 m30).2.2.2.2.2.2.2.2.1 := by
  obtain ⟨v, hv, rfl⟩ := h23.ex
  obtain ⟨w, hw, rfl⟩ := h25.ex
  rw [x5_va hv hw hN]
  exact ((lp_t2 m8 m19 lf N _ _ _ _ _ _ _ _ _ _ _ _ v w hv hw).2).symm
theorem sc_fr {m8 m10 m15 m17 m18 m19 m20 m21 m22 m23 m25 m26 m27 m28 m29 m30 : Int32} {lf : Nat → Int32} (h18 : Rb 16 m18) (h19 : Rb 16 m19) (h20 : Rb 1 m20) (h21 : Rb 1 m21) (h23 : Rb 16 m23) (h25 : Rb 1 m25) (h27 : Rb 4 m27) (h28 : m28 = 0 ∧ m27 = 0 ∨ m28 = 1 ∨ m28 = 2) {N : Nat} (hN : N ≤ 200000) : f_X5_step_fr m8 m10 (lf 3) m18 m19 m20 m21 m23 m25 m26 m27 m29 (hwf m28) (nI N) = (lp_X6 m8 m19 lf N m10 m15 m17 m18 m20 m21 m22 m23 m25 m26 m27 m28 m29 m30).1 := by
  obtain ⟨c, hc, rfl⟩ := h18.ex
  obtain ⟨l, hl, rfl⟩ := h19.ex
  obtain ⟨a, ha, rfl⟩ := h20.ex
  obtain ⟨d, hd, rfl⟩ := h21.ex
  obtain ⟨v, hv, rfl⟩ := h23.ex
  obtain ⟨w, hw, rfl⟩ := h25.ex
  rw [x5_fr hc hl ha hd hv hw hN]
  exact (lp_fr m8 lf hl N _ _ _ _ _ _ _ _ _ c a d v w hc ha hd hv hw h27 h28).symm
theorem sc_sb {m8 m10 m15 m17 m18 m19 m20 m21 m22 m23 m25 m26 m27 m28 m29 m30 : Int32} {lf : Nat → Int32} (h18 : Rb 16 m18) (h19 : Rb 16 m19) (h20 : Rb 1 m20) (h21 : Rb 1 m21) (h23 : Rb 16 m23) (h25 : Rb 1 m25) (h27 : Rb 4 m27) (h28 : m28 = 0 ∧ m27 = 0 ∨ m28 = 1 ∨ m28 = 2) {N : Nat} (hN : N ≤ 200000) : f_X5_step_sb m8 m10 (lf 3) m18 m19 m20 m21 m23 m25 m26 m27 m29 (hwf m28) (nI N) = (lp_X6 m8 m19 lf N m10 m15 m17 m18 m20 m21 m22 m23 m25 m26 m27 m28 m29 m30).2.2.2.2.2.2.2.2.2.1 := by
  obtain ⟨c, hc, rfl⟩ := h18.ex
  obtain ⟨l, hl, rfl⟩ := h19.ex
  obtain ⟨a, ha, rfl⟩ := h20.ex
  obtain ⟨d, hd, rfl⟩ := h21.ex
  obtain ⟨v, hv, rfl⟩ := h23.ex
  obtain ⟨w, hw, rfl⟩ := h25.ex
  rw [x5_sb hc hl ha hd hv hw hN]
  exact ((lp_sh m8 (nI l) lf N _ _ _ _ _ _ _ _ _ _ _ _ _ _ h27 h28).1).symm
theorem sc_st {m8 m10 m15 m17 m18 m19 m20 m21 m22 m23 m25 m26 m27 m28 m29 m30 : Int32} {lf : Nat → Int32} (h18 : Rb 16 m18) (h19 : Rb 16 m19) (h20 : Rb 1 m20) (h21 : Rb 1 m21) (h23 : Rb 16 m23) (h25 : Rb 1 m25) (h27 : Rb 4 m27) (h28 : m28 = 0 ∧ m27 = 0 ∨ m28 = 1 ∨ m28 = 2) {N : Nat} (hN : N ≤ 200000) : f_X5_step_st m8 m10 (lf 3) m18 m19 m20 m21 m23 m25 m26 m27 m29 (hwf m28) (nI N) = (lp_X6 m8 m19 lf N m10 m15 m17 m18 m20 m21 m22 m23 m25 m26 m27 m28 m29 m30).2.2.2.2.2.2.2.2.2.2.1 := by
  obtain ⟨c, hc, rfl⟩ := h18.ex
  obtain ⟨l, hl, rfl⟩ := h19.ex
  obtain ⟨a, ha, rfl⟩ := h20.ex
  obtain ⟨d, hd, rfl⟩ := h21.ex
  obtain ⟨v, hv, rfl⟩ := h23.ex
  obtain ⟨w, hw, rfl⟩ := h25.ex
  rw [x5_st hc hl ha hd hv hw hN]
  exact ((lp_sh m8 (nI l) lf N _ _ _ _ _ _ _ _ _ _ _ _ _ _ h27 h28).2.1).symm
theorem sc_sg {m8 m10 m15 m17 m18 m19 m20 m21 m22 m23 m25 m26 m27 m28 m29 m30 : Int32} {lf : Nat → Int32} (h18 : Rb 16 m18) (h19 : Rb 16 m19) (h20 : Rb 1 m20) (h21 : Rb 1 m21) (h23 : Rb 16 m23) (h25 : Rb 1 m25) (h27 : Rb 4 m27) (h28 : m28 = 0 ∧ m27 = 0 ∨ m28 = 1 ∨ m28 = 2) {N : Nat} (hN : N ≤ 200000) : f_X5_step_sg m8 m10 (lf 3) m18 m19 m20 m21 m23 m25 m26 m27 m29 (hwf m28) (nI N) = (lp_X6 m8 m19 lf N m10 m15 m17 m18 m20 m21 m22 m23 m25 m26 m27 m28 m29 m30).2.2.2.2.2.2.2.2.2.2.2.2.1 := by
  obtain ⟨c, hc, rfl⟩ := h18.ex
  obtain ⟨l, hl, rfl⟩ := h19.ex
  obtain ⟨a, ha, rfl⟩ := h20.ex
  obtain ⟨d, hd, rfl⟩ := h21.ex
  obtain ⟨v, hv, rfl⟩ := h23.ex
  obtain ⟨w, hw, rfl⟩ := h25.ex
  rw [x5_sg hc hl ha hd hv hw hN]
  exact ((lp_sh m8 (nI l) lf N _ _ _ _ _ _ _ _ _ _ _ _ _ _ h27 h28).2.2.1).symm
theorem sc_sh {m8 m10 m15 m17 m18 m19 m20 m21 m22 m23 m25 m26 m27 m28 m29 m30 : Int32} {lf : Nat → Int32} (h18 : Rb 16 m18) (h19 : Rb 16 m19) (h20 : Rb 1 m20) (h21 : Rb 1 m21) (h23 : Rb 16 m23) (h25 : Rb 1 m25) (h27 : Rb 4 m27) (h28 : m28 = 0 ∧ m27 = 0 ∨ m28 = 1 ∨ m28 = 2) {N : Nat} (hN : N ≤ 200000) : f_X5_step_sh m8 m10 (lf 3) m18 m19 m20 m21 m23 m25 m26 m27 m29 (hwf m28) (nI N) = hwf (lp_X6 m8 m19 lf N m10 m15 m17 m18 m20 m21 m22 m23 m25 m26 m27 m28 m29 m30).2.2.2.2.2.2.2.2.2.2.2.1 := by
  obtain ⟨c, hc, rfl⟩ := h18.ex
  obtain ⟨l, hl, rfl⟩ := h19.ex
  obtain ⟨a, ha, rfl⟩ := h20.ex
  obtain ⟨d, hd, rfl⟩ := h21.ex
  obtain ⟨v, hv, rfl⟩ := h23.ex
  obtain ⟨w, hw, rfl⟩ := h25.ex
  rw [x5_sh hc hl ha hd hv hw hN]
  exact ((lp_sh m8 (nI l) lf N _ _ _ _ _ _ _ _ _ _ _ _ _ _ h27 h28).2.2.2).symm
theorem sc_cy {m8 m10 m15 m17 m18 m19 m20 m21 m22 m23 m25 m26 m27 m28 m29 m30 : Int32} {lf : Nat → Int32}  {N : Nat} (hN : N ≤ 200000) : f_X5_step_cy m30 (nI N) = (lp_X6 m8 m19 lf N m10 m15 m17 m18 m20 m21 m22 m23 m25 m26 m27 m28 m29 m30).2.2.2.2.2.2.2.2.2.2.2.2.2 := by
  unfold f_X5_step_cy
  rw [if_neg (st_n hN), if_pos (st_l hN), (lp_cy m8 m19 lf N _ _ _ _ _ _ _ _ _ _ _ _ _ _).1]
  by_cases h0 : N = 0
  · subst h0
    rw [if_pos st_z, nI_0, Int32.add_zero]
  · rw [if_neg (st_p h0 hN)]
theorem sc_auc {m8 m10 m15 m17 m18 m19 m20 m21 m22 m23 m25 m26 m27 m28 m29 m30 : Int32} {lf : Nat → Int32}  {N : Nat} (hN : N ≤ 200000) : f_X5_step_auc m15 (nI N) = (lp_X6 m8 m19 lf N m10 m15 m17 m18 m20 m21 m22 m23 m25 m26 m27 m28 m29 m30).2.1 := by
  unfold f_X5_step_auc
  rw [if_neg (st_n hN), if_pos (st_l hN), (lp_cy m8 m19 lf N _ _ _ _ _ _ _ _ _ _ _ _ _ _).2.1]
  by_cases h0 : N = 0
  · subst h0
    rw [if_pos st_z, if_pos rfl]
  · rw [if_neg (st_p h0 hN), if_neg h0]
theorem sc_buc {m8 m10 m15 m17 m18 m19 m20 m21 m22 m23 m25 m26 m27 m28 m29 m30 : Int32} {lf : Nat → Int32}  {N : Nat} (hN : N ≤ 200000) : f_X5_step_buc m17 (nI N) = (lp_X6 m8 m19 lf N m10 m15 m17 m18 m20 m21 m22 m23 m25 m26 m27 m28 m29 m30).2.2.1 := by
  unfold f_X5_step_buc
  rw [if_neg (st_n hN), if_pos (st_l hN), (lp_cy m8 m19 lf N _ _ _ _ _ _ _ _ _ _ _ _ _ _).2.2]
  by_cases h0 : N = 0
  · subst h0
    rw [if_pos st_z, if_pos rfl]
  · rw [if_neg (st_p h0 hN), if_neg h0]
theorem pt_step (σ lf : Nat → Int32) (hI : Inv σ lf) (u1 : Int32) :
    f_X6_step_m0 u1 = f_X5_step_thr u1 ∧
    ((f_X5_step_thr u1) = 0 → f_X5_step_ret (σ 8) (σ 10) (σ 11) (lf 3) (σ 18) (σ 19) (σ 20) (σ 21) (σ 23) (σ 25) (σ 26) (σ 27) (σ 29) (hwf (σ 28)) u1 = f_X6_step_ret (σ 8) (σ 10) (σ 11) (σ 15) (σ 17) (σ 18) (σ 19) (σ 20) (σ 21) (σ 22) (σ 23) (σ 25) (σ 26) (σ 27) (σ 28) (σ 29) (σ 30) lf u1) ∧
    f_X5_step_cy (σ 30) u1 = f_X6_step_m30 (σ 8) (σ 10) (σ 15) (σ 17) (σ 18) (σ 19) (σ 20) (σ 21) (σ 22) (σ 23) (σ 25) (σ 26) (σ 27) (σ 28) (σ 29) (σ 30) lf u1 ∧
    f_X5_step_fr (σ 8) (σ 10) (lf 3) (σ 18) (σ 19) (σ 20) (σ 21) (σ 23) (σ 25) (σ 26) (σ 27) (σ 29) (hwf (σ 28)) u1 = f_X6_step_m10 (σ 8) (σ 10) (σ 15) (σ 17) (σ 18) (σ 19) (σ 20) (σ 21) (σ 22) (σ 23) (σ 25) (σ 26) (σ 27) (σ 28) (σ 29) (σ 30) lf u1 ∧
    f_X5_step_auc (σ 15) u1 = f_X6_step_m15 (σ 8) (σ 10) (σ 15) (σ 17) (σ 18) (σ 19) (σ 20) (σ 21) (σ 22) (σ 23) (σ 25) (σ 26) (σ 27) (σ 28) (σ 29) (σ 30) lf u1 ∧
    f_X5_step_buc (σ 17) u1 = f_X6_step_m17 (σ 8) (σ 10) (σ 15) (σ 17) (σ 18) (σ 19) (σ 20) (σ 21) (σ 22) (σ 23) (σ 25) (σ 26) (σ 27) (σ 28) (σ 29) (σ 30) lf u1 ∧
    f_X5_step_tc (σ 8) (σ 18) (σ 19) (σ 21) u1 = f_X6_step_m18 (σ 8) (σ 10) (σ 15) (σ 17) (σ 18) (σ 19) (σ 20) (σ 21) (σ 22) (σ 23) (σ 25) (σ 26) (σ 27) (σ 28) (σ 29) (σ 30) lf u1 ∧
    f_X5_step_tb (σ 8) (σ 18) (σ 19) (σ 22) (σ 20) (σ 21) u1 = f_X6_step_m22 (σ 8) (σ 10) (σ 15) (σ 17) (σ 18) (σ 19) (σ 20) (σ 21) (σ 22) (σ 23) (σ 25) (σ 26) (σ 27) (σ 28) (σ 29) (σ 30) lf u1 ∧
    f_X5_step_ta (σ 8) (σ 18) (σ 20) u1 = f_X6_step_m20 (σ 8) (σ 10) (σ 15) (σ 17) (σ 18) (σ 19) (σ 20) (σ 21) (σ 22) (σ 23) (σ 25) (σ 26) (σ 27) (σ 28) (σ 29) (σ 30) lf u1 ∧
    f_X5_step_td (σ 8) (σ 18) (σ 19) (σ 21) u1 = f_X6_step_m21 (σ 8) (σ 10) (σ 15) (σ 17) (σ 18) (σ 19) (σ 20) (σ 21) (σ 22) (σ 23) (σ 25) (σ 26) (σ 27) (σ 28) (σ 29) (σ 30) lf u1 ∧
    f_X5_step_vc (σ 8) (σ 23) u1 = f_X6_step_m23 (σ 8) (σ 10) (σ 15) (σ 17) (σ 18) (σ 19) (σ 20) (σ 21) (σ 22) (σ 23) (σ 25) (σ 26) (σ 27) (σ 28) (σ 29) (σ 30) lf u1 ∧
    f_X5_step_va (σ 8) (σ 23) (σ 25) u1 = f_X6_step_m25 (σ 8) (σ 10) (σ 15) (σ 17) (σ 18) (σ 19) (σ 20) (σ 21) (σ 22) (σ 23) (σ 25) (σ 26) (σ 27) (σ 28) (σ 29) (σ 30) lf u1 ∧
    f_X5_step_sb (σ 8) (σ 10) (lf 3) (σ 18) (σ 19) (σ 20) (σ 21) (σ 23) (σ 25) (σ 26) (σ 27) (σ 29) (hwf (σ 28)) u1 = f_X6_step_m26 (σ 8) (σ 10) (σ 15) (σ 17) (σ 18) (σ 19) (σ 20) (σ 21) (σ 22) (σ 23) (σ 25) (σ 26) (σ 27) (σ 28) (σ 29) (σ 30) lf u1 ∧
    f_X5_step_st (σ 8) (σ 10) (lf 3) (σ 18) (σ 19) (σ 20) (σ 21) (σ 23) (σ 25) (σ 26) (σ 27) (σ 29) (hwf (σ 28)) u1 = f_X6_step_m27 (σ 8) (σ 10) (σ 15) (σ 17) (σ 18) (σ 19) (σ 20) (σ 21) (σ 22) (σ 23) (σ 25) (σ 26) (σ 27) (σ 28) (σ 29) (σ 30) lf u1 ∧
    f_X5_step_sg (σ 8) (σ 10) (lf 3) (σ 18) (σ 19) (σ 20) (σ 21) (σ 23) (σ 25) (σ 26) (σ 27) (σ 29) (hwf (σ 28)) u1 = f_X6_step_m29 (σ 8) (σ 10) (σ 15) (σ 17) (σ 18) (σ 19) (σ 20) (σ 21) (σ 22) (σ 23) (σ 25) (σ 26) (σ 27) (σ 28) (σ 29) (σ 30) lf u1 ∧
    f_X5_step_sh (σ 8) (σ 10) (lf 3) (σ 18) (σ 19) (σ 20) (σ 21) (σ 23) (σ 25) (σ 26) (σ 27) (σ 29) (hwf (σ 28)) u1 = hwf (f_X6_step_m28 (σ 8) (σ 10) (σ 15) (σ 17) (σ 18) (σ 19) (σ 20) (σ 21) (σ 22) (σ 23) (σ 25) (σ 26) (σ 27) (σ 28) (σ 29) (σ 30) lf u1) ∧
    Inv (sg [f_X6_step_m0 u1, (σ 1), (σ 2), 0, (σ 4), (σ 5), (σ 6), (σ 7), (σ 8), (σ 9), f_X6_step_m10 (σ 8) (σ 10) (σ 15) (σ 17) (σ 18) (σ 19) (σ 20) (σ 21) (σ 22) (σ 23) (σ 25) (σ 26) (σ 27) (σ 28) (σ 29) (σ 30) lf u1, (σ 11), (σ 12), (σ 13), (σ 14), f_X6_step_m15 (σ 8) (σ 10) (σ 15) (σ 17) (σ 18) (σ 19) (σ 20) (σ 21) (σ 22) (σ 23) (σ 25) (σ 26) (σ 27) (σ 28) (σ 29) (σ 30) lf u1, (σ 16), f_X6_step_m17 (σ 8) (σ 10) (σ 15) (σ 17) (σ 18) (σ 19) (σ 20) (σ 21) (σ 22) (σ 23) (σ 25) (σ 26) (σ 27) (σ 28) (σ 29) (σ 30) lf u1, f_X6_step_m18 (σ 8) (σ 10) (σ 15) (σ 17) (σ 18) (σ 19) (σ 20) (σ 21) (σ 22) (σ 23) (σ 25) (σ 26) (σ 27) (σ 28) (σ 29) (σ 30) lf u1, (σ 19), f_X6_step_m20 (σ 8) (σ 10) (σ 15) (σ 17) (σ 18) (σ 19) (σ 20) (σ 21) (σ 22) (σ 23) (σ 25) (σ 26) (σ 27) (σ 28) (σ 29) (σ 30) lf u1, f_X6_step_m21 (σ 8) (σ 10) (σ 15) (σ 17) (σ 18) (σ 19) (σ 20) (σ 21) (σ 22) (σ 23) (σ 25) (σ 26) (σ 27) (σ 28) (σ 29) (σ 30) lf u1, f_X6_step_m22 (σ 8) (σ 10) (σ 15) (σ 17) (σ 18) (σ 19) (σ 20) (σ 21) (σ 22) (σ 23) (σ 25) (σ 26) (σ 27) (σ 28) (σ 29) (σ 30) lf u1, f_X6_step_m23 (σ 8) (σ 10) (σ 15) (σ 17) (σ 18) (σ 19) (σ 20) (σ 21) (σ 22) (σ 23) (σ 25) (σ 26) (σ 27) (σ 28) (σ 29) (σ 30) lf u1, (σ 24), f_X6_step_m25 (σ 8) (σ 10) (σ 15) (σ 17) (σ 18) (σ 19) (σ 20) (σ 21) (σ 22) (σ 23) (σ 25) (σ 26) (σ 27) (σ 28) (σ 29) (σ 30) lf u1, f_X6_step_m26 (σ 8) (σ 10) (σ 15) (σ 17) (σ 18) (σ 19) (σ 20) (σ 21) (σ 22) (σ 23) (σ 25) (σ 26) (σ 27) (σ 28) (σ 29) (σ 30) lf u1, f_X6_step_m27 (σ 8) (σ 10) (σ 15) (σ 17) (σ 18) (σ 19) (σ 20) (σ 21) (σ 22) (σ 23) (σ 25) (σ 26) (σ 27) (σ 28) (σ 29) (σ 30) lf u1, f_X6_step_m28 (σ 8) (σ 10) (σ 15) (σ 17) (σ 18) (σ 19) (σ 20) (σ 21) (σ 22) (σ 23) (σ 25) (σ 26) (σ 27) (σ 28) (σ 29) (σ 30) lf u1, f_X6_step_m29 (σ 8) (σ 10) (σ 15) (σ 17) (σ 18) (σ 19) (σ 20) (σ 21) (σ 22) (σ 23) (σ 25) (σ 26) (σ 27) (σ 28) (σ 29) (σ 30) lf u1, f_X6_step_m30 (σ 8) (σ 10) (σ 15) (σ 17) (σ 18) (σ 19) (σ 20) (σ 21) (σ 22) (σ 23) (σ 25) (σ 26) (σ 27) (σ 28) (σ 29) (σ 30) lf u1]) lf := by
  obtain ⟨⟨h1, h2, h4, h5, h6, h7, h8, h9, h10, h11, h12, h13⟩, ⟨h14, h15, h16, h17, h18, h19, h20, h21, h22, h23, h24, h25⟩, ⟨h26, h27, h28, h29⟩, hf⟩ := id hI
  by_cases h0 : u1 < 0
  · simp only [f_X5_step_thr, f_X6_step_m0, f_X6_step_m10, f_X6_step_m15, f_X6_step_m17, f_X6_step_m18, f_X6_step_m20, f_X6_step_m21, f_X6_step_m22, f_X6_step_m23, f_X6_step_m25, f_X6_step_m26, f_X6_step_m27, f_X6_step_m28, f_X6_step_m29, f_X6_step_m30, f_X6_step_ret, f_X5_step_cy, f_X5_step_fr, f_X5_step_auc, f_X5_step_buc, f_X5_step_tc, f_X5_step_tb, f_X5_step_ta, f_X5_step_td, f_X5_step_vc, f_X5_step_va, f_X5_step_sb, f_X5_step_st, f_X5_step_sg, f_X5_step_sh, f_X5_step_ret, if_pos h0]
    exact ⟨trivial, fun _ => trivial, trivial, trivial, trivial, trivial, trivial, trivial, trivial, trivial, trivial, trivial, trivial, trivial, trivial, trivial, inv_mk h1 h2 h4 h5 h6 h7 h8 h9 h10 h11 h12 h13 h14 h15 h16 h17 h18 h19 h20 h21 h22 h23 h24 h25 h26 h27 h29 h28 hf⟩
  · by_cases hq : u1 ≤ 200000
    · obtain ⟨N, hN, rfl⟩ := nI_of2 (M := 200000) (n := 200000) rfl h0 hq
      have ok := lp_ok (σ 8) (σ 19) lf h19 N (σ 10) (σ 15) (σ 17) (σ 18) (σ 20) (σ 21) (σ 22) (σ 23) (σ 25) (σ 26) (σ 27) (σ 28) (σ 29) (σ 30) h10 h15 h17 h18 h20 h21 h22 h23 h25 h26 h27 h29 h28
      obtain ⟨⟨k10, k15, k17, k18, k20, k21, k22, k23, k25, k26, k27, k29⟩, k28⟩ := ok
      simp only [f_X6_step_m0, f_X6_step_m10, f_X6_step_m15, f_X6_step_m17, f_X6_step_m18, f_X6_step_m20, f_X6_step_m21, f_X6_step_m22, f_X6_step_m23, f_X6_step_m25, f_X6_step_m26, f_X6_step_m27, f_X6_step_m28, f_X6_step_m29, f_X6_step_m30, f_X6_step_ret, if_neg h0, if_pos hq, nI_clamp (show N < 2 ^ 31 by omega)]
      refine ⟨?_, fun _ => ?_, ?_, ?_, ?_, ?_, ?_, ?_, ?_, ?_, ?_, ?_, ?_, ?_, ?_, ?_, ?_⟩
      · unfold f_X5_step_thr; rw [if_neg h0, if_pos hq]
      · rw [x5_ret hN, wc_eq, sc_fr h18 h19 h20 h21 h23 h25 h27 h28 hN]
      · exact sc_cy hN
      · exact sc_fr h18 h19 h20 h21 h23 h25 h27 h28 hN
      · exact sc_auc hN
      · exact sc_buc hN
      · exact sc_tc h18 h19 h20 h21 h22 hN
      · exact sc_tb h18 h19 h20 h21 h22 hN
      · exact sc_ta h18 h19 h20 h21 h22 hN
      · exact sc_td h18 h19 h20 h21 h22 hN
      · exact sc_vc h23 h25 hN
      · exact sc_va h23 h25 hN
      · exact sc_sb h18 h19 h20 h21 h23 h25 h27 h28 hN
      · exact sc_st h18 h19 h20 h21 h23 h25 h27 h28 hN
      · exact sc_sg h18 h19 h20 h21 h23 h25 h27 h28 hN
      · exact sc_sh h18 h19 h20 h21 h23 h25 h27 h28 hN
      · exact inv_mk h1 h2 h4 h5 h6 h7 h8 h9 k10 h11 h12 h13 h14 k15 h16 k17 k18 h19 k20 k21 k22 k23 h24 k25 k26 k27 k29 k28 hf
    · simp only [f_X5_step_thr, f_X6_step_m0, f_X6_step_m10, f_X6_step_m15, f_X6_step_m17, f_X6_step_m18, f_X6_step_m20, f_X6_step_m21, f_X6_step_m22, f_X6_step_m23, f_X6_step_m25, f_X6_step_m26, f_X6_step_m27, f_X6_step_m28, f_X6_step_m29, f_X6_step_m30, f_X6_step_ret, f_X5_step_cy, f_X5_step_fr, f_X5_step_auc, f_X5_step_buc, f_X5_step_tc, f_X5_step_tb, f_X5_step_ta, f_X5_step_td, f_X5_step_vc, f_X5_step_va, f_X5_step_sb, f_X5_step_st, f_X5_step_sg, f_X5_step_sh, f_X5_step_ret, if_neg h0, if_neg hq]
      exact ⟨trivial, fun _ => trivial, trivial, trivial, trivial, trivial, trivial, trivial, trivial, trivial, trivial, trivial, trivial, trivial, trivial, trivial, inv_mk h1 h2 h4 h5 h6 h7 h8 h9 h10 h11 h12 h13 h14 h15 h16 h17 h18 h19 h20 h21 h22 h23 h24 h25 h26 h27 h29 h28 hf⟩
