theorem wayA_eq {w : Int32} (h : Rb 8 w) : ((w &&& (15 : Int32)) >>> ((1 : Int32) &&& (31 : Int32)) : Int32) = (w >>> ((1 : Int32) &&& (31 : Int32)) : Int32) &&& (7 : Int32) := by
  obtain ⟨j, hj, rfl⟩ := h.ex
  exact (by decide +kernel : ∀ j, j < 2 ^ 8 → ((nI j &&& (15 : Int32)) >>> ((1 : Int32) &&& (31 : Int32)) : Int32) = (nI j >>> ((1 : Int32) &&& (31 : Int32)) : Int32) &&& (7 : Int32)) j hj
theorem wayB_eq {w : Int32} (h : Rb 8 w) : ((w >>> ((4 : Int32) &&& (31 : Int32)) : Int32) >>> ((1 : Int32) &&& (31 : Int32)) : Int32) = (w >>> ((5 : Int32) &&& (31 : Int32)) : Int32) &&& (7 : Int32) := by
  obtain ⟨j, hj, rfl⟩ := h.ex
  exact (by decide +kernel : ∀ j, j < 2 ^ 8 → ((nI j >>> ((4 : Int32) &&& (31 : Int32)) : Int32) >>> ((1 : Int32) &&& (31 : Int32)) : Int32) = (nI j >>> ((5 : Int32) &&& (31 : Int32)) : Int32) &&& (7 : Int32)) j hj
theorem lowA_eq {w : Int32} (h : Rb 8 w) : ((w &&& (15 : Int32)) &&& (1 : Int32)) = w &&& (1 : Int32) := by
  obtain ⟨j, hj, rfl⟩ := h.ex
  exact (by decide +kernel : ∀ j, j < 2 ^ 8 → ((nI j &&& (15 : Int32)) &&& (1 : Int32)) = nI j &&& (1 : Int32)) j hj
theorem lowB_eq {w : Int32} (h : Rb 8 w) : (((w >>> ((4 : Int32) &&& (31 : Int32)) : Int32) &&& (1 : Int32)) = 0 ↔ ¬ (w &&& (16 : Int32)) = 16) ∧ ((w &&& (1 : Int32)) = 0 ↔ ¬ (w &&& (1 : Int32)) = 1) := by
  obtain ⟨j, hj, rfl⟩ := h.ex
  exact (by decide +kernel : ∀ j, j < 2 ^ 8 → (((nI j >>> ((4 : Int32) &&& (31 : Int32)) : Int32) &&& (1 : Int32)) = 0 ↔ ¬ (nI j &&& (16 : Int32)) = 16) ∧ ((nI j &&& (1 : Int32)) = 0 ↔ ¬ (nI j &&& (1 : Int32)) = 1)) j hj
theorem ways_eq {w : Int32} (h : Rb 8 w) : ((w >>> ((4 : Int32) &&& (31 : Int32)) : Int32) <<< ((4 : Int32) &&& (31 : Int32)) : Int32) ||| (w &&& (15 : Int32)) = w := by
  obtain ⟨j, hj, rfl⟩ := h.ex
  exact (by decide +kernel : ∀ j, j < 2 ^ 8 → ((nI j >>> ((4 : Int32) &&& (31 : Int32)) : Int32) <<< ((4 : Int32) &&& (31 : Int32)) : Int32) ||| (nI j &&& (15 : Int32)) = nI j) j hj
theorem way7 {w : Int32} (h : Rb 8 w) (k : Int32) : ∃ j : Nat, j < 8 ∧ ((w >>> k : Int32) &&& (7 : Int32)) = nI j := pk_andE _ 3 (by decide)
theorem has_eq {f : Int32} (h : Rb 7 f) : (f_X0_has_ret f 2 = f_X6_has_ret f 1) ∧ (f_X0_has_ret f 16 = f_X6_has_ret f 4) := by
  obtain ⟨j, hj, rfl⟩ := h.ex
  exact (by decide +kernel : ∀ j, j < 2 ^ 7 → (f_X0_has_ret (nI j) 2 = f_X6_has_ret (nI j) 1) ∧ (f_X0_has_ret (nI j) 16 = f_X6_has_ret (nI j) 4)) j hj
theorem nb_iff (x : Int32) : f_X6_noByte_ret x = 0 ↔ ¬ f_X5_isByte_ret x = 0 := by
  unfold f_X6_noByte_ret f_X5_isByte_ret
  by_cases h0 : x < 0
  · simp [h0]
  · by_cases h1 : x ≤ 255
    · have h2 : ¬ (255 : Int32) < x := Int32.not_lt.mpr h1
      simp [h0, h1, h2]
    · have h2 : (255 : Int32) < x := Int32.not_le.mp h1
      simp [h0, h1, h2]
theorem nb_one {x : Int32} (h : ¬ f_X6_noByte_ret x = 0) : f_X5_isByte_ret x = 0 := by
  by_cases h1 : f_X5_isByte_ret x = 0
  · exact h1
  · exact absurd ((nb_iff x).mpr h1) h
theorem nb_rb {x : Int32} (h : f_X6_noByte_ret x = 0) : Rb 8 x := by
  unfold f_X6_noByte_ret at h
  by_cases h0 : x < 0
  · simp [h0] at h
  · by_cases h1 : x ≤ 255
    · obtain ⟨j, hj, rfl⟩ := nI_of2 (M := 255) (n := 255) rfl h0 h1
      exact Rb.of (by omega) (by omega)
    · simp [h0, h1] at h
theorem ctl_eq {c : Int32} (h : Rb 8 c) : ((f_X5_controlHas_ret c 1 = 0) ↔ ¬ (c &&& (1 : Int32)) = 1) ∧ ((f_X5_controlHas_ret c 2 = 0) ↔ ¬ (c &&& (2 : Int32)) = 2) := by
  obtain ⟨j, hj, rfl⟩ := h.ex
  exact (by decide +kernel : ∀ j, j < 2 ^ 8 → ((f_X5_controlHas_ret (nI j) 1 = 0) ↔ ¬ (nI j &&& (1 : Int32)) = 1) ∧ ((f_X5_controlHas_ret (nI j) 2 = 0) ↔ ¬ (nI j &&& (2 : Int32)) = 2)) j hj
theorem ctl0 (c k : Int32) : f_X5_controlHas_ret c k = 0 ↔ (c &&& k) = 0 := by
  unfold f_X5_controlHas_ret
  by_cases h : (c &&& k) = 0 <;> simp [h]
theorem b129 {x : Int32} (h : Rb 8 x) : x &&& (-129 : Int32) = x &&& (127 : Int32) := by
  obtain ⟨j, hj, rfl⟩ := h.ex
  exact (by decide +kernel : ∀ j, j < 2 ^ 8 → nI j &&& (-129 : Int32) = nI j &&& (127 : Int32)) j hj
theorem b256 {x : Int32} (h : Rb 16 x) : x &&& (-256 : Int32) = x &&& (65280 : Int32) := by
  have e : x = x &&& 65535 := by
    obtain ⟨j, hj, rfl⟩ := h.ex
    rw [pk_andN (by omega) 16 (by decide), Nat.mod_eq_of_lt hj]
  rw [e, Int32.and_assoc, Int32.and_assoc]
  rfl
theorem port_rb {a d i : Int32} (ha : Rb 8 a) (hi : Rb 8 i) : Rb 8 ((a &&& d) ||| (i &&& (d ^^^ (-1 : Int32)))) := ha.and_l.or hi.and_l
theorem inv_mk {m0 m1 m2 m3 m4 m5 m6 m7 m8 m9 m10 m11 m12 m13 m14 m15 m16 m17 m18 m19 m20 m21 m22 m23 m24 m25 m26 m27 m28 m29 m30 : Int32} {lf : Nat → Int32} (h1 : Rb 8 m1) (h2 : Rb 8 m2) (h4 : Rb 8 m4) (h5 : Rb 8 m5) (h6 : Rb 8 m6) (h7 : Rb 8 m7) (h8 : Rb 8 m8) (h9 : Rb 8 m9) (h10 : Rb 7 m10) (h11 : Rb 7 m11) (h12 : Rb 8 m12) (h13 : Rb 8 m13) (h14 : Rb 1 m14) (h15 : Rb 1 m15) (h16 : Rb 1 m16) (h17 : Rb 1 m17) (h18 : Rb 16 m18) (h19 : Rb 16 m19) (h20 : Rb 1 m20) (h21 : Rb 1 m21) (h22 : Rb 1 m22) (h23 : Rb 16 m23) (h24 : Rb 8 m24) (h25 : Rb 1 m25) (h26 : Rb 8 m26) (h27 : Rb 4 m27) (h29 : Rb 1 m29) (h28 : m28 = 0 ∧ m27 = 0 ∨ m28 = 1 ∨ m28 = 2) (hf : ∀ k, k < 4 → Rb 1 (lf k)) : Inv (sg [m0, m1, m2, m3, m4, m5, m6, m7, m8, m9, m10, m11, m12, m13, m14, m15, m16, m17, m18, m19, m20, m21, m22, m23, m24, m25, m26, m27, m28, m29, m30]) lf := ⟨⟨h1, h2, h4, h5, h6, h7, h8, h9, h10, h11, h12, h13⟩, ⟨h14, h15, h16, h17, h18, h19, h20, h21, h22, h23, h24, h25⟩, ⟨h26, h27, h28, h29⟩, hf⟩
