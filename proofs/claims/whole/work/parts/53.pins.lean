theorem dec_1 {j : Nat} (h : j < 65536) : ((nI j - (1 : Int32)) &&& (65535 : Int32)) = nI (if j = 0 then 65535 else j - 1) := by
  by_cases h0 : j = 0
  · rw [if_pos h0, h0]; decide
  · rw [if_neg h0, show (1 : Int32) = nI 1 from rfl, pk_sub (by omega), pk_andN (by omega) 16 (by decide), Nat.mod_eq_of_lt (by omega)]
theorem dec_out {j : Nat} (h : j < 65536) : ((nI j - (1 : Int32)) &&& (65535 : Int32)) = 65535 ↔ j = 0 := by
  rw [dec_1 h, show (65535 : Int32) = nI 65535 from rfl]
  by_cases h0 : j = 0
  · rw [if_pos h0]; exact ⟨fun _ => h0, fun _ => rfl⟩
  · rw [if_neg h0, nI_eq (by omega) (by omega)]; omega
theorem dec_le {v : Int32} (h : Rb 16 v) : ((v - (1 : Int32)) &&& (65535 : Int32)) = 65535 ↔ ¬ (1 : Int32) ≤ v := by
  obtain ⟨j, hj, rfl⟩ := h.ex
  rw [dec_out hj, show (1 : Int32) = nI 1 from rfl, nI_leI (by omega) (by omega)]; omega
theorem bit64 {x : Int32} (h : Rb 8 x) : (x &&& (64 : Int32)) = 0 ∨ (x &&& (64 : Int32)) = 64 := by
  obtain ⟨j, hj, rfl⟩ := h.ex
  exact (by decide +kernel : ∀ j, j < 2 ^ 8 → (nI j &&& (64 : Int32)) = 0 ∨ (nI j &&& (64 : Int32)) = 64) j hj
theorem fall64 {b v : Int32} (hb : Rb 8 b) (hv : Rb 8 v) : ((b &&& (v ^^^ (-1 : Int32))) &&& (64 : Int32)) = 0 ↔ ((b &&& (64 : Int32)) = 0 ∨ ¬ (v &&& (64 : Int32)) = 0) := by
  have e : ((b &&& (v ^^^ (-1 : Int32))) &&& (64 : Int32)) = (b &&& (64 : Int32)) &&& ((v &&& (64 : Int32)) ^^^ (-1 : Int32)) := by
    apply Int32.toBitVec_inj.mp
    simp only [Int32.toBitVec_and, Int32.toBitVec_xor]
    ext i hi
    simp only [BitVec.getElem_and, BitVec.getElem_xor]
    have e1 : (-1 : Int32).toBitVec[i] = true := by
      exact (BitVec.getElem_allOnes (v := 32) i hi)
    rw [e1]
    cases b.toBitVec[i] <;> cases v.toBitVec[i] <;> cases (64 : Int32).toBitVec[i] <;> rfl
  rw [e]
  rcases bit64 hb with h | h <;> rcases bit64 hv with h2 | h2 <;> rw [h, h2] <;> decide
theorem pt_pins (σ lf : Nat → Int32) (hI : Inv σ lf) (u1 : Int32) (u2 : Int32) :
    f_X6_pins_m0 u1 u2 = f_X5_pins_thr u1 u2 ∧
    f_X5_pins_fr (σ 8) (σ 10) (σ 2) (σ 23) (σ 25) u1 u2 = f_X6_pins_m10 (σ 2) (σ 8) (σ 10) (σ 23) (σ 25) u1 u2 ∧
    f_X5_pins_apn (σ 1) u1 u2 = f_X6_pins_m1 (σ 1) u1 u2 ∧
    f_X5_pins_bpn (σ 2) u1 u2 = f_X6_pins_m2 (σ 2) u1 u2 ∧
    f_X5_pins_vc (σ 8) (σ 2) (σ 23) u1 u2 = f_X6_pins_m23 (σ 2) (σ 8) (σ 23) u1 u2 ∧
    f_X5_pins_va (σ 8) (σ 2) (σ 23) (σ 25) u1 u2 = f_X6_pins_m25 (σ 2) (σ 8) (σ 23) (σ 25) u1 u2 ∧
    Inv (sg [f_X6_pins_m0 u1 u2, f_X6_pins_m1 (σ 1) u1 u2, f_X6_pins_m2 (σ 2) u1 u2, 0, (σ 4), (σ 5), (σ 6), (σ 7), (σ 8), (σ 9), f_X6_pins_m10 (σ 2) (σ 8) (σ 10) (σ 23) (σ 25) u1 u2, (σ 11), (σ 12), (σ 13), (σ 14), (σ 15), (σ 16), (σ 17), (σ 18), (σ 19), (σ 20), (σ 21), (σ 22), f_X6_pins_m23 (σ 2) (σ 8) (σ 23) u1 u2, (σ 24), f_X6_pins_m25 (σ 2) (σ 8) (σ 23) (σ 25) u1 u2, (σ 26), (σ 27), (σ 28), (σ 29), (σ 30)]) lf := by
  obtain ⟨⟨h1, h2, h4, h5, h6, h7, h8, h9, h10, h11, h12, h13⟩, ⟨h14, h15, h16, h17, h18, h19, h20, h21, h22, h23, h24, h25⟩, ⟨h26, h27, h28, h29⟩, hf⟩ := id hI
  by_cases hx : f_X6_noByte_ret u1 = 0
  · have hx5 := (nb_iff u1).mp hx
    by_cases hy : f_X6_noByte_ret u2 = 0
    · have hy5 := (nb_iff u2).mp hy
      have r1 := nb_rb hx
      have r2 := nb_rb hy
      simp only [f_X6_pins_m0, f_X6_pins_m1, f_X6_pins_m2, f_X6_pins_m10, f_X6_pins_m23, f_X6_pins_m25, f_X5_pins_thr, f_X5_pins_fr, f_X5_pins_apn, f_X5_pins_bpn, f_X5_pins_vc, f_X5_pins_va, if_pos hx, if_pos hy, if_neg hx5, if_neg hy5, fall64 h2 r2, ctl0, f_X6_lessTimer2_m10, f_X6_lessTimer2_m25, f_X4_countDown_fr, f_X4_countDown_va, dec_le h23, show ((1 : Int32) <<< ((5 : Int32) &&& (31 : Int32)) : Int32) = 32 from by decide]
      have rr : Rb 16 ((σ 23 - (1 : Int32)) &&& (65535 : Int32)) := Rb.and_r (by unfold Rb; decide)
      have r7 : Rb 7 (σ 10 ||| (32 : Int32)) := h10.or (by unfold Rb; decide)
      refine ⟨trivial, ?_, trivial, trivial, ?_, ?_, ?_⟩
      · by_cases a : (σ 2 &&& (64 : Int32)) = 0 <;> by_cases b : (u2 &&& (64 : Int32)) = 0 <;> by_cases c : (1 : Int32) ≤ σ 23 <;> simp [a, b, c]
      · by_cases a : (σ 2 &&& (64 : Int32)) = 0 <;> by_cases b : (u2 &&& (64 : Int32)) = 0 <;> simp [a, b]
      · by_cases a : (σ 2 &&& (64 : Int32)) = 0 <;> by_cases b : (u2 &&& (64 : Int32)) = 0 <;> by_cases c : (1 : Int32) ≤ σ 23 <;> simp [a, b, c]
      · refine inv_mk r1 r2 h4 h5 h6 h7 h8 h9 ?_ h11 h12 h13 h14 h15 h16 h17 h18 h19 h20 h21 h22 ?_ h24 ?_ h26 h27 h29 h28 hf
        · (repeat' split) <;> assumption
        · (repeat' split) <;> assumption
        · (repeat' split) <;> first | assumption | exact Rb.b0
    · have hy5 := nb_one hy
      simp only [f_X6_pins_m0, f_X6_pins_m1, f_X6_pins_m2, f_X6_pins_m10, f_X6_pins_m23, f_X6_pins_m25, f_X5_pins_thr, f_X5_pins_fr, f_X5_pins_apn, f_X5_pins_bpn, f_X5_pins_vc, f_X5_pins_va, if_pos hx, if_neg hy, if_neg hx5, if_pos hy5]
      exact ⟨trivial, trivial, trivial, trivial, trivial, trivial, inv_mk h1 h2 h4 h5 h6 h7 h8 h9 h10 h11 h12 h13 h14 h15 h16 h17 h18 h19 h20 h21 h22 h23 h24 h25 h26 h27 h29 h28 hf⟩
  · have hx5 := nb_one hx
    simp only [f_X6_pins_m0, f_X6_pins_m1, f_X6_pins_m2, f_X6_pins_m10, f_X6_pins_m23, f_X6_pins_m25, f_X5_pins_thr, f_X5_pins_fr, f_X5_pins_apn, f_X5_pins_bpn, f_X5_pins_vc, f_X5_pins_va, if_neg hx, if_pos hx5]
    exact ⟨trivial, trivial, trivial, trivial, trivial, trivial, inv_mk h1 h2 h4 h5 h6 h7 h8 h9 h10 h11 h12 h13 h14 h15 h16 h17 h18 h19 h20 h21 h22 h23 h24 h25 h26 h27 h29 h28 hf⟩
