/-- so many bits at the most -/
def Rb (k : Nat) (x : Int32) : Prop := x.toBitVec.toNat < 2 ^ k
theorem Rb.and_l {k : Nat} {x y : Int32} (h : Rb k x) : Rb k (x &&& y) := by
  unfold Rb at *
  rw [Int32.toBitVec_and, BitVec.toNat_and]
  exact Nat.lt_of_le_of_lt Nat.and_le_left h
theorem Rb.and_r {k : Nat} {x y : Int32} (h : Rb k y) : Rb k (x &&& y) := by
  unfold Rb at *
  rw [Int32.toBitVec_and, BitVec.toNat_and]
  exact Nat.lt_of_le_of_lt Nat.and_le_right h
theorem Rb.or {k : Nat} {x y : Int32} (h1 : Rb k x) (h2 : Rb k y) : Rb k (x ||| y) := by
  unfold Rb at *
  rw [Int32.toBitVec_or, BitVec.toNat_or]
  exact Nat.or_lt_two_pow h1 h2
theorem Rb.xor {k : Nat} {x y : Int32} (h1 : Rb k x) (h2 : Rb k y) : Rb k (x ^^^ y) := by
  unfold Rb at *
  rw [Int32.toBitVec_xor, BitVec.toNat_xor]
  exact Nat.xor_lt_two_pow h1 h2
theorem Rb.mono {k l : Nat} {x : Int32} (h : Rb k x) (hkl : k ≤ l) : Rb l x := Nat.lt_of_lt_of_le h (Nat.pow_le_pow_right (by decide) hkl)
theorem Rb.ex {k : Nat} {x : Int32} (h : Rb k x) : ∃ j : Nat, j < 2 ^ k ∧ x = nI j :=
  ⟨x.toBitVec.toNat, h, Int32.toBitVec_inj.mp (by show _ = BitVec.ofNat 32 _; simp)⟩
theorem Rb.of {k j : Nat} (h : j < 2 ^ k) (hk : k ≤ 31) : Rb k (nI j) := by
  have h2 : 2 ^ k ≤ 2 ^ 31 := Nat.pow_le_pow_right (by decide) hk
  unfold Rb
  rw [pk_tn (by omega)]
  exact h
theorem Rb.bit {x : Int32} (h : Rb 1 x) : x = 0 ∨ x = 1 := by
  obtain ⟨j, hj, rfl⟩ := h.ex
  rcases (show j = 0 ∨ j = 1 by omega) with rfl | rfl
  · exact Or.inl rfl
  · exact Or.inr rfl
theorem Rb.b0 {k : Nat} : Rb k 0 := Nat.pow_pos (by decide)
theorem Rb.b1 : Rb 1 1 := by unfold Rb; decide
def Inv (σ lf : Nat → Int32) : Prop :=
  (Rb 8 (σ 1) ∧ Rb 8 (σ 2) ∧ Rb 8 (σ 4) ∧ Rb 8 (σ 5) ∧ Rb 8 (σ 6) ∧ Rb 8 (σ 7) ∧ Rb 8 (σ 8) ∧ Rb 8 (σ 9) ∧ Rb 7 (σ 10) ∧ Rb 7 (σ 11) ∧ Rb 8 (σ 12) ∧ Rb 8 (σ 13)) ∧
  (Rb 1 (σ 14) ∧ Rb 1 (σ 15) ∧ Rb 1 (σ 16) ∧ Rb 1 (σ 17) ∧ Rb 16 (σ 18) ∧ Rb 16 (σ 19) ∧ Rb 1 (σ 20) ∧ Rb 1 (σ 21) ∧ Rb 1 (σ 22) ∧ Rb 16 (σ 23) ∧ Rb 8 (σ 24) ∧ Rb 1 (σ 25)) ∧
  (Rb 8 (σ 26) ∧ Rb 4 (σ 27) ∧ (σ 28 = 0 ∧ σ 27 = 0 ∨ σ 28 = 1 ∨ σ 28 = 2) ∧ Rb 1 (σ 29)) ∧ ∀ k, k < 4 → Rb 1 (lf k)
theorem inv_ne {σ lf : Nat → Int32} (h : Inv σ lf) : ¬ σ 19 + 2 = 0 := by
  obtain ⟨j, hj, e⟩ := h.2.1.2.2.2.2.2.1.ex
  rw [e, show (2 : Int32) = nI 2 from rfl, nI_add]
  exact nI_ne0 (by omega) (by omega)
theorem inv_start : Inv (sg [0, 0, 0, 0, 0, 0, 0, 0, 0, 0, 0, 0, 0, 0, 0, 0, 0, 0, 0, 0, 0, 0, 1, 0, 0, 0, 0, 0, 0, 1, 0]) (fun _ => 0) :=
  ⟨⟨Rb.b0, Rb.b0, Rb.b0, Rb.b0, Rb.b0, Rb.b0, Rb.b0, Rb.b0, Rb.b0, Rb.b0, Rb.b0, Rb.b0⟩, ⟨Rb.b0, Rb.b0, Rb.b0, Rb.b0, Rb.b0, Rb.b0, Rb.b0, Rb.b0, Rb.b1, Rb.b0, Rb.b0, Rb.b0⟩, ⟨Rb.b0, Rb.b0, Or.inl ⟨rfl, rfl⟩, Rb.b1⟩, fun _ _ => Rb.b0⟩
