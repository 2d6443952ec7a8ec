/-- so many bits at the most -/
def Rb (k : Nat) (x : Int32) : Prop := x.toBitVec.toNat < 2 ^ k
def Inv (σ lf : Nat → Int32) : Prop :=
  (Rb 8 (σ 1) ∧ Rb 8 (σ 2) ∧ Rb 8 (σ 4) ∧ Rb 8 (σ 5) ∧ Rb 8 (σ 6) ∧ Rb 8 (σ 7) ∧ Rb 8 (σ 8) ∧ Rb 8 (σ 9) ∧ Rb 7 (σ 10) ∧ Rb 7 (σ 11) ∧ Rb 8 (σ 12) ∧ Rb 8 (σ 13)) ∧
  (Rb 1 (σ 14) ∧ Rb 1 (σ 15) ∧ Rb 1 (σ 16) ∧ Rb 1 (σ 17) ∧ Rb 16 (σ 18) ∧ Rb 16 (σ 19) ∧ Rb 1 (σ 20) ∧ Rb 1 (σ 21) ∧ Rb 1 (σ 22) ∧ Rb 16 (σ 23) ∧ Rb 8 (σ 24) ∧ Rb 1 (σ 25)) ∧
  (Rb 8 (σ 26) ∧ Rb 4 (σ 27) ∧ (σ 28 = 0 ∧ σ 27 = 0 ∨ σ 28 = 1 ∨ σ 28 = 2) ∧ Rb 1 (σ 29)) ∧ ∀ k, k < 4 → Rb 1 (lf k)
theorem inv_ne {σ lf : Nat → Int32} (h : Inv σ lf) : ¬ σ 19 + 2 = 0 := by
  sorry
theorem inv_start : Inv (sg [0, 0, 0, 0, 0, 0, 0, 0, 0, 0, 0, 0, 0, 0, 0, 0, 0, 0, 0, 0, 0, 0, 1, 0, 0, 0, 0, 0, 0, 1, 0]) (fun _ => 0) := by
  sorry
