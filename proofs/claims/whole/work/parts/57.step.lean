def rO (l r : Nat) : Nat := if r % (l + 2) = 0 then 65535 else l + 1 - r % (l + 2)
def rD (l r : Nat) : Nat := if r % (l + 2) = 0 then 1 else 0
theorem rO_add (l r : Nat) : rO l (r + (l + 2)) = rO l r := by unfold rO; rw [Nat.add_mod_right]
theorem rD_add (l r : Nat) : rD l (r + (l + 2)) = rD l r := by unfold rD; rw [Nat.add_mod_right]
theorem rO_lt {l r : Nat} (h : 0 < r) (h2 : r < l + 2) : rO l r = l + 1 - r := by unfold rO; rw [Nat.mod_eq_of_lt h2, if_neg (by omega)]
theorem rD_lt {l r : Nat} (h : 0 < r) (h2 : r < l + 2) : rD l r = 0 := by unfold rD; rw [Nat.mod_eq_of_lt h2, if_neg (by omega)]
theorem rO_0 (l : Nat) : rO l 0 = 65535 := by unfold rO; rw [Nat.zero_mod, if_pos rfl]
theorem rD_0 (l : Nat) : rD l 0 = 1 := by unfold rD; rw [Nat.zero_mod, if_pos rfl]
def TCo (N c : Nat) : Nat := (c + 65535 * N) % 65536
def TCf (N c l d : Nat) : Nat := if N = 0 then c else (if d = 0 then (if N ≤ c then c - N else rO l (N - c - 1)) else (if N - 1 ≤ l then l - (N - 1) else rO l (N - 1 - l - 1)))
def TDf (N c l d : Nat) : Nat := if N = 0 then d else (if d = 0 then (if N ≤ c then 0 else rD l (N - c - 1)) else (if N - 1 ≤ l then 0 else rD l (N - 1 - l - 1)))
def TPf (N c l d : Nat) : Nat := if N = 0 then 0 else (if d = 0 then (if N ≤ c then 0 else 1 + (N - c - 1) / (l + 2)) else (if N - 1 ≤ l then 0 else 1 + (N - 1 - l - 1) / (l + 2)))
def cN (c : Nat) : Nat := if c = 0 then 65535 else c - 1
theorem cN_lt {c : Nat} (h : c < 65536) : cN c < 65536 := by unfold cN; split <;> omega
theorem TCo_0 {c : Nat} (h : c < 65536) : TCo 0 c = c := by unfold TCo; omega
theorem TCo_S {N c : Nat} (h : c < 65536) : TCo (N + 1) c = TCo N (cN c) := by
  unfold TCo cN
  split <;> omega
theorem TCo_lt (N c : Nat) : TCo N c < 65536 := by unfold TCo; omega
/-- one cycle with the load due -/
theorem fr1_C (N c l : Nat) : TCf (N + 1) c l 1 = TCf N l l 0 := by
  unfold TCf
  rw [if_neg (by omega), if_neg (by omega), if_pos rfl, Nat.add_sub_cancel]
  by_cases h : N = 0
  · subst h; rw [if_pos rfl, if_pos (by omega)]; rfl
  · rw [if_neg h]
theorem fr1_D (N c l : Nat) : TDf (N + 1) c l 1 = TDf N l l 0 := by
  unfold TDf
  rw [if_neg (by omega), if_neg (by omega), if_pos rfl, Nat.add_sub_cancel]
  by_cases h : N = 0
  · subst h; rw [if_pos rfl, if_pos (by omega)]
  · rw [if_neg h]
theorem fr1_P (N c l : Nat) : TPf (N + 1) c l 1 = TPf N l l 0 := by
  unfold TPf
  rw [if_neg (by omega), if_neg (by omega), if_pos rfl, Nat.add_sub_cancel]
  by_cases h : N = 0
  · subst h; rw [if_pos rfl, if_pos (by omega)]
  · rw [if_neg h]
/-- one cycle that counts -/
theorem fr0_C {c : Nat} (N l : Nat) (hc : 0 < c) : TCf (N + 1) c l 0 = TCf N (c - 1) l 0 := by
  unfold TCf
  rw [if_neg (by omega), if_pos rfl, if_pos rfl]
  by_cases h : N = 0
  · subst h; rw [if_pos rfl, if_pos (by omega)]
  · rw [if_neg h]
    by_cases h2 : N + 1 ≤ c
    · rw [if_pos h2, if_pos (by omega)]; omega
    · rw [if_neg h2, if_neg (by omega), show N + 1 - c - 1 = N - (c - 1) - 1 by omega]
theorem fr0_D {c : Nat} (N l : Nat) (hc : 0 < c) : TDf (N + 1) c l 0 = TDf N (c - 1) l 0 := by
  unfold TDf
  rw [if_neg (by omega), if_pos rfl, if_pos rfl]
  by_cases h : N = 0
  · subst h; rw [if_pos rfl, if_pos (by omega)]
  · rw [if_neg h]
    by_cases h2 : N + 1 ≤ c
    · rw [if_pos h2, if_pos (by omega)]
    · rw [if_neg h2, if_neg (by omega), show N + 1 - c - 1 = N - (c - 1) - 1 by omega]
theorem fr0_P {c : Nat} (N l : Nat) (hc : 0 < c) : TPf (N + 1) c l 0 = TPf N (c - 1) l 0 := by
  unfold TPf
  rw [if_neg (by omega), if_pos rfl, if_pos rfl]
  by_cases h : N = 0
  · subst h; rw [if_pos rfl, if_pos (by omega)]
  · rw [if_neg h]
    by_cases h2 : N + 1 ≤ c
    · rw [if_pos h2, if_pos (by omega)]
    · rw [if_neg h2, if_neg (by omega), show N + 1 - c - 1 = N - (c - 1) - 1 by omega]
/-- the cycle in which it runs out -/
theorem frz_C (N l : Nat) : TCf (N + 1) 0 l 0 = TCf N 65535 l 1 := by
  unfold TCf
  rw [if_neg (show ¬ N + 1 = 0 by omega), if_pos rfl, if_neg (show ¬ N + 1 ≤ 0 by omega), if_neg (show ¬ (1 : Nat) = 0 by omega), show N + 1 - 0 - 1 = N by omega]
  by_cases h : N = 0
  · subst h; rw [if_pos rfl, rO_0]
  · rw [if_neg h]
    by_cases h2 : N - 1 ≤ l
    · rw [if_pos h2, rO_lt (by omega) (by omega)]; omega
    · rw [if_neg h2]
      have e := rO_add l (N - 1 - l - 1)
      rw [show N - 1 - l - 1 + (l + 2) = N by omega] at e
      exact e
theorem frz_D (N l : Nat) : TDf (N + 1) 0 l 0 = TDf N 65535 l 1 := by
  unfold TDf
  rw [if_neg (show ¬ N + 1 = 0 by omega), if_pos rfl, if_neg (show ¬ N + 1 ≤ 0 by omega), if_neg (show ¬ (1 : Nat) = 0 by omega), show N + 1 - 0 - 1 = N by omega]
  by_cases h : N = 0
  · subst h; rw [if_pos rfl, rD_0]
  · rw [if_neg h]
    by_cases h2 : N - 1 ≤ l
    · rw [if_pos h2, rD_lt (by omega) (by omega)]
    · rw [if_neg h2]
      have e := rD_add l (N - 1 - l - 1)
      rw [show N - 1 - l - 1 + (l + 2) = N by omega] at e
      exact e
theorem frz_P (N l : Nat) : TPf (N + 1) 0 l 0 = 1 + TPf N 65535 l 1 := by
  unfold TPf
  rw [if_neg (show ¬ N + 1 = 0 by omega), if_pos rfl, if_neg (show ¬ N + 1 ≤ 0 by omega), if_neg (show ¬ (1 : Nat) = 0 by omega), show N + 1 - 0 - 1 = N by omega]
  by_cases h : N = 0
  · subst h; rw [if_pos rfl, Nat.zero_div]
  · rw [if_neg h]
    by_cases h2 : N - 1 ≤ l
    · rw [if_pos h2, Nat.div_eq_of_lt (by omega)]
    · rw [if_neg h2]
      have e := Nat.add_div_right (N - 1 - l - 1) (show 0 < l + 2 by omega)
      rw [show N - 1 - l - 1 + (l + 2) = N by omega] at e
      rw [e]; omega
/-- the Java forms of these -/
theorem j_rO {l r : Nat} (hl : l < 65536) (hr : r < 2 ^ 31) : f_X3_runOut_tc (nI l) (nI r) = nI (rO l r) := by
  unfold f_X3_runOut_tc rO
  rw [show (2 : Int32) = nI 2 from rfl, show (1 : Int32) = nI 1 from rfl, nI_add, nI_add, pk_rem hr (by omega) (by omega)]
  have hm := Nat.mod_lt r (show 0 < l + 2 by omega)
  by_cases h : r % (l + 2) = 0
  · rw [h, nI_0, if_pos rfl, if_pos rfl]; rfl
  · rw [if_neg (nI_ne0 (by omega) (by omega)), if_neg h, pk_sub (by omega)]
theorem j_rD {l r : Nat} (hl : l < 65536) (hr : r < 2 ^ 31) : f_X3_runOut_td (nI l) (nI r) = nI (rD l r) := by
  unfold f_X3_runOut_td rD
  rw [show (2 : Int32) = nI 2 from rfl, nI_add, pk_rem hr (by omega) (by omega)]
  have hm := Nat.mod_lt r (show 0 < l + 2 by omega)
  by_cases h : r % (l + 2) = 0
  · rw [h, nI_0, if_pos rfl, if_pos rfl]; rfl
  · rw [if_neg (nI_ne0 (by omega) (by omega)), if_neg h]; rfl
theorem j_TCo {N c : Nat} (hN : N < 2 ^ 31) (hc : c < 65536) : ((nI c - nI N) &&& (65535 : Int32)) = nI (TCo N c) := by
  rw [pk_and _ 16 (by decide), Int32.toBitVec_sub, BitVec.toNat_sub, pk_tn (by omega), pk_tn (by omega)]
  unfold TCo
  congr 1
  omega
theorem j_xor {b m : Nat} (hb : b < 2) : nI b ^^^ (nI m &&& (1 : Int32)) = nI ((b + m) % 2) := by
  rw [pk_and _ 1 (by decide), show (nI m).toBitVec.toNat = m % 2 ^ 32 from rfl]
  have e : m % 2 ^ 32 % 2 ^ 1 = m % 2 := by omega
  rw [e]
  rcases (show b = 0 ∨ b = 1 by omega) with rfl | rfl <;> rcases (show m % 2 = 0 ∨ m % 2 = 1 by omega) with h | h <;> rw [h]
  · rw [show (0 + m) % 2 = 0 by omega]; rfl
  · rw [show (0 + m) % 2 = 1 by omega]; rfl
  · rw [show (1 + m) % 2 = 1 by omega]; rfl
  · rw [show (1 + m) % 2 = 0 by omega]; rfl
def K18 (m8 : Int32) (N c l d : Nat) : Nat := if (m8 &&& (64 : Int32)) = 0 then TCo N c else TCf N c l d
def K20 (m8 : Int32) (N c a : Nat) : Nat := if (m8 &&& (64 : Int32)) = 0 then (if N ≤ c then a else 0) else a
def K21 (m8 : Int32) (N c l d : Nat) : Nat := if (m8 &&& (64 : Int32)) = 0 then (if N = 0 then d else 0) else TDf N c l d
def K22 (m8 : Int32) (N c l a d b : Nat) : Nat := if (m8 &&& (64 : Int32)) = 0 then (if N ≤ c then b else (if a = 0 then b else 1)) else (b + TPf N c l d) % 2
def Q1 (m8 : Int32) (N c l a d : Nat) : Int32 := if (m8 &&& (64 : Int32)) = 0 then (if N ≤ c ∨ a = 0 then 0 else 64) else (if TPf N c l d = 0 then 0 else 64)
def K23 (m8 : Int32) (N c : Nat) : Nat := if (m8 &&& (32 : Int32)) = 0 then TCo N c else c
def K25 (m8 : Int32) (N c a : Nat) : Nat := if (m8 &&& (32 : Int32)) = 0 then (if N ≤ c then a else 0) else a
def Q2 (m8 : Int32) (N c a : Nat) : Int32 := if (m8 &&& (32 : Int32)) = 0 then (if N ≤ c ∨ a = 0 then 0 else 32) else 0
theorem nI_z {n : Nat} (h : n < 2 ^ 31) : nI n = 0 ↔ n = 0 := by
  rw [← nI_0, nI_eq h (by omega)]
theorem j_m1 {N : Nat} (h : 0 < N) : nI N + (-1) = nI (N - 1) := by
  have e := pk_m1 (N - 1)
  rw [show N - 1 + 1 = N by omega] at e
  exact e
theorem or_z (x : Int32) : x ||| (0 : Int32) = x := by
  apply Int32.toBitVec_inj.mp
  simp only [Int32.toBitVec_or]
  ext i hi
  simp
/-- running freely -/
theorem j_fTC {N c l d : Nat} (h0 : 0 < N) (hN : N < 2 ^ 30) (hc : c < 65536) (hl : l < 65536) (hd : d < 2) : f_X3_runFreely_tc (nI c) (nI l) (nI d) (nI N) = nI (TCf N c l d) := by
  unfold f_X3_runFreely_tc TCf
  rw [if_neg (show ¬ N = 0 by omega), j_m1 h0]
  by_cases h : d = 0
  · rw [if_pos ((nI_z (by omega)).mpr h), if_pos h]
    by_cases h2 : N ≤ c
    · rw [if_pos ((nI_leI (by omega) (by omega)).mpr h2), if_pos h2, pk_sub h2]
    · rw [if_neg (fun q => h2 ((nI_leI (by omega) (by omega)).mp q)), if_neg h2, pk_sub (by omega), show (1 : Int32) = nI 1 from rfl, pk_sub (by omega), j_rO hl (by omega)]
  · rw [if_neg (fun q => h ((nI_z (by omega)).mp q)), if_neg h]
    by_cases h2 : N - 1 ≤ l
    · rw [if_pos ((nI_leI (by omega) (by omega)).mpr h2), if_pos h2, pk_sub h2]
    · rw [if_neg (fun q => h2 ((nI_leI (by omega) (by omega)).mp q)), if_neg h2, pk_sub (by omega), show (1 : Int32) = nI 1 from rfl, pk_sub (by omega), j_rO hl (by omega)]
theorem j_fTD {N c l d : Nat} (h0 : 0 < N) (hN : N < 2 ^ 30) (hc : c < 65536) (hl : l < 65536) (hd : d < 2) : f_X3_runFreely_td (nI c) (nI l) (nI d) (nI N) = nI (TDf N c l d) := by
  unfold f_X3_runFreely_td TDf
  rw [if_neg (show ¬ N = 0 by omega), j_m1 h0]
  by_cases h : d = 0
  · rw [if_pos ((nI_z (by omega)).mpr h), if_pos h]
    by_cases h2 : N ≤ c
    · rw [if_pos ((nI_leI (by omega) (by omega)).mpr h2), if_pos h2, h]
    · rw [if_neg (fun q => h2 ((nI_leI (by omega) (by omega)).mp q)), if_neg h2, pk_sub (by omega), show (1 : Int32) = nI 1 from rfl, pk_sub (by omega), j_rD hl (by omega)]
  · rw [if_neg (fun q => h ((nI_z (by omega)).mp q)), if_neg h]
    by_cases h2 : N - 1 ≤ l
    · rw [if_pos ((nI_leI (by omega) (by omega)).mpr h2), if_pos h2]; rfl
    · rw [if_neg (fun q => h2 ((nI_leI (by omega) (by omega)).mp q)), if_neg h2, pk_sub (by omega), show (1 : Int32) = nI 1 from rfl, pk_sub (by omega), j_rD hl (by omega)]
theorem j_fTB {N c l d b : Nat} (h0 : 0 < N) (hN : N < 2 ^ 30) (hc : c < 65536) (hl : l < 65536) (hd : d < 2) (hb : b < 2) : f_X3_runFreely_tb (nI c) (nI l) (nI b) (nI d) (nI N) = nI ((b + TPf N c l d) % 2) := by
  unfold f_X3_runFreely_tb TPf
  rw [if_neg (show ¬ N = 0 by omega), j_m1 h0]
  by_cases h : d = 0
  · rw [if_pos ((nI_z (by omega)).mpr h), if_pos h]
    by_cases h2 : N ≤ c
    · rw [if_pos ((nI_leI (by omega) (by omega)).mpr h2), if_pos h2, show (b + 0) % 2 = b by omega]
    · rw [if_neg (fun q => h2 ((nI_leI (by omega) (by omega)).mp q)), if_neg h2, pk_sub (by omega), show (1 : Int32) = nI 1 from rfl, pk_sub (by omega), show (2 : Int32) = nI 2 from rfl, nI_add, pk_div (by omega) (by omega) (by omega), nI_add, show nI 1 = (1 : Int32) from rfl, j_xor hb]
  · rw [if_neg (fun q => h ((nI_z (by omega)).mp q)), if_neg h]
    by_cases h2 : N - 1 ≤ l
    · rw [if_pos ((nI_leI (by omega) (by omega)).mpr h2), if_pos h2, show (b + 0) % 2 = b by omega]
    · rw [if_neg (fun q => h2 ((nI_leI (by omega) (by omega)).mp q)), if_neg h2, pk_sub (by omega), show (1 : Int32) = nI 1 from rfl, pk_sub (by omega), show (2 : Int32) = nI 2 from rfl, nI_add, pk_div (by omega) (by omega) (by omega), nI_add, show nI 1 = (1 : Int32) from rfl, j_xor hb]
theorem j_fFR {N c l d : Nat} (fr : Int32) (h0 : 0 < N) (hN : N < 2 ^ 30) (hc : c < 65536) (hl : l < 65536) (hd : d < 2) : f_X3_runFreely_fr (nI c) (nI l) (nI d) fr (nI N) = fr ||| (if TPf N c l d = 0 then (0 : Int32) else 64) := by
  unfold f_X3_runFreely_fr TPf
  rw [if_neg (show ¬ N = 0 by omega), j_m1 h0]
  by_cases h : d = 0
  · rw [if_pos ((nI_z (by omega)).mpr h), if_pos h]
    by_cases h2 : N ≤ c
    · rw [if_pos ((nI_leI (by omega) (by omega)).mpr h2), if_pos h2, if_pos rfl, or_z]
    · rw [if_neg (fun q => h2 ((nI_leI (by omega) (by omega)).mp q)), if_neg h2, if_neg (by generalize (N - c - 1) / (l + 2) = z; omega)]
  · rw [if_neg (fun q => h ((nI_z (by omega)).mp q)), if_neg h]
    by_cases h2 : N - 1 ≤ l
    · rw [if_pos ((nI_leI (by omega) (by omega)).mpr h2), if_pos h2, if_pos rfl, or_z]
    · rw [if_neg (fun q => h2 ((nI_leI (by omega) (by omega)).mp q)), if_neg h2, if_neg (by generalize (N - 1 - l - 1) / (l + 2) = z; omega)]
/-- running once -/
theorem j_oTB {N c a b : Nat} (hN : N < 2 ^ 30) (hc : c < 65536) (ha : a < 2) : f_X3_runOnce_tb (nI c) (nI b) (nI a) (nI N) = nI (if N ≤ c then b else (if a = 0 then b else 1)) := by
  unfold f_X3_runOnce_tb
  by_cases h2 : N ≤ c
  · rw [if_pos ((nI_leI (by omega) (by omega)).mpr h2), if_pos h2]
  · rw [if_neg (fun q => h2 ((nI_leI (by omega) (by omega)).mp q)), if_neg h2]
    by_cases h : a = 0
    · rw [if_pos ((nI_z (by omega)).mpr h), if_pos h]
    · rw [if_neg (fun q => h ((nI_z (by omega)).mp q)), if_neg h]; rfl
theorem j_oTA {N c a : Nat} (hN : N < 2 ^ 30) (hc : c < 65536) (ha : a < 2) : f_X3_runOnce_ta (nI c) (nI a) (nI N) = nI (if N ≤ c then a else 0) := by
  unfold f_X3_runOnce_ta
  by_cases h2 : N ≤ c
  · rw [if_pos ((nI_leI (by omega) (by omega)).mpr h2), if_pos h2]
  · rw [if_neg (fun q => h2 ((nI_leI (by omega) (by omega)).mp q)), if_neg h2]
    by_cases h : a = 0
    · rw [if_pos ((nI_z (by omega)).mpr h), h]
    · rw [if_neg (fun q => h ((nI_z (by omega)).mp q))]; rfl
theorem j_oFR {N c a : Nat} (fr : Int32) (hN : N < 2 ^ 30) (hc : c < 65536) (ha : a < 2) : f_X3_runOnce_fr (nI c) (nI a) fr (nI N) = fr ||| (if N ≤ c ∨ a = 0 then (0 : Int32) else 64) := by
  unfold f_X3_runOnce_fr
  by_cases h2 : N ≤ c
  · rw [if_pos ((nI_leI (by omega) (by omega)).mpr h2), if_pos (Or.inl h2), or_z]
  · rw [if_neg (fun q => h2 ((nI_leI (by omega) (by omega)).mp q))]
    by_cases h : a = 0
    · rw [if_pos ((nI_z (by omega)).mpr h), if_pos (Or.inr h), or_z]
    · rw [if_neg (fun q => h ((nI_z (by omega)).mp q)), if_neg (by omega)]
theorem j_vA {N c a : Nat} (hN : N < 2 ^ 30) (hc : c < 65536) (ha : a < 2) : f_X4_countDown_va (nI c) (nI a) (nI N) = nI (if N ≤ c then a else 0) := j_oTA hN hc ha
theorem j_vFR {N c a : Nat} (fr : Int32) (hN : N < 2 ^ 30) (hc : c < 65536) (ha : a < 2) : f_X4_countDown_fr (nI c) (nI a) fr (nI N) = fr ||| (if N ≤ c ∨ a = 0 then (0 : Int32) else 32) := by
  unfold f_X4_countDown_fr
  by_cases h2 : N ≤ c
  · rw [if_pos ((nI_leI (by omega) (by omega)).mpr h2), if_pos (Or.inl h2), or_z]
  · rw [if_neg (fun q => h2 ((nI_leI (by omega) (by omega)).mp q))]
    by_cases h : a = 0
    · rw [if_pos ((nI_z (by omega)).mpr h), if_pos (Or.inr h), or_z]
    · rw [if_neg (fun q => h ((nI_z (by omega)).mp q)), if_neg (by omega)]
/-- no cycle -/
theorem K18_0 (m8 : Int32) {c l d : Nat} (h : c < 65536) : K18 m8 0 c l d = c := by
  unfold K18 TCf; rw [TCo_0 h, if_pos rfl, ite_self]
theorem K20_0 (m8 : Int32) {c a : Nat} : K20 m8 0 c a = a := by
  unfold K20; rw [if_pos (Nat.zero_le c), ite_self]
theorem K21_0 (m8 : Int32) {c l d : Nat} : K21 m8 0 c l d = d := by
  unfold K21 TDf; rw [if_pos rfl, if_pos rfl, ite_self]
theorem K22_0 (m8 : Int32) {c l a d b : Nat} (h : b < 2) : K22 m8 0 c l a d b = b := by
  unfold K22 TPf; rw [if_pos (Nat.zero_le c), if_pos rfl, show (b + 0) % 2 = b by omega, ite_self]
theorem Q1_0 (m8 : Int32) {c l a d : Nat} : Q1 m8 0 c l a d = 0 := by
  unfold Q1 TPf; rw [if_pos (Or.inl (Nat.zero_le c)), if_pos rfl, if_pos rfl, ite_self]
theorem K23_0 (m8 : Int32) {c : Nat} (h : c < 65536) : K23 m8 0 c = c := by
  unfold K23; rw [TCo_0 h, ite_self]
theorem K25_0 (m8 : Int32) {c a : Nat} : K25 m8 0 c a = a := by
  unfold K25; rw [if_pos (Nat.zero_le c), ite_self]
theorem Q2_0 (m8 : Int32) {c a : Nat} : Q2 m8 0 c a = 0 := by
  unfold Q2; rw [if_pos (Or.inl (Nat.zero_le c)), ite_self]
/-- what one cycle makes -/
def c1 (m8 : Int32) (c l d : Nat) : Nat := if (m8 &&& (64 : Int32)) = 0 then cN c else (if d = 0 then cN c else l)
def a1 (m8 : Int32) (c a : Nat) : Nat := if (m8 &&& (64 : Int32)) = 0 then (if c = 0 then 0 else a) else a
def d1 (m8 : Int32) (c d : Nat) : Nat := if (m8 &&& (64 : Int32)) = 0 then 0 else (if d = 0 then (if c = 0 then 1 else 0) else 0)
def b1 (m8 : Int32) (c a d b : Nat) : Nat := if (m8 &&& (64 : Int32)) = 0 then (if c = 0 then (if a = 0 then b else 1) else b) else (if d = 0 then (if c = 0 then (if b = 0 then 1 else 0) else b) else b)
def t1 (m8 : Int32) (c a d : Nat) : Int32 := if (m8 &&& (64 : Int32)) = 0 then (if c = 0 then (if a = 0 then 0 else 64) else 0) else (if d = 0 then (if c = 0 then 64 else 0) else 0)
def c2 (m8 : Int32) (c : Nat) : Nat := if (m8 &&& (32 : Int32)) = 0 then cN c else c
def a2 (m8 : Int32) (c a : Nat) : Nat := if (m8 &&& (32 : Int32)) = 0 then (if c = 0 then 0 else a) else a
def t2 (m8 : Int32) (c a : Nat) : Int32 := if (m8 &&& (32 : Int32)) = 0 then (if c = 0 then (if a = 0 then 0 else 32) else 0) else 0
theorem c1_lt {m8 : Int32} {c l d : Nat} (hc : c < 65536) (hl : l < 65536) : c1 m8 c l d < 65536 := by
  have := cN_lt hc
  unfold c1; (repeat' split) <;> assumption
theorem a1_lt {m8 : Int32} {c a : Nat} (h : a < 2) : a1 m8 c a < 2 := by
  unfold a1; (repeat' split) <;> omega
theorem d1_lt {m8 : Int32} {c d : Nat} : d1 m8 c d < 2 := by
  unfold d1; (repeat' split) <;> omega
theorem b1_lt {m8 : Int32} {c a d b : Nat} (h : b < 2) : b1 m8 c a d b < 2 := by
  unfold b1; (repeat' split) <;> omega
theorem c2_lt {m8 : Int32} {c : Nat} (hc : c < 65536) : c2 m8 c < 65536 := by
  have := cN_lt hc
  unfold c2; (repeat' split) <;> assumption
theorem a2_lt {m8 : Int32} {c a : Nat} (h : a < 2) : a2 m8 c a < 2 := by
  unfold a2; (repeat' split) <;> omega
theorem dec_N {c : Nat} (h : c < 65536) : ((nI c - (1 : Int32)) &&& (65535 : Int32)) = nI (cN c) := dec_1 h
theorem e18 {m8 : Int32} {c l d : Nat} (hc : c < 65536) (hd : d < 2) : f_X6_cycleOfTimer1_m18 m8 (nI c) (nI l) (nI d) = nI (c1 m8 c l d) := by
  unfold f_X6_cycleOfTimer1_m18 c1
  simp only [dec_N hc, nI_z (show d < 2 ^ 31 by omega)]
  (repeat' split) <;> rfl
theorem e20 {m8 : Int32} {c a : Nat} (hc : c < 65536) (ha : a < 2) : f_X6_cycleOfTimer1_m20 m8 (nI c) (nI a) = nI (a1 m8 c a) := by
  unfold f_X6_cycleOfTimer1_m20 a1
  simp only [dec_out hc, nI_z (show a < 2 ^ 31 by omega)]
  by_cases h : a = 0
  · subst h; (repeat' split) <;> rfl
  · simp only [if_neg h]; (repeat' split) <;> rfl
theorem e21 {m8 : Int32} {c d : Nat} (hc : c < 65536) (hd : d < 2) : f_X6_cycleOfTimer1_m21 m8 (nI c) (nI d) = nI (d1 m8 c d) := by
  unfold f_X6_cycleOfTimer1_m21 d1
  simp only [dec_out hc, nI_z (show d < 2 ^ 31 by omega)]
  (repeat' split) <;> rfl
theorem e22 {m8 : Int32} {c a d b : Nat} (hc : c < 65536) (ha : a < 2) (hd : d < 2) (hb : b < 2) : f_X6_cycleOfTimer1_m22 m8 (nI c) (nI a) (nI d) (nI b) = nI (b1 m8 c a d b) := by
  unfold f_X6_cycleOfTimer1_m22 b1
  simp only [dec_out hc, nI_z (show d < 2 ^ 31 by omega), nI_z (show a < 2 ^ 31 by omega), nI_z (show b < 2 ^ 31 by omega)]
  (repeat' split) <;> rfl
theorem e10a {m8 fr : Int32} {c a d : Nat} (hc : c < 65536) (ha : a < 2) (hd : d < 2) : f_X6_cycleOfTimer1_m10 m8 fr (nI c) (nI a) (nI d) = fr ||| t1 m8 c a d := by
  unfold f_X6_cycleOfTimer1_m10 t1
  simp only [dec_out hc, nI_z (show d < 2 ^ 31 by omega), nI_z (show a < 2 ^ 31 by omega), c1_6]
  (repeat' split) <;> first | rfl | exact (or_z _).symm
theorem e23 {m8 : Int32} {c : Nat} (hc : c < 65536) : f_X6_cyc_m23 m8 (nI c) = nI (c2 m8 c) := by
  unfold f_X6_cyc_m23 c2
  simp only [dec_N hc]
  (repeat' split) <;> rfl
theorem e25 {m8 : Int32} {c a : Nat} (hc : c < 65536) (ha : a < 2) : f_X6_cyc_m25 m8 (nI c) (nI a) = nI (a2 m8 c a) := by
  unfold f_X6_cyc_m25 f_X6_lessTimer2_m25 a2
  simp only [dec_out hc, nI_z (show a < 2 ^ 31 by omega)]
  by_cases h : a = 0
  · subst h; (repeat' split) <;> rfl
  · simp only [if_neg h]; (repeat' split) <;> rfl
theorem e10b {fr : Int32} {c a : Nat} (hc : c < 65536) (ha : a < 2) : f_X6_lessTimer2_m10 fr (nI c) (nI a) = fr ||| (if c = 0 then (if a = 0 then 0 else 32) else 0) := by
  unfold f_X6_lessTimer2_m10
  simp only [dec_out hc, nI_z (show a < 2 ^ 31 by omega), c1_5]
  (repeat' split) <;> first | rfl | exact (or_z _).symm
theorem cN_p {c : Nat} (h : 0 < c) : cN c = c - 1 := if_neg (by omega)
theorem cN_z : cN 0 = 65535 := rfl
theorem z_or (x : Int32) : (0 : Int32) ||| x = x := by rw [Int32.or_comm]; exact or_z x
theorem K18_S {m8 : Int32} {N c l d : Nat} (hc : c < 65536) (hd : d < 2) : K18 m8 (N + 1) c l d = K18 m8 N (c1 m8 c l d) l (d1 m8 c d) := by
  unfold K18 c1 d1
  by_cases hm : (m8 &&& (64 : Int32)) = 0
  · simp only [if_pos hm]; exact TCo_S hc
  · simp only [if_neg hm]
    rcases (show d = 0 ∨ d = 1 by omega) with rfl | rfl
    · rw [if_pos rfl, if_pos rfl]
      by_cases h : c = 0
      · subst h; rw [if_pos rfl, cN_z]; exact frz_C N l
      · rw [if_neg h, cN_p (by omega)]; exact fr0_C N l (by omega)
    · rw [if_neg (by omega), if_neg (by omega)]; exact fr1_C N c l
theorem K21_S {m8 : Int32} {N c l d : Nat} (hd : d < 2) : K21 m8 (N + 1) c l d = K21 m8 N (c1 m8 c l d) l (d1 m8 c d) := by
  unfold K21 c1 d1
  by_cases hm : (m8 &&& (64 : Int32)) = 0
  · simp only [if_pos hm]; rw [if_neg (by omega), ite_self]
  · simp only [if_neg hm]
    rcases (show d = 0 ∨ d = 1 by omega) with rfl | rfl
    · rw [if_pos rfl, if_pos rfl]
      by_cases h : c = 0
      · subst h; rw [if_pos rfl, cN_z]; exact frz_D N l
      · rw [if_neg h, cN_p (by omega)]; exact fr0_D N l (by omega)
    · rw [if_neg (by omega), if_neg (by omega)]; exact fr1_D N c l
theorem P_S {m8 : Int32} {N c l d : Nat} (hm : ¬ (m8 &&& (64 : Int32)) = 0) (hd : d < 2) : TPf (N + 1) c l d = (if d = 0 then (if c = 0 then 1 else 0) else 0) + TPf N (c1 m8 c l d) l (d1 m8 c d) := by
  unfold c1 d1
  simp only [if_neg hm]
  rcases (show d = 0 ∨ d = 1 by omega) with rfl | rfl
  · rw [if_pos rfl, if_pos rfl]
    by_cases h : c = 0
    · subst h; rw [if_pos rfl, cN_z]; exact frz_P N l
    · rw [if_neg h, cN_p (by omega), Nat.zero_add]; exact fr0_P N l (by omega)
  · rw [if_neg (by omega), if_neg (by omega), Nat.zero_add]; exact fr1_P N c l
theorem K20_S {m8 : Int32} {N c l d a : Nat} : K20 m8 (N + 1) c a = K20 m8 N (c1 m8 c l d) (a1 m8 c a) := by
  unfold K20 c1 a1
  by_cases hm : (m8 &&& (64 : Int32)) = 0
  · simp only [if_pos hm]
    by_cases h : c = 0
    · subst h; rw [if_pos rfl, ite_self, if_neg (by omega)]
    · rw [if_neg h, cN_p (by omega)]
      by_cases h2 : N + 1 ≤ c
      · rw [if_pos h2, if_pos (by omega)]
      · rw [if_neg h2, if_neg (by omega)]
  · simp only [if_neg hm]
theorem K22_S {m8 : Int32} {N c l a d b : Nat} (hd : d < 2) (hb : b < 2) : K22 m8 (N + 1) c l a d b = K22 m8 N (c1 m8 c l d) l (a1 m8 c a) (d1 m8 c d) (b1 m8 c a d b) := by
  by_cases hm : (m8 &&& (64 : Int32)) = 0
  · unfold K22 c1 a1 b1
    simp only [if_pos hm]
    by_cases h : c = 0
    · subst h; rw [if_pos rfl, if_pos rfl, if_pos rfl, ite_self, if_neg (by omega)]
    · rw [if_neg h, if_neg h, cN_p (by omega)]
      by_cases h2 : N + 1 ≤ c
      · rw [if_pos h2, if_pos (show N ≤ c - 1 by omega)]
      · rw [if_neg h2, if_neg (show ¬ N ≤ c - 1 by omega)]
  · unfold K22
    rw [if_neg hm, if_neg hm, P_S hm hd]
    generalize TPf N (c1 m8 c l d) l (d1 m8 c d) = z
    unfold b1
    rw [if_neg hm]
    (repeat' split) <;> omega
theorem Q1_S {m8 : Int32} {N c l a d : Nat} (hd : d < 2) : Q1 m8 (N + 1) c l a d = t1 m8 c a d ||| Q1 m8 N (c1 m8 c l d) l (a1 m8 c a) (d1 m8 c d) := by
  by_cases hm : (m8 &&& (64 : Int32)) = 0
  · unfold Q1 c1 a1 t1
    simp only [if_pos hm]
    by_cases h : c = 0
    · subst h; rw [if_pos rfl, if_pos rfl, if_pos (Or.inr rfl), or_z]
      by_cases h2 : a = 0
      · rw [if_pos h2, if_pos (Or.inr h2)]
      · rw [if_neg h2, if_neg (by omega)]
    · rw [if_neg h, if_neg h, cN_p (by omega), z_or]
      by_cases h2 : N + 1 ≤ c ∨ a = 0
      · rw [if_pos h2, if_pos (by omega)]
      · rw [if_neg h2, if_neg (by omega)]
  · unfold Q1 t1
    rw [if_neg hm, if_neg hm, if_neg hm, P_S hm hd]
    generalize TPf N (c1 m8 c l d) l (d1 m8 c d) = z
    by_cases hd0 : d = 0
    · rw [if_pos hd0, if_pos hd0]
      by_cases h : c = 0
      · rw [if_pos h, if_pos h, if_neg (by omega)]
        split <;> rfl
      · rw [if_neg h, if_neg h, Nat.zero_add, z_or]
    · rw [if_neg hd0, if_neg hd0, Nat.zero_add, z_or]
theorem K23_S {m8 : Int32} {N c : Nat} (hc : c < 65536) : K23 m8 (N + 1) c = K23 m8 N (c2 m8 c) := by
  unfold K23 c2
  by_cases hm : (m8 &&& (32 : Int32)) = 0
  · simp only [if_pos hm]; exact TCo_S hc
  · simp only [if_neg hm]
theorem K25_S {m8 : Int32} {N c a : Nat} : K25 m8 (N + 1) c a = K25 m8 N (c2 m8 c) (a2 m8 c a) := by
  unfold K25 c2 a2
  by_cases hm : (m8 &&& (32 : Int32)) = 0
  · simp only [if_pos hm]
    by_cases h : c = 0
    · subst h; rw [if_pos rfl, ite_self, if_neg (by omega)]
    · rw [if_neg h, cN_p (by omega)]
      by_cases h2 : N + 1 ≤ c
      · rw [if_pos h2, if_pos (by omega)]
      · rw [if_neg h2, if_neg (by omega)]
  · simp only [if_neg hm]
theorem Q2_S {m8 : Int32} {N c a : Nat} : Q2 m8 (N + 1) c a = t2 m8 c a ||| Q2 m8 N (c2 m8 c) (a2 m8 c a) := by
  unfold Q2 c2 a2 t2
  by_cases hm : (m8 &&& (32 : Int32)) = 0
  · simp only [if_pos hm]
    by_cases h : c = 0
    · subst h; rw [if_pos rfl, if_pos rfl, if_pos (Or.inr rfl), or_z]
      by_cases h2 : a = 0
      · rw [if_pos h2, if_pos (Or.inr h2)]
      · rw [if_neg h2, if_neg (by omega)]
    · rw [if_neg h, if_neg h, cN_p (by omega), z_or]
      by_cases h2 : N + 1 ≤ c ∨ a = 0
      · rw [if_pos h2, if_pos (by omega)]
      · rw [if_neg h2, if_neg (by omega)]
  · simp only [if_neg hm]; rfl
theorem lp_t1 (m8 : Int32) (lf : Nat → Int32) {l : Nat} (hl : l < 65536) : ∀ (N : Nat) (m10 m15 m17 m23 m25 m26 m27 m28 m29 m30 : Int32) (c a d b : Nat), c < 65536 → a < 2 → d < 2 → b < 2 →
    (lp_X6 m8 (nI l) lf N m10 m15 m17 (nI c) (nI a) (nI d) (nI b) m23 m25 m26 m27 m28 m29 m30).2.2.2.1 = nI (K18 m8 N c l d) ∧ (lp_X6 m8 (nI l) lf N m10 m15 m17 (nI c) (nI a) (nI d) (nI b) m23 m25 m26 m27 m28 m29 m30).2.2.2.2.1 = nI (K20 m8 N c a) ∧ (lp_X6 m8 (nI l) lf N m10 m15 m17 (nI c) (nI a) (nI d) (nI b) m23 m25 m26 m27 m28 m29 m30).2.2.2.2.2.1 = nI (K21 m8 N c l d) ∧ (lp_X6 m8 (nI l) lf N m10 m15 m17 (nI c) (nI a) (nI d) (nI b) m23 m25 m26 m27 m28 m29 m30).2.2.2.2.2.2.1 = nI (K22 m8 N c l a d b) := by
  intro N
  induction N with
  | zero =>
    intro m10 m15 m17 m23 m25 m26 m27 m28 m29 m30 c a d b hc ha hd hb
    rw [K18_0 m8 hc, K20_0, K21_0, K22_0 m8 hb]
    exact ⟨rfl, rfl, rfl, rfl⟩
  | succ n ih =>
    intro m10 m15 m17 m23 m25 m26 m27 m28 m29 m30 c a d b hc ha hd hb
    rw [K18_S hc hd, K20_S (l := l) (d := d), K21_S hd, K22_S hd hb]
    simp only [lp_X6]
    rw [e18 hc hd, e20 hc ha, e21 hc hd, e22 hc ha hd hb]
    exact ih _ _ _ _ _ _ _ _ _ _ _ _ _ _ (c1_lt hc hl) (a1_lt ha) d1_lt (b1_lt hb)
theorem lp_t2 (m8 m19 : Int32) (lf : Nat → Int32) : ∀ (N : Nat) (m10 m15 m17 m18 m20 m21 m22 m26 m27 m28 m29 m30 : Int32) (c a : Nat), c < 65536 → a < 2 →
    (lp_X6 m8 m19 lf N m10 m15 m17 m18 m20 m21 m22 (nI c) (nI a) m26 m27 m28 m29 m30).2.2.2.2.2.2.2.1 = nI (K23 m8 N c) ∧ (lp_X6 m8 m19 lf N m10 m15 m17 m18 m20 m21 m22 (nI c) (nI a) m26 m27 m28 m29 m30).2.2.2.2.2.2.2.2.1 = nI (K25 m8 N c a) := by
  intro N
  induction N with
  | zero =>
    intro m10 m15 m17 m18 m20 m21 m22 m26 m27 m28 m29 m30 c a hc ha
    rw [K23_0 m8 hc, K25_0]
    exact ⟨rfl, rfl⟩
  | succ n ih =>
    intro m10 m15 m17 m18 m20 m21 m22 m26 m27 m28 m29 m30 c a hc ha
    rw [K23_S hc, K25_S]
    simp only [lp_X6]
    rw [e23 hc, e25 hc ha]
    exact ih _ _ _ _ _ _ _ _ _ _ _ _ _ _ (c2_lt hc) (a2_lt ha)
theorem lp_cy (m8 m19 : Int32) (lf : Nat → Int32) : ∀ (N : Nat) (m10 m15 m17 m18 m20 m21 m22 m23 m25 m26 m27 m28 m29 m30 : Int32),
    (lp_X6 m8 m19 lf N m10 m15 m17 m18 m20 m21 m22 m23 m25 m26 m27 m28 m29 m30).2.2.2.2.2.2.2.2.2.2.2.2.2 = m30 + nI N ∧ (lp_X6 m8 m19 lf N m10 m15 m17 m18 m20 m21 m22 m23 m25 m26 m27 m28 m29 m30).2.1 = (if N = 0 then m15 else 0) ∧ (lp_X6 m8 m19 lf N m10 m15 m17 m18 m20 m21 m22 m23 m25 m26 m27 m28 m29 m30).2.2.1 = (if N = 0 then m17 else 0) := by
  intro N
  induction N with
  | zero =>
    intro m10 m15 m17 m18 m20 m21 m22 m23 m25 m26 m27 m28 m29 m30
    refine ⟨?_, rfl, rfl⟩
    show m30 = m30 + nI 0
    rw [nI_0, Int32.add_zero]
  | succ n ih =>
    intro m10 m15 m17 m18 m20 m21 m22 m23 m25 m26 m27 m28 m29 m30
    simp only [lp_X6]
    obtain ⟨x, y, z⟩ := ih _ _ _ _ _ _ _ _ _ _ _ _ _ (m30 + (1 : Int32))
    refine ⟨x.trans ?_, y.trans ?_, z.trans ?_⟩
    · rw [nI_succ, Int32.add_assoc, Int32.add_comm (nI n)]
    · rw [ite_self, if_neg (by omega)]
    · rw [ite_self, if_neg (by omega)]
theorem or7 (a b c d e f g : Int32) : (((((a ||| b) ||| c) ||| d) ||| e) ||| f) ||| g = ((a ||| (b ||| e)) ||| (c ||| f)) ||| (d ||| g) := by
  apply Int32.toBitVec_inj.mp
  simp only [Int32.toBitVec_or]
  ext i hi
  simp only [BitVec.getElem_or]
  cases a.toBitVec[i] <;> cases b.toBitVec[i] <;> cases c.toBitVec[i] <;> cases d.toBitVec[i] <;> cases e.toBitVec[i] <;> cases f.toBitVec[i] <;> rfl
theorem cf_or (st sh fr : Int32) : f_X1_cyc_fr st sh fr = fr ||| f_X1_cyc_fr st sh 0 := by
  unfold f_X1_cyc_fr f_X1_shift_fr
  by_cases h : sh = 0
  · rw [if_pos h, if_pos h, or_z]
  · rw [if_neg h, if_neg h]
    by_cases h2 : st - (1 : Int32) = 0
    · rw [if_pos h2, if_pos h2, z_or]
    · rw [if_neg h2, if_neg h2, or_z]
theorem sl_fr (p1 p2 : Int32) : ∀ (k : Nat) (fr sb st sg sh : Int32), sl_X1 p1 p2 k fr sb st sg sh = (fr ||| (sl_X1 p1 p2 k 0 sb st sg sh).1, (sl_X1 p1 p2 k 0 sb st sg sh).2) := by
  intro k
  induction k with
  | zero => intro fr sb st sg sh; simp only [sl_X1, or_z]
  | succ n ih =>
    intro fr sb st sg sh
    simp only [sl_X1]
    by_cases h : st ≤ 0
    · simp only [if_pos h, or_z]
    · simp only [if_neg h]
      rw [ih (f_X1_cyc_fr st sh fr), ih (f_X1_cyc_fr st sh 0), cf_or st sh fr, Int32.or_assoc]
theorem sl_stop (p1 p2 : Int32) {st : Int32} (h : st ≤ 0) (k : Nat) (fr sb sg sh : Int32) : sl_X1 p1 p2 k fr sb st sg sh = (fr, sb, st, sg, sh) := by
  cases k with
  | zero => rfl
  | succ n => simp only [sl_X1, if_pos h]
def SS (m8 : Int32) (lf : Nat → Int32) (N : Nat) (fr sb st sg sh : Int32) : Int32 × Int32 × Int32 × Int32 × Int32 :=
  if ((m8 >>> ((2 : Int32) &&& (31 : Int32)) : Int32) &&& (7 : Int32)) = 2 then sl_X1 ((m8 >>> ((2 : Int32) &&& (31 : Int32)) : Int32) &&& (7 : Int32)) (lf 3) N fr sb st sg sh else (if ((m8 >>> ((2 : Int32) &&& (31 : Int32)) : Int32) &&& (7 : Int32)) = 6 then sl_X1 ((m8 >>> ((2 : Int32) &&& (31 : Int32)) : Int32) &&& (7 : Int32)) (lf 3) N fr sb st sg sh else (fr, sb, st, sg, sh))
theorem SS_fr (m8 : Int32) (lf : Nat → Int32) (N : Nat) (fr sb st sg sh : Int32) : SS m8 lf N fr sb st sg sh = (fr ||| (SS m8 lf N 0 sb st sg sh).1, (SS m8 lf N 0 sb st sg sh).2) := by
  unfold SS
  by_cases h : ((m8 >>> ((2 : Int32) &&& (31 : Int32)) : Int32) &&& (7 : Int32)) = 2
  · simp only [if_pos h]; exact sl_fr _ _ _ _ _ _ _ _
  · simp only [if_neg h]
    by_cases h2 : ((m8 >>> ((2 : Int32) &&& (31 : Int32)) : Int32) &&& (7 : Int32)) = 6
    · simp only [if_pos h2]; exact sl_fr _ _ _ _ _ _ _ _
    · simp only [if_neg h2, or_z]
theorem SS_0 (m8 : Int32) (lf : Nat → Int32) (fr sb st sg sh : Int32) : SS m8 lf 0 fr sb st sg sh = (fr, sb, st, sg, sh) := by
  unfold SS
  simp only [sl_X1, ite_self]
theorem sh_cyc {md l3 m26 m27 m28 m29 fr : Int32} (hm : md = 2 ∨ md = 6) (h28 : m28 = 1 ∨ m28 = 2) :
    f_X1_cyc_fr m27 (hwf m28) fr = (if (m28 - (1 : Int32)) ≤ 0 then (if (m27 - (1 : Int32)) = 0 then (fr ||| 4) else fr) else fr) ∧
    f_X1_cyc_sb m26 (hwf m28) md l3 = (if (m28 - (1 : Int32)) ≤ 0 then (f_X1_shift_sb m26 md l3) else m26) ∧
    f_X1_cyc_st m27 (hwf m28) = (if (m28 - (1 : Int32)) ≤ 0 then (m27 - (1 : Int32)) else m27) ∧
    f_X1_cyc_sg m26 m29 (hwf m28) md = (if (m28 - (1 : Int32)) ≤ 0 then (f_X1_shift_sg m26 m29 md) else m29) ∧
    f_X1_cyc_sh (hwf m28) = hwf (if (m28 - (1 : Int32)) ≤ 0 then 2 else (m28 - (1 : Int32))) := by
  unfold f_X1_cyc_fr f_X1_cyc_sb f_X1_cyc_st f_X1_cyc_sg f_X1_cyc_sh f_X1_shift_fr
  rcases h28 with rfl | rfl
  · rw [show hwf 1 = 1 from rfl]
    simp (decide := true) only [if_true, if_false, ↓reduceIte, and_self]
  · rw [show hwf 2 = 0 from rfl]
    simp (decide := true) only [if_true, if_false, ↓reduceIte, and_self]
theorem lf3 (lf : Nat → Int32) : lf ((3 : Int32)).toNatClampNeg = lf 3 := congrArg lf (by decide)
theorem SS_S {m8 : Int32} {lf : Nat → Int32} {N : Nat} {fr m26 m27 m28 m29 : Int32} (h27 : Rb 4 m27) (h28 : m28 = 0 ∧ m27 = 0 ∨ m28 = 1 ∨ m28 = 2) :
    SS m8 lf (N + 1) fr m26 m27 m29 (hwf m28) = SS m8 lf N (f_X6_cycleOfShifter_m10 m8 fr m27 m28) (f_X6_cycleOfShifter_m26 m8 m26 m27 m28 lf) (f_X6_cycleOfShifter_m27 m8 m27 m28) (f_X6_cycleOfShifter_m29 m8 m26 m27 m28 m29) (hwf (f_X6_cycleOfShifter_m28 m8 m27 m28)) := by
  unfold f_X6_cycleOfShifter_m10 f_X6_cycleOfShifter_m26 f_X6_cycleOfShifter_m27 f_X6_cycleOfShifter_m28 f_X6_cycleOfShifter_m29
  rw [lf3 lf, c1_2]
  by_cases h0 : m27 = 0
  · simp only [if_pos h0]
    unfold SS
    rw [h0, sl_stop _ _ (by decide), sl_stop _ _ (by decide)]
  · simp only [if_neg h0]
    have hw : m28 = 1 ∨ m28 = 2 := by
      rcases h28 with ⟨_, q⟩ | q
      · exact absurd q h0
      · exact q
    have hp : ¬ m27 ≤ 0 := by
      obtain ⟨j, hj, rfl⟩ := h27.ex
      exact nI_nle (Nat.pos_of_ne_zero (fun q => h0 (by rw [q]; rfl))) (by omega)
    unfold SS
    generalize ((m8 >>> ((2 : Int32) &&& (31 : Int32)) : Int32) &&& (7 : Int32)) = md
    by_cases hm : md = 2
    · subst hm
      simp (decide := true) only [if_true, if_false, ↓reduceIte]
      obtain ⟨x1, x2, x3, x4, x5⟩ := sh_cyc (l3 := lf 3) (m26 := m26) (m27 := m27) (m29 := m29) (fr := fr) (Or.inl rfl : (2 : Int32) = 2 ∨ (2 : Int32) = 6) hw
      simp only [sl_X1, if_neg hp]
      rw [x1, x2, x3, x4, x5]
      unfold f_X1_shift_sb f_X1_shift_sg
      simp (decide := true) only [if_true, if_false, ↓reduceIte, ite_self]
    · simp only [if_neg hm]
      by_cases hm6 : md = 6
      · subst hm6
        simp (decide := true) only [if_true, if_false, ↓reduceIte]
        obtain ⟨x1, x2, x3, x4, x5⟩ := sh_cyc (l3 := lf 3) (m26 := m26) (m27 := m27) (m29 := m29) (fr := fr) (Or.inr rfl : (6 : Int32) = 2 ∨ (6 : Int32) = 6) hw
        simp only [sl_X1, if_neg hp]
        rw [x1, x2, x3, x4, x5]
        unfold f_X1_shift_sb f_X1_shift_sg
        simp (decide := true) only [if_true, if_false, ↓reduceIte, ite_self]
      · simp only [if_neg hm6]
theorem shr7 {x : Int32} (h : Rb 8 x) : Rb 1 (x >>> ((7 : Int32) &&& (31 : Int32)) : Int32) := by
  obtain ⟨j, hj, rfl⟩ := h.ex
  rw [pk_shrN (by omega) _ 7 (by decide)]
  exact Rb.of (by omega) (by omega)
theorem r255 (x : Int32) : Rb 8 (x &&& (255 : Int32)) := Rb.and_r (by unfold Rb; decide)
theorem r64k (x : Int32) : Rb 16 (x &&& (65535 : Int32)) := Rb.and_r (by unfold Rb; decide)
theorem w_cases {m27 m28 : Int32} (h0 : ¬ m27 = 0) (h28 : m28 = 0 ∧ m27 = 0 ∨ m28 = 1 ∨ m28 = 2) : m28 = 1 ∨ m28 = 2 := by
  rcases h28 with ⟨_, q⟩ | q
  · exact absurd q h0
  · exact q
theorem sh_27 {m8 m27 m28 : Int32} (h27 : Rb 4 m27) : Rb 4 (f_X6_cycleOfShifter_m27 m8 m27 m28) := by
  unfold f_X6_cycleOfShifter_m27
  by_cases h0 : m27 = 0
  · rw [if_pos h0]; exact h27
  · rw [if_neg h0]
    have hs : Rb 4 (m27 - (1 : Int32)) := by
      obtain ⟨j, hj, rfl⟩ := h27.ex
      have hp : 0 < j := Nat.pos_of_ne_zero (fun q => h0 (by rw [q]; rfl))
      rw [show (1 : Int32) = nI 1 from rfl, pk_sub (by omega)]
      exact Rb.of (by omega) (by omega)
    exact rb_ite (rb_ite hs h27) (rb_ite (rb_ite hs h27) h27)
theorem sh_28 {m8 m27 m28 : Int32} (h28 : m28 = 0 ∧ m27 = 0 ∨ m28 = 1 ∨ m28 = 2) : f_X6_cycleOfShifter_m28 m8 m27 m28 = 0 ∧ f_X6_cycleOfShifter_m27 m8 m27 m28 = 0 ∨ f_X6_cycleOfShifter_m28 m8 m27 m28 = 1 ∨ f_X6_cycleOfShifter_m28 m8 m27 m28 = 2 := by
  by_cases h0 : m27 = 0
  · unfold f_X6_cycleOfShifter_m28 f_X6_cycleOfShifter_m27
    rw [if_pos h0, if_pos h0]; exact h28
  · refine Or.inr ?_
    unfold f_X6_cycleOfShifter_m28
    rw [if_neg h0]
    rcases w_cases h0 h28 with rfl | rfl
    · (repeat' split) <;> first | exact Or.inr rfl | exact Or.inl rfl | exact absurd (by decide) ‹¬ ((1 : Int32) - 1 ≤ 0)›
    · (repeat' split) <;> first | exact Or.inr rfl | exact Or.inl rfl
theorem sh_26 {m8 m26 m27 m28 : Int32} {lf : Nat → Int32} (h26 : Rb 8 m26) : Rb 8 (f_X6_cycleOfShifter_m26 m8 m26 m27 m28 lf) := by
  have a0 : Rb 8 (((m26 <<< ((1 : Int32) &&& (31 : Int32)) : Int32) &&& (255 : Int32)) ||| (0 : Int32)) := (r255 _).or Rb.b0
  have a1 : Rb 8 (((m26 <<< ((1 : Int32) &&& (31 : Int32)) : Int32) &&& (255 : Int32)) ||| (1 : Int32)) := (r255 _).or (Rb.b1.mono (by omega))
  have a2 : Rb 8 (((m26 <<< ((1 : Int32) &&& (31 : Int32)) : Int32) &&& (255 : Int32)) ||| (m26 >>> ((7 : Int32) &&& (31 : Int32)) : Int32)) := (r255 _).or ((shr7 h26).mono (by omega))
  unfold f_X6_cycleOfShifter_m26
  repeat (first | (with_reducible apply rb_ite) | (with_reducible exact h26) | (with_reducible exact a0) | (with_reducible exact a1) | (with_reducible exact a2))
theorem sh_29 {m8 m26 m27 m28 m29 : Int32} (h26 : Rb 8 m26) (h29 : Rb 1 m29) : Rb 1 (f_X6_cycleOfShifter_m29 m8 m26 m27 m28 m29) := by
  have a2 := shr7 h26
  unfold f_X6_cycleOfShifter_m29
  repeat (first | (with_reducible apply rb_ite) | (with_reducible exact h29) | (with_reducible exact a2))
theorem f7 {x : Int32} (h : Rb 7 x) : Rb 7 (x ||| (4 : Int32)) ∧ Rb 7 (x ||| (32 : Int32)) ∧ Rb 7 (x ||| (64 : Int32)) := ⟨h.or (by unfold Rb; decide), h.or (by unfold Rb; decide), h.or (by unfold Rb; decide)⟩
theorem sh_10 {m8 x m27 m28 : Int32} (h : Rb 7 x) : Rb 7 (f_X6_cycleOfShifter_m10 m8 x m27 m28) := by
  have a := (f7 h).1
  unfold f_X6_cycleOfShifter_m10
  rw [c1_2]
  repeat (first | (with_reducible apply rb_ite) | (with_reducible exact h) | (with_reducible exact a))
theorem t2_10 {x m23 m25 : Int32} (h : Rb 7 x) : Rb 7 (f_X6_lessTimer2_m10 x m23 m25) := by
  have a := (f7 h).2.1
  unfold f_X6_lessTimer2_m10
  rw [c1_5]
  repeat (first | (with_reducible apply rb_ite) | (with_reducible exact h) | (with_reducible exact a))
theorem t1_10 {m8 x m18 m20 m21 : Int32} (h : Rb 7 x) : Rb 7 (f_X6_cycleOfTimer1_m10 m8 x m18 m20 m21) := by
  have a := (f7 h).2.2
  unfold f_X6_cycleOfTimer1_m10
  rw [c1_6]
  repeat (first | (with_reducible apply rb_ite) | (with_reducible exact h) | (with_reducible exact a))
theorem cy_10 {m8 m10 m18 m20 m21 m23 m25 m27 m28 : Int32} (h : Rb 7 m10) : Rb 7 (f_X6_cyc_m10 m8 m10 m18 m20 m21 m23 m25 m27 m28) := by
  unfold f_X6_cyc_m10
  exact rb_ite (sh_10 (t2_10 (t1_10 h))) (sh_10 (t1_10 h))
theorem t1_18 {m8 m18 m19 m21 : Int32} (h19 : Rb 16 m19) : Rb 16 (f_X6_cycleOfTimer1_m18 m8 m18 m19 m21) := by
  unfold f_X6_cycleOfTimer1_m18
  exact rb_ite (r64k _) (rb_ite (r64k _) h19)
theorem t1_20 {m8 m18 m20 : Int32} (h : Rb 1 m20) : Rb 1 (f_X6_cycleOfTimer1_m20 m8 m18 m20) := by
  unfold f_X6_cycleOfTimer1_m20
  exact rb_ite (rb_ite (rb_ite h Rb.b0) h) h
theorem t1_21 {m8 m18 m21 : Int32} : Rb 1 (f_X6_cycleOfTimer1_m21 m8 m18 m21) := by
  unfold f_X6_cycleOfTimer1_m21
  exact rb_ite Rb.b0 (rb_ite (rb_ite Rb.b1 Rb.b0) Rb.b0)
theorem t1_22 {m8 m18 m20 m21 m22 : Int32} (h : Rb 1 m22) : Rb 1 (f_X6_cycleOfTimer1_m22 m8 m18 m20 m21 m22) := by
  unfold f_X6_cycleOfTimer1_m22
  exact rb_ite (rb_ite (rb_ite h Rb.b1) h) (rb_ite (rb_ite (rb_ite Rb.b1 Rb.b0) h) h)
theorem t2_23 {m8 m23 : Int32} (h : Rb 16 m23) : Rb 16 (f_X6_cyc_m23 m8 m23) := by
  unfold f_X6_cyc_m23
  exact rb_ite (r64k _) h
theorem t2_25 {m8 m23 m25 : Int32} (h : Rb 1 m25) : Rb 1 (f_X6_cyc_m25 m8 m23 m25) := by
  unfold f_X6_cyc_m25 f_X6_lessTimer2_m25
  exact rb_ite (rb_ite (rb_ite h Rb.b0) h) h
theorem lp_ok (m8 m19 : Int32) (lf : Nat → Int32) (h19 : Rb 16 m19) : ∀ (N : Nat) (m10 m15 m17 m18 m20 m21 m22 m23 m25 m26 m27 m28 m29 m30 : Int32), Rb 7 m10 → Rb 1 m15 → Rb 1 m17 → Rb 16 m18 → Rb 1 m20 → Rb 1 m21 → Rb 1 m22 → Rb 16 m23 → Rb 1 m25 → Rb 8 m26 → Rb 4 m27 → Rb 1 m29 → (m28 = 0 ∧ m27 = 0 ∨ m28 = 1 ∨ m28 = 2) →
    (Rb 7 (lp_X6 m8 m19 lf N m10 m15 m17 m18 m20 m21 m22 m23 m25 m26 m27 m28 m29 m30).1 ∧ Rb 1 (lp_X6 m8 m19 lf N m10 m15 m17 m18 m20 m21 m22 m23 m25 m26 m27 m28 m29 m30).2.1 ∧ Rb 1 (lp_X6 m8 m19 lf N m10 m15 m17 m18 m20 m21 m22 m23 m25 m26 m27 m28 m29 m30).2.2.1 ∧ Rb 16 (lp_X6 m8 m19 lf N m10 m15 m17 m18 m20 m21 m22 m23 m25 m26 m27 m28 m29 m30).2.2.2.1 ∧ Rb 1 (lp_X6 m8 m19 lf N m10 m15 m17 m18 m20 m21 m22 m23 m25 m26 m27 m28 m29 m30).2.2.2.2.1 ∧ Rb 1 (lp_X6 m8 m19 lf N m10 m15 m17 m18 m20 m21 m22 m23 m25 m26 m27 m28 m29 m30).2.2.2.2.2.1 ∧ Rb 1 (lp_X6 m8 m19 lf N m10 m15 m17 m18 m20 m21 m22 m23 m25 m26 m27 m28 m29 m30).2.2.2.2.2.2.1 ∧ Rb 16 (lp_X6 m8 m19 lf N m10 m15 m17 m18 m20 m21 m22 m23 m25 m26 m27 m28 m29 m30).2.2.2.2.2.2.2.1 ∧ Rb 1 (lp_X6 m8 m19 lf N m10 m15 m17 m18 m20 m21 m22 m23 m25 m26 m27 m28 m29 m30).2.2.2.2.2.2.2.2.1 ∧ Rb 8 (lp_X6 m8 m19 lf N m10 m15 m17 m18 m20 m21 m22 m23 m25 m26 m27 m28 m29 m30).2.2.2.2.2.2.2.2.2.1 ∧ Rb 4 (lp_X6 m8 m19 lf N m10 m15 m17 m18 m20 m21 m22 m23 m25 m26 m27 m28 m29 m30).2.2.2.2.2.2.2.2.2.2.1 ∧ Rb 1 (lp_X6 m8 m19 lf N m10 m15 m17 m18 m20 m21 m22 m23 m25 m26 m27 m28 m29 m30).2.2.2.2.2.2.2.2.2.2.2.2.1) ∧ ((lp_X6 m8 m19 lf N m10 m15 m17 m18 m20 m21 m22 m23 m25 m26 m27 m28 m29 m30).2.2.2.2.2.2.2.2.2.2.2.1 = 0 ∧ (lp_X6 m8 m19 lf N m10 m15 m17 m18 m20 m21 m22 m23 m25 m26 m27 m28 m29 m30).2.2.2.2.2.2.2.2.2.2.1 = 0 ∨ (lp_X6 m8 m19 lf N m10 m15 m17 m18 m20 m21 m22 m23 m25 m26 m27 m28 m29 m30).2.2.2.2.2.2.2.2.2.2.2.1 = 1 ∨ (lp_X6 m8 m19 lf N m10 m15 m17 m18 m20 m21 m22 m23 m25 m26 m27 m28 m29 m30).2.2.2.2.2.2.2.2.2.2.2.1 = 2) := by
  intro N
  induction N with
  | zero =>
    intro m10 m15 m17 m18 m20 m21 m22 m23 m25 m26 m27 m28 m29 m30 h10 h15 h17 h18 h20 h21 h22 h23 h25 h26 h27 h29 h28
    exact ⟨⟨h10, h15, h17, h18, h20, h21, h22, h23, h25, h26, h27, h29⟩, h28⟩
  | succ n ih =>
    intro m10 m15 m17 m18 m20 m21 m22 m23 m25 m26 m27 m28 m29 m30 h10 h15 h17 h18 h20 h21 h22 h23 h25 h26 h27 h29 h28
    simp only [lp_X6]
    exact ih _ _ _ _ _ _ _ _ _ _ _ _ _ _ (cy_10 h10) Rb.b0 Rb.b0 (t1_18 h19) (t1_20 h20) t1_21 (t1_22 h22) (t2_23 h23) (t2_25 h25) (sh_26 h26) (sh_27 h27) (sh_29 h26 h29) (sh_28 h28)
theorem lp_sh (m8 m19 : Int32) (lf : Nat → Int32) : ∀ (N : Nat) (m10 m15 m17 m18 m20 m21 m22 m23 m25 m26 m27 m28 m29 m30 : Int32), Rb 4 m27 → (m28 = 0 ∧ m27 = 0 ∨ m28 = 1 ∨ m28 = 2) →
    (lp_X6 m8 m19 lf N m10 m15 m17 m18 m20 m21 m22 m23 m25 m26 m27 m28 m29 m30).2.2.2.2.2.2.2.2.2.1 = (SS m8 lf N 0 m26 m27 m29 (hwf m28)).2.1 ∧ (lp_X6 m8 m19 lf N m10 m15 m17 m18 m20 m21 m22 m23 m25 m26 m27 m28 m29 m30).2.2.2.2.2.2.2.2.2.2.1 = (SS m8 lf N 0 m26 m27 m29 (hwf m28)).2.2.1 ∧ (lp_X6 m8 m19 lf N m10 m15 m17 m18 m20 m21 m22 m23 m25 m26 m27 m28 m29 m30).2.2.2.2.2.2.2.2.2.2.2.2.1 = (SS m8 lf N 0 m26 m27 m29 (hwf m28)).2.2.2.1 ∧ hwf (lp_X6 m8 m19 lf N m10 m15 m17 m18 m20 m21 m22 m23 m25 m26 m27 m28 m29 m30).2.2.2.2.2.2.2.2.2.2.2.1 = (SS m8 lf N 0 m26 m27 m29 (hwf m28)).2.2.2.2 := by
  intro N
  induction N with
  | zero =>
    intro m10 m15 m17 m18 m20 m21 m22 m23 m25 m26 m27 m28 m29 m30 h27 h28
    rw [SS_0]
    exact ⟨rfl, rfl, rfl, rfl⟩
  | succ n ih =>
    intro m10 m15 m17 m18 m20 m21 m22 m23 m25 m26 m27 m28 m29 m30 h27 h28
    rw [SS_S h27 h28, SS_fr]
    simp only [lp_X6]
    exact ih _ _ _ _ _ _ _ _ _ _ _ _ _ _ (sh_27 h27) (sh_28 h28)
theorem s10_or (m8 x m27 m28 : Int32) : f_X6_cycleOfShifter_m10 m8 x m27 m28 = x ||| f_X6_cycleOfShifter_m10 m8 0 m27 m28 := by
  unfold f_X6_cycleOfShifter_m10
  (repeat' split) <;> first | exact (or_z _).symm | rw [z_or]
theorem c10_or {m8 x m27 m28 : Int32} {c a d v w : Nat} (hc : c < 65536) (ha : a < 2) (hd : d < 2) (hv : v < 65536) (hw : w < 2) : f_X6_cyc_m10 m8 x (nI c) (nI a) (nI d) (nI v) (nI w) m27 m28 = ((x ||| t1 m8 c a d) ||| t2 m8 v w) ||| f_X6_cycleOfShifter_m10 m8 0 m27 m28 := by
  unfold f_X6_cyc_m10 t2
  rw [e10a hc ha hd, e10b hv hw]
  by_cases h : (m8 &&& (32 : Int32)) = 0
  · rw [if_pos h, if_pos h, s10_or]
  · rw [if_neg h, if_neg h, or_z, s10_or]
theorem lp_fr (m8 : Int32) (lf : Nat → Int32) {l : Nat} (hl : l < 65536) : ∀ (N : Nat) (m10 m15 m17 m22 m26 m27 m28 m29 m30 : Int32) (c a d v w : Nat), c < 65536 → a < 2 → d < 2 → v < 65536 → w < 2 → Rb 4 m27 → (m28 = 0 ∧ m27 = 0 ∨ m28 = 1 ∨ m28 = 2) →
    (lp_X6 m8 (nI l) lf N m10 m15 m17 (nI c) (nI a) (nI d) m22 (nI v) (nI w) m26 m27 m28 m29 m30).1 = ((m10 ||| Q1 m8 N c l a d) ||| Q2 m8 N v w) ||| (SS m8 lf N 0 m26 m27 m29 (hwf m28)).1 := by
  intro N
  induction N with
  | zero =>
    intro m10 m15 m17 m22 m26 m27 m28 m29 m30 c a d v w hc ha hd hv hw h27 h28
    rw [SS_0, Q1_0, Q2_0, or_z, or_z, or_z]
    rfl
  | succ n ih =>
    intro m10 m15 m17 m22 m26 m27 m28 m29 m30 c a d v w hc ha hd hv hw h27 h28
    rw [SS_S h27 h28, SS_fr, Q1_S hd, Q2_S]
    simp only [lp_X6]
    rw [c10_or hc ha hd hv hw, e18 hc hd, e20 hc ha, e21 hc hd, e23 hv, e25 hv hw]
    refine (ih _ _ _ _ _ _ _ _ _ _ _ _ _ _ (c1_lt hc hl) (a1_lt ha) d1_lt (c2_lt hv) (a2_lt hw) (sh_27 h27) (sh_28 h28)).trans ?_
    exact or7 _ _ _ _ _ _ _
