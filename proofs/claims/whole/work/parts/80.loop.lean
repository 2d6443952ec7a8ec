theorem lw_seven (u : Int32) : (u &&& (7 : Int32)) = 0 ∨ (u &&& (7 : Int32)) = 1 ∨ (u &&& (7 : Int32)) = 2 ∨ (u &&& (7 : Int32)) = 3 ∨ (u &&& (7 : Int32)) = 4 ∨ (u &&& (7 : Int32)) = 5 ∨ (u &&& (7 : Int32)) = 6 ∨ (u &&& (7 : Int32)) = 7 := by
  obtain ⟨j, hj, e⟩ := pk_andE u (m := 7) 3 (by decide)
  rw [e]
  rcases (show j = 0 ∨ j = 1 ∨ j = 2 ∨ j = 3 ∨ j = 4 ∨ j = 5 ∨ j = 6 ∨ j = 7 by omega) with rfl | rfl | rfl | rfl | rfl | rfl | rfl | rfl <;> simp [nI]
theorem lw_exit {i L : Nat} (hL : L ≤ 1536) (hi : i ≤ 1536) : nI L - (3 : Int32) < nI i ↔ L < i + 3 := by
  have e3 : (3 : Int32) = nI 3 := rfl
  rw [e3, Int32.lt_iff_toInt_lt, pk_sub_toInt (by omega) (by omega), nI_toInt (by omega)]
  omega
set_option maxHeartbeats 4000000 in
set_option maxRecDepth 100000 in
/-- THE LAW'S LOOP: at its head the class and the reference agree -/
theorem law_loop {p : Program} {l : Launch} {e : Env} {s : State} {m : MethodId} {below : List Frame} {meth : Method} {c : Code} {D : va_G} {b L : Nat} {xs : Nat → Int32} {cZ cO : ClassId} {qP qF qA qB q1 q2 q3 qM qZ qO : Nat} (C1 : lw_Ctx p l s m c b L xs D (fun q : Nat => s.heap.size ≤ q) cZ cO) (hr : meth.sig.returnType = ret) (hlocks : meth.locks = false) (hL : L ≤ 1536) :
    ∀ (n t : Nat) (x4 : Int32), 3 * t ≤ L → L + 1 ≤ 3 * t + n → x4 = nI (3 * t) → ∀ (σ lf : Nat → Int32) (of : Nat → Int64), Inv σ lf → ∀ (H : Heap) (locs : List Loc) (ls : Array Slot), va_P D vwCl [(qP, .inr (5, [.ref qF, .ref qA, .ref qB, .ref q1, .ref q2, .ref q3, .int (σ 8), .int (σ 30)])), (qF, .inr (0, [.int (σ 10), .int (σ 11)])), (qA, .inr (2, [.ref qF, .int 2, .int 1, .int (σ 1), .int (lf 0), .int (lf 1), .int (σ 4), .int (σ 6), .int ((σ 9) &&& (15 : Int32)), .int (σ 12), .int (σ 14), .int (σ 15)])), (qB, .inr (2, [.ref qF, .int 16, .int 8, .int (σ 2), .int (lf 2), .int (lf 3), .int (σ 5), .int (σ 7), .int ((σ 9) >>> ((4 : Int32) &&& (31 : Int32)) : Int32), .int (σ 13), .int (σ 16), .int (σ 17)])), (q1, .inr (3, [.ref qF, .int (σ 18), .int (σ 19), .int (σ 22), .int (σ 20), .int (σ 21)])), (q2, .inr (4, [.ref qF, .int (σ 23), .int (σ 24), .int (σ 25)])), (q3, .inr (1, [.ref qF, .int (σ 26), .int (σ 27), .int (σ 29), .int (hwf (σ 28))])), (qM, .inr (6, [.int (σ 0), .int (σ 1), .int (σ 2), .ref qZ, .int (σ 4), .int (σ 5), .int (σ 6), .int (σ 7), .int (σ 8), .int (σ 9), .int (σ 10), .int (σ 11), .int (σ 12), .int (σ 13), .int (σ 14), .int (σ 15), .int (σ 16), .int (σ 17), .int (σ 18), .int (σ 19), .int (σ 20), .int (σ 21), .int (σ 22), .int (σ 23), .int (σ 24), .int (σ 25), .int (σ 26), .int (σ 27), .int (σ 28), .int (σ 29), .int (σ 30)])), (qZ, .inl (cZ, 4, .inl lf)), (qO, .inl (cO, 1, .inr (.inl of)))] H → va_D (fun q : Nat => s.heap.size ≤ q) [(qP, .inr (5, [.ref qF, .ref qA, .ref qB, .ref q1, .ref q2, .ref q3, .int (σ 8), .int (σ 30)])), (qF, .inr (0, [.int (σ 10), .int (σ 11)])), (qA, .inr (2, [.ref qF, .int 2, .int 1, .int (σ 1), .int (lf 0), .int (lf 1), .int (σ 4), .int (σ 6), .int ((σ 9) &&& (15 : Int32)), .int (σ 12), .int (σ 14), .int (σ 15)])), (qB, .inr (2, [.ref qF, .int 16, .int 8, .int (σ 2), .int (lf 2), .int (lf 3), .int (σ 5), .int (σ 7), .int ((σ 9) >>> ((4 : Int32) &&& (31 : Int32)) : Int32), .int (σ 13), .int (σ 16), .int (σ 17)])), (q1, .inr (3, [.ref qF, .int (σ 18), .int (σ 19), .int (σ 22), .int (σ 20), .int (σ 21)])), (q2, .inr (4, [.ref qF, .int (σ 23), .int (σ 24), .int (σ 25)])), (q3, .inr (1, [.ref qF, .int (σ 26), .int (σ 27), .int (σ 29), .int (hwf (σ 28))])), (qM, .inr (6, [.int (σ 0), .int (σ 1), .int (σ 2), .ref qZ, .int (σ 4), .int (σ 5), .int (σ 6), .int (σ 7), .int (σ 8), .int (σ 9), .int (σ 10), .int (σ 11), .int (σ 12), .int (σ 13), .int (σ 14), .int (σ 15), .int (σ 16), .int (σ 17), .int (σ 18), .int (σ 19), .int (σ 20), .int (σ 21), .int (σ 22), .int (σ 23), .int (σ 24), .int (σ 25), .int (σ 26), .int (σ 27), .int (σ 28), .int (σ 29), .int (σ 30)])), (qZ, .inl (cZ, 4, .inl lf)), (qO, .inl (cO, 1, .inr (.inl of)))] → va_S (fun q : Nat => s.heap.size ≤ q) s.heap H locs → lv_has ls 7 [(0, .ref b), (1, .ref qP), (2, .ref qM), (3, .ref qO), (4, .int x4)] → W p l e room_1 s m #[Value.ref b] below meth c H locs (10 + t) (85 + 6 * t) (lw_Z below #[Value.ref b] s) (F0 m 23 ls []) := by
  obtain ⟨hx, hb, hml, hown, hts, hXs, hbl, hbA, hA, hK, hE, hX, hl0⟩ := id C1
  intro n
  induction n with
  | zero =>
    intro t x4 h1 h2
    exact absurd h2 (by omega)
  | succ n ih =>
    intro t x4 h1 h2 ex σ lf of hI H locs ls hP hD hS hl
    refine lv_iload hx hb dL_law_23 (lv_at hl 4 rfl) ?_
    refine lv_aload_n hx hb dL_law_25 rfl (lv_at hl 0 rfl) ?_
    refine va_slen hx hb hXs hbl hbA hS dL_law_26 ?_
    refine lv_iconst (v := 3) hx hb dL_law_27 (by decide) ?_
    refine lv_isub hx hb dL_law_28 ?_
    refine lv_icmp_gt (tgt := 512) hx hb dL_law_29 (by decide) (fun cx => ?_) (fun cx => ?_)
    · refine lv_iconst (v := 1) hx hb dL_law_512 (by decide) ?_
      refine va_forget (fun q hq => hS.2.2 q hq) ?_
      refine W.widen (k := 1042) (n := 8325) (by omega) (by omega) ?_
      exact lw_ret hx hb hr hlocks dL_law_513
    · have h3 : 3 * t + 3 ≤ L := by
        rcases Nat.lt_or_ge L (3 * t + 3) with q | q
        · exact absurd (by rw [ex]; exact (lw_exit hL (by omega)).mpr q) cx
        · exact q
      have h_0 : vp_in x4 L := by rw [ex]; exact vp_in_nI (by omega) (by omega)
      obtain ⟨u0, hu0⟩ : ∃ u, xs x4.toNatClampNeg = u := ⟨_, rfl⟩
      refine lv_aload_n hx hb dL_law_32 rfl (lv_at hl 0 rfl) ?_
      refine lv_iload hx hb dL_law_33 (lv_at hl 4 rfl) ?_
      refine lw_sld (u := u0) hx hb hXs hbl hbA hS h_0 hu0 dL_law_35 ?_
      refine lv_bipush (v := 7) hx hb dL_law_36 (by decide) ?_
      refine lv_iand hx hb dL_law_38 ?_
      have kk : ∀ (σ2 lf2 : Nat → Int32) (of2 : Nat → Int64) (H : Heap) (locs : List Loc) (ls : Array Slot), Inv σ2 lf2 → va_P D vwCl [(qP, .inr (5, [.ref qF, .ref qA, .ref qB, .ref q1, .ref q2, .ref q3, .int (σ2 8), .int (σ2 30)])), (qF, .inr (0, [.int (σ2 10), .int (σ2 11)])), (qA, .inr (2, [.ref qF, .int 2, .int 1, .int (σ2 1), .int (lf2 0), .int (lf2 1), .int (σ2 4), .int (σ2 6), .int ((σ2 9) &&& (15 : Int32)), .int (σ2 12), .int (σ2 14), .int (σ2 15)])), (qB, .inr (2, [.ref qF, .int 16, .int 8, .int (σ2 2), .int (lf2 2), .int (lf2 3), .int (σ2 5), .int (σ2 7), .int ((σ2 9) >>> ((4 : Int32) &&& (31 : Int32)) : Int32), .int (σ2 13), .int (σ2 16), .int (σ2 17)])), (q1, .inr (3, [.ref qF, .int (σ2 18), .int (σ2 19), .int (σ2 22), .int (σ2 20), .int (σ2 21)])), (q2, .inr (4, [.ref qF, .int (σ2 23), .int (σ2 24), .int (σ2 25)])), (q3, .inr (1, [.ref qF, .int (σ2 26), .int (σ2 27), .int (σ2 29), .int (hwf (σ2 28))])), (qM, .inr (6, [.int (σ2 0), .int (σ2 1), .int (σ2 2), .ref qZ, .int (σ2 4), .int (σ2 5), .int (σ2 6), .int (σ2 7), .int (σ2 8), .int (σ2 9), .int (σ2 10), .int (σ2 11), .int (σ2 12), .int (σ2 13), .int (σ2 14), .int (σ2 15), .int (σ2 16), .int (σ2 17), .int (σ2 18), .int (σ2 19), .int (σ2 20), .int (σ2 21), .int (σ2 22), .int (σ2 23), .int (σ2 24), .int (σ2 25), .int (σ2 26), .int (σ2 27), .int (σ2 28), .int (σ2 29), .int (σ2 30)])), (qZ, .inl (cZ, 4, .inl lf2)), (qO, .inl (cO, 1, .inr (.inl of2)))] H → va_D (fun q : Nat => s.heap.size ≤ q) [(qP, .inr (5, [.ref qF, .ref qA, .ref qB, .ref q1, .ref q2, .ref q3, .int (σ2 8), .int (σ2 30)])), (qF, .inr (0, [.int (σ2 10), .int (σ2 11)])), (qA, .inr (2, [.ref qF, .int 2, .int 1, .int (σ2 1), .int (lf2 0), .int (lf2 1), .int (σ2 4), .int (σ2 6), .int ((σ2 9) &&& (15 : Int32)), .int (σ2 12), .int (σ2 14), .int (σ2 15)])), (qB, .inr (2, [.ref qF, .int 16, .int 8, .int (σ2 2), .int (lf2 2), .int (lf2 3), .int (σ2 5), .int (σ2 7), .int ((σ2 9) >>> ((4 : Int32) &&& (31 : Int32)) : Int32), .int (σ2 13), .int (σ2 16), .int (σ2 17)])), (q1, .inr (3, [.ref qF, .int (σ2 18), .int (σ2 19), .int (σ2 22), .int (σ2 20), .int (σ2 21)])), (q2, .inr (4, [.ref qF, .int (σ2 23), .int (σ2 24), .int (σ2 25)])), (q3, .inr (1, [.ref qF, .int (σ2 26), .int (σ2 27), .int (σ2 29), .int (hwf (σ2 28))])), (qM, .inr (6, [.int (σ2 0), .int (σ2 1), .int (σ2 2), .ref qZ, .int (σ2 4), .int (σ2 5), .int (σ2 6), .int (σ2 7), .int (σ2 8), .int (σ2 9), .int (σ2 10), .int (σ2 11), .int (σ2 12), .int (σ2 13), .int (σ2 14), .int (σ2 15), .int (σ2 16), .int (σ2 17), .int (σ2 18), .int (σ2 19), .int (σ2 20), .int (σ2 21), .int (σ2 22), .int (σ2 23), .int (σ2 24), .int (σ2 25), .int (σ2 26), .int (σ2 27), .int (σ2 28), .int (σ2 29), .int (σ2 30)])), (qZ, .inl (cZ, 4, .inl lf2)), (qO, .inl (cO, 1, .inr (.inl of2)))] → va_S (fun q : Nat => s.heap.size ≤ q) s.heap H locs → lv_has ls 7 [(0, .ref b), (1, .ref qP), (2, .ref qM), (3, .ref qO), (4, .int x4)] → W p l e room_1 s m #[Value.ref b] below meth c H locs (10 + t + 1) (85 + 6 * t + 6) (lw_Z below #[Value.ref b] s) (F0 m 506 ls []) := by
        intro σ2 lf2 of2 H locs ls hI hP hD hS hl
        refine lv_iinc (v := x4 + 3) (lv' := [(4, .int (x4 + 3)), (0, .ref b), (1, .ref qP), (2, .ref qM), (3, .ref qO)]) hx hb dL_law_506 hl (k := 4) rfl rfl (by decide) rfl (fun ls hl => ?_)
        refine lv_goto (tgt := 23) hx hb dL_law_509 (by decide) ?_
        have hg := ih (t + 1) (x4 + 3) (by omega) (by omega) (by rw [ex, show (3 : Int32) = nI 3 from rfl, nI_add]; rfl) σ2 lf2 of2 hI H locs ls hP hD hS (lv_sub hl [1, 2, 3, 4, 0] rfl)
        rw [show 85 + 6 * (t + 1) = 85 + 6 * t + 6 by omega] at hg
        exact hg
      by_cases c_0 : (u0 &&& (7 : Int32)) = 0
      · refine lv_tableIn (tgt := 84) hx hb dL_law_39 (by rw [c_0]; decide) (by rw [c_0]; decide) (by rw [c_0]; rfl) (by decide) ?_
        exact lc_write C1 t x4 ex h3 hL σ lf of hI H locs ls hP hD hS hl kk
      · by_cases c_1 : (u0 &&& (7 : Int32)) = 1
        · refine lv_tableIn (tgt := 132) hx hb dL_law_39 (by rw [c_1]; decide) (by rw [c_1]; decide) (by rw [c_1]; rfl) (by decide) ?_
          exact lc_read C1 t x4 ex h3 hL σ lf of hI H locs ls hP hD hS hl kk
        · by_cases c_2 : (u0 &&& (7 : Int32)) = 2
          · refine lv_tableIn (tgt := 188) hx hb dL_law_39 (by rw [c_2]; decide) (by rw [c_2]; decide) (by rw [c_2]; rfl) (by decide) ?_
            exact lc_pins C1 t x4 ex h3 hL σ lf of hI H locs ls hP hD hS hl kk
          · by_cases c_3 : (u0 &&& (7 : Int32)) = 3
            · refine lv_tableIn (tgt := 236) hx hb dL_law_39 (by rw [c_3]; decide) (by rw [c_3]; decide) (by rw [c_3]; rfl) (by decide) ?_
              exact lc_line C1 t x4 ex h3 hL σ lf of hI H locs ls hP hD hS hl kk
            · by_cases c_4 : (u0 &&& (7 : Int32)) = 4
              · refine lv_tableIn (tgt := 327) hx hb dL_law_39 (by rw [c_4]; decide) (by rw [c_4]; decide) (by rw [c_4]; rfl) (by decide) ?_
                exact lc_step C1 t x4 ex h3 hL σ lf of hI H locs ls hP hD hS hl kk
              · by_cases c_5 : (u0 &&& (7 : Int32)) = 5
                · refine lv_tableIn (tgt := 383) hx hb dL_law_39 (by rw [c_5]; decide) (by rw [c_5]; decide) (by rw [c_5]; rfl) (by decide) ?_
                  exact lc_out C1 t x4 ex h3 hL σ lf of hI H locs ls hP hD hS hl kk
                · by_cases c_6 : (u0 &&& (7 : Int32)) = 6
                  · refine lv_tableIn (tgt := 439) hx hb dL_law_39 (by rw [c_6]; decide) (by rw [c_6]; decide) (by rw [c_6]; rfl) (by decide) ?_
                    exact lc_told C1 t x4 ex h3 hL σ lf of hI H locs ls hP hD hS hl kk
                  · by_cases c_7 : (u0 &&& (7 : Int32)) = 7
                    · refine lv_tableIn (tgt := 495) hx hb dL_law_39 (by rw [c_7]; decide) (by rw [c_7]; decide) (by rw [c_7]; rfl) (by decide) ?_
                      exact lc_reset C1 t x4 ex h3 hL σ lf of hI H locs ls hP hD hS hl kk
                    · exact absurd (lw_seven u0) (fun h => by rcases h with h | h | h | h | h | h | h | h <;> first | exact c_0 h | exact c_1 h | exact c_2 h | exact c_3 h | exact c_4 h | exact c_5 h | exact c_6 h | exact c_7 h)
