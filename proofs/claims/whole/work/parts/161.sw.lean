theorem sw_2 {x : Int32} (h0 : ¬ x = 0) (h1 : ¬ x = 1) : x.toInt < 0 ∨ (1 : Int) < x.toInt := by
  have e0 := sw_ne (k := 0) (by omega) h0
  have e1 := sw_ne (k := 1) (by omega) h1
  omega
theorem sw_3 {x : Int32} (h0 : ¬ x = 0) (h1 : ¬ x = 1) (h2 : ¬ x = 2) : x.toInt < 0 ∨ (2 : Int) < x.toInt := by
  have e0 := sw_ne (k := 0) (by omega) h0
  have e1 := sw_ne (k := 1) (by omega) h1
  have e2 := sw_ne (k := 2) (by omega) h2
  omega
theorem sw_6 {x : Int32} (h0 : ¬ x = 0) (h1 : ¬ x = 1) (h2 : ¬ x = 2) (h3 : ¬ x = 3) (h4 : ¬ x = 4) (h5 : ¬ x = 5) : x.toInt < 0 ∨ (5 : Int) < x.toInt := by
  have e0 := sw_ne (k := 0) (by omega) h0
  have e1 := sw_ne (k := 1) (by omega) h1
  have e2 := sw_ne (k := 2) (by omega) h2
  have e3 := sw_ne (k := 3) (by omega) h3
  have e4 := sw_ne (k := 4) (by omega) h4
  have e5 := sw_ne (k := 5) (by omega) h5
  omega
theorem sw_15 {x : Int32} (h0 : ¬ x = 0) (h1 : ¬ x = 1) (h2 : ¬ x = 2) (h3 : ¬ x = 3) (h4 : ¬ x = 4) (h5 : ¬ x = 5) (h6 : ¬ x = 6) (h7 : ¬ x = 7) (h8 : ¬ x = 8) (h9 : ¬ x = 9) (h10 : ¬ x = 10) (h11 : ¬ x = 11) (h12 : ¬ x = 12) (h13 : ¬ x = 13) (h14 : ¬ x = 14) : x.toInt < 0 ∨ (14 : Int) < x.toInt := by
  have e0 := sw_ne (k := 0) (by omega) h0
  have e1 := sw_ne (k := 1) (by omega) h1
  have e2 := sw_ne (k := 2) (by omega) h2
  have e3 := sw_ne (k := 3) (by omega) h3
  have e4 := sw_ne (k := 4) (by omega) h4
  have e5 := sw_ne (k := 5) (by omega) h5
  have e6 := sw_ne (k := 6) (by omega) h6
  have e7 := sw_ne (k := 7) (by omega) h7
  have e8 := sw_ne (k := 8) (by omega) h8
  have e9 := sw_ne (k := 9) (by omega) h9
  have e10 := sw_ne (k := 10) (by omega) h10
  have e11 := sw_ne (k := 11) (by omega) h11
  have e12 := sw_ne (k := 12) (by omega) h12
  have e13 := sw_ne (k := 13) (by omega) h13
  have e14 := sw_ne (k := 14) (by omega) h14
  omega
