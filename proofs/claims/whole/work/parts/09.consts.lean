/-! constants, by program -/
theorem b_m100 : (Int8.ofInt (-100)).toInt32 = (-100) := by decide
theorem b_m11 : (Int8.ofInt (-11)).toInt32 = (-11) := by decide
theorem b_m10 : (Int8.ofInt (-10)).toInt32 = (-10) := by decide
theorem b_m9 : (Int8.ofInt (-9)).toInt32 = (-9) := by decide
theorem b_m8 : (Int8.ofInt (-8)).toInt32 = (-8) := by decide
theorem b_m7 : (Int8.ofInt (-7)).toInt32 = (-7) := by decide
theorem b_m6 : (Int8.ofInt (-6)).toInt32 = (-6) := by decide
theorem b_m5 : (Int8.ofInt (-5)).toInt32 = (-5) := by decide
theorem b_m4 : (Int8.ofInt (-4)).toInt32 = (-4) := by decide
theorem b_m3 : (Int8.ofInt (-3)).toInt32 = (-3) := by decide
theorem b_m2 : (Int8.ofInt (-2)).toInt32 = (-2) := by decide
theorem b_6 : (Int8.ofInt 6).toInt32 = 6 := by decide
theorem b_7 : (Int8.ofInt 7).toInt32 = 7 := by decide
theorem b_8 : (Int8.ofInt 8).toInt32 = 8 := by decide
theorem b_9 : (Int8.ofInt 9).toInt32 = 9 := by decide
theorem b_10 : (Int8.ofInt 10).toInt32 = 10 := by decide
theorem b_11 : (Int8.ofInt 11).toInt32 = 11 := by decide
theorem b_12 : (Int8.ofInt 12).toInt32 = 12 := by decide
theorem b_14 : (Int8.ofInt 14).toInt32 = 14 := by decide
theorem b_16 : (Int8.ofInt 16).toInt32 = 16 := by decide
theorem b_17 : (Int8.ofInt 17).toInt32 = 17 := by decide
theorem b_20 : (Int8.ofInt 20).toInt32 = 20 := by decide
theorem b_24 : (Int8.ofInt 24).toInt32 = 24 := by decide
theorem b_29 : (Int8.ofInt 29).toInt32 = 29 := by decide
theorem b_30 : (Int8.ofInt 30).toInt32 = 30 := by decide
theorem b_32 : (Int8.ofInt 32).toInt32 = 32 := by decide
theorem b_33 : (Int8.ofInt 33).toInt32 = 33 := by decide
theorem b_40 : (Int8.ofInt 40).toInt32 = 40 := by decide
theorem b_41 : (Int8.ofInt 41).toInt32 = 41 := by decide
theorem b_48 : (Int8.ofInt 48).toInt32 = 48 := by decide
theorem b_57 : (Int8.ofInt 57).toInt32 = 57 := by decide
theorem b_60 : (Int8.ofInt 60).toInt32 = 60 := by decide
theorem b_63 : (Int8.ofInt 63).toInt32 = 63 := by decide
theorem b_76 : (Int8.ofInt 76).toInt32 = 76 := by decide
theorem b_96 : (Int8.ofInt 96).toInt32 = 96 := by decide
theorem b_97 : (Int8.ofInt 97).toInt32 = 97 := by decide
theorem b_98 : (Int8.ofInt 98).toInt32 = 98 := by decide
theorem b_99 : (Int8.ofInt 99).toInt32 = 99 := by decide
theorem b_100 : (Int8.ofInt 100).toInt32 = 100 := by decide
theorem b_101 : (Int8.ofInt 101).toInt32 = 101 := by decide
theorem b_102 : (Int8.ofInt 102).toInt32 = 102 := by decide
theorem b_103 : (Int8.ofInt 103).toInt32 = 103 := by decide
theorem b_105 : (Int8.ofInt 105).toInt32 = 105 := by decide
theorem b_108 : (Int8.ofInt 108).toInt32 = 108 := by decide
theorem b_110 : (Int8.ofInt 110).toInt32 = 110 := by decide
theorem b_115 : (Int8.ofInt 115).toInt32 = 115 := by decide
theorem b_116 : (Int8.ofInt 116).toInt32 = 116 := by decide
theorem b_118 : (Int8.ofInt 118).toInt32 = 118 := by decide
theorem b_119 : (Int8.ofInt 119).toInt32 = 119 := by decide
theorem b_120 : (Int8.ofInt 120).toInt32 = 120 := by decide
theorem b_122 : (Int8.ofInt 122).toInt32 = 122 := by decide
theorem c_m8 : Int32.ofInt (-8) = (-8) := by decide
theorem c_m1 : Int32.ofInt (-1) = (-1) := by decide
theorem c_0 : Int32.ofInt 0 = 0 := by decide
theorem c_1 : Int32.ofInt 1 = 1 := by decide
theorem c_2 : Int32.ofInt 2 = 2 := by decide
theorem c_3 : Int32.ofInt 3 = 3 := by decide
theorem c_4 : Int32.ofInt 4 = 4 := by decide
theorem c_5 : Int32.ofInt 5 = 5 := by decide
theorem c_6 : Int32.ofInt 6 = 6 := by decide
theorem s_144 : (Int16.ofInt 144).toInt32 = 144 := by decide
theorem s_200 : (Int16.ofInt 200).toInt32 = 200 := by decide
theorem s_255 : (Int16.ofInt 255).toInt32 = 255 := by decide
theorem s_300 : (Int16.ofInt 300).toInt32 = 300 := by decide
theorem s_991 : (Int16.ofInt 991).toInt32 = 991 := by decide
theorem s_999 : (Int16.ofInt 999).toInt32 = 999 := by decide
theorem s_1000 : (Int16.ofInt 1000).toInt32 = 1000 := by decide
theorem s_1023 : (Int16.ofInt 1023).toInt32 = 1023 := by decide
theorem s_1488 : (Int16.ofInt 1488).toInt32 = 1488 := by decide
theorem s_9999 : (Int16.ofInt 9999).toInt32 = 9999 := by decide
theorem s_10000 : (Int16.ofInt 10000).toInt32 = 10000 := by decide
theorem s_10100 : (Int16.ofInt 10100).toInt32 = 10100 := by decide
theorem s_10133 : (Int16.ofInt 10133).toInt32 = 10133 := by decide
theorem s_12345 : (Int16.ofInt 12345).toInt32 = 12345 := by decide
theorem t_m8 : ((-8) : Int32).toInt = (-8) := by decide
theorem t_m7 : ((-7) : Int32).toInt = (-7) := by decide
theorem t_m6 : ((-6) : Int32).toInt = (-6) := by decide
theorem t_m5 : ((-5) : Int32).toInt = (-5) := by decide
theorem t_m4 : ((-4) : Int32).toInt = (-4) := by decide
theorem t_m3 : ((-3) : Int32).toInt = (-3) := by decide
theorem t_m2 : ((-2) : Int32).toInt = (-2) := by decide
theorem t_m1 : ((-1) : Int32).toInt = (-1) := by decide
theorem t_0 : (0 : Int32).toInt = 0 := by decide
theorem t_1 : (1 : Int32).toInt = 1 := by decide
theorem t_2 : (2 : Int32).toInt = 2 := by decide
theorem t_3 : (3 : Int32).toInt = 3 := by decide
theorem t_4 : (4 : Int32).toInt = 4 := by decide
theorem t_5 : (5 : Int32).toInt = 5 := by decide
theorem t_6 : (6 : Int32).toInt = 6 := by decide
theorem t_7 : (7 : Int32).toInt = 7 := by decide
theorem t_8 : (8 : Int32).toInt = 8 := by decide
theorem t_9 : (9 : Int32).toInt = 9 := by decide
theorem t_10 : (10 : Int32).toInt = 10 := by decide
theorem t_11 : (11 : Int32).toInt = 11 := by decide
theorem t_12 : (12 : Int32).toInt = 12 := by decide
theorem t_13 : (13 : Int32).toInt = 13 := by decide
theorem t_14 : (14 : Int32).toInt = 14 := by decide
theorem t_15 : (15 : Int32).toInt = 15 := by decide
theorem t_16 : (16 : Int32).toInt = 16 := by decide
theorem t_17 : (17 : Int32).toInt = 17 := by decide
theorem t_18 : (18 : Int32).toInt = 18 := by decide
theorem t_19 : (19 : Int32).toInt = 19 := by decide
theorem t_20 : (20 : Int32).toInt = 20 := by decide
theorem t_21 : (21 : Int32).toInt = 21 := by decide
theorem t_22 : (22 : Int32).toInt = 22 := by decide
theorem t_23 : (23 : Int32).toInt = 23 := by decide
theorem t_24 : (24 : Int32).toInt = 24 := by decide
theorem t_25 : (25 : Int32).toInt = 25 := by decide
theorem t_26 : (26 : Int32).toInt = 26 := by decide
theorem t_27 : (27 : Int32).toInt = 27 := by decide
theorem t_28 : (28 : Int32).toInt = 28 := by decide
theorem t_29 : (29 : Int32).toInt = 29 := by decide
theorem t_30 : (30 : Int32).toInt = 30 := by decide
theorem t_31 : (31 : Int32).toInt = 31 := by decide
theorem t_32 : (32 : Int32).toInt = 32 := by decide
theorem t_33 : (33 : Int32).toInt = 33 := by decide
theorem t_34 : (34 : Int32).toInt = 34 := by decide
theorem t_35 : (35 : Int32).toInt = 35 := by decide
theorem t_36 : (36 : Int32).toInt = 36 := by decide
theorem t_37 : (37 : Int32).toInt = 37 := by decide
theorem t_38 : (38 : Int32).toInt = 38 := by decide
theorem t_39 : (39 : Int32).toInt = 39 := by decide
theorem t_40 : (40 : Int32).toInt = 40 := by decide
theorem t_42 : (42 : Int32).toInt = 42 := by decide
theorem t_43 : (43 : Int32).toInt = 43 := by decide
theorem t_45 : (45 : Int32).toInt = 45 := by decide
theorem t_47 : (47 : Int32).toInt = 47 := by decide
theorem t_60 : (60 : Int32).toInt = 60 := by decide
theorem t_61 : (61 : Int32).toInt = 61 := by decide
theorem t_62 : (62 : Int32).toInt = 62 := by decide
theorem t_124 : (124 : Int32).toInt = 124 := by decide
theorem sw_out3 {x : Int32} {lo : Int} {k0 : Int32} {k1 : Int32} {k2 : Int32} (h0 : ¬ x = k0) (h1 : ¬ x = k1) (h2 : ¬ x = k2) (e0 : k0.toInt = lo) (e1 : k1.toInt = lo + 1) (e2 : k2.toInt = lo + 2) : x.toInt < lo ∨ lo + 2 < x.toInt := by
  rcases Int.lt_or_le x.toInt lo with hz | g0
  · exact Or.inl hz
  · refine Or.inr ?_
    have q0 := lv_neT h0 e0
    have g1 : lo + 1 ≤ x.toInt := by omega
    clear q0
    have q1 := lv_neT h1 e1
    have g2 : lo + 2 ≤ x.toInt := by omega
    clear q1 g1
    have q2 := lv_neT h2 e2
    have g3 : lo + 3 ≤ x.toInt := by omega
    clear q2 g2
    omega
theorem sw_out5 {x : Int32} {lo : Int} {k0 : Int32} {k1 : Int32} {k2 : Int32} {k3 : Int32} {k4 : Int32} (h0 : ¬ x = k0) (h1 : ¬ x = k1) (h2 : ¬ x = k2) (h3 : ¬ x = k3) (h4 : ¬ x = k4) (e0 : k0.toInt = lo) (e1 : k1.toInt = lo + 1) (e2 : k2.toInt = lo + 2) (e3 : k3.toInt = lo + 3) (e4 : k4.toInt = lo + 4) : x.toInt < lo ∨ lo + 4 < x.toInt := by
  rcases Int.lt_or_le x.toInt lo with hz | g0
  · exact Or.inl hz
  · refine Or.inr ?_
    have q0 := lv_neT h0 e0
    have g1 : lo + 1 ≤ x.toInt := by omega
    clear q0
    have q1 := lv_neT h1 e1
    have g2 : lo + 2 ≤ x.toInt := by omega
    clear q1 g1
    have q2 := lv_neT h2 e2
    have g3 : lo + 3 ≤ x.toInt := by omega
    clear q2 g2
    have q3 := lv_neT h3 e3
    have g4 : lo + 4 ≤ x.toInt := by omega
    clear q3 g3
    have q4 := lv_neT h4 e4
    have g5 : lo + 5 ≤ x.toInt := by omega
    clear q4 g4
    omega
theorem sw_out8 {x : Int32} {lo : Int} {k0 : Int32} {k1 : Int32} {k2 : Int32} {k3 : Int32} {k4 : Int32} {k5 : Int32} {k6 : Int32} {k7 : Int32} (h0 : ¬ x = k0) (h1 : ¬ x = k1) (h2 : ¬ x = k2) (h3 : ¬ x = k3) (h4 : ¬ x = k4) (h5 : ¬ x = k5) (h6 : ¬ x = k6) (h7 : ¬ x = k7) (e0 : k0.toInt = lo) (e1 : k1.toInt = lo + 1) (e2 : k2.toInt = lo + 2) (e3 : k3.toInt = lo + 3) (e4 : k4.toInt = lo + 4) (e5 : k5.toInt = lo + 5) (e6 : k6.toInt = lo + 6) (e7 : k7.toInt = lo + 7) : x.toInt < lo ∨ lo + 7 < x.toInt := by
  rcases Int.lt_or_le x.toInt lo with hz | g0
  · exact Or.inl hz
  · refine Or.inr ?_
    have q0 := lv_neT h0 e0
    have g1 : lo + 1 ≤ x.toInt := by omega
    clear q0
    have q1 := lv_neT h1 e1
    have g2 : lo + 2 ≤ x.toInt := by omega
    clear q1 g1
    have q2 := lv_neT h2 e2
    have g3 : lo + 3 ≤ x.toInt := by omega
    clear q2 g2
    have q3 := lv_neT h3 e3
    have g4 : lo + 4 ≤ x.toInt := by omega
    clear q3 g3
    have q4 := lv_neT h4 e4
    have g5 : lo + 5 ≤ x.toInt := by omega
    clear q4 g4
    have q5 := lv_neT h5 e5
    have g6 : lo + 6 ≤ x.toInt := by omega
    clear q5 g5
    have q6 := lv_neT h6 e6
    have g7 : lo + 7 ≤ x.toInt := by omega
    clear q6 g6
    have q7 := lv_neT h7 e7
    have g8 : lo + 8 ≤ x.toInt := by omega
    clear q7 g7
    omega
theorem sw_out11 {x : Int32} {lo : Int} {k0 : Int32} {k1 : Int32} {k2 : Int32} {k3 : Int32} {k4 : Int32} {k5 : Int32} {k6 : Int32} {k7 : Int32} {k8 : Int32} {k9 : Int32} {k10 : Int32} (h0 : ¬ x = k0) (h1 : ¬ x = k1) (h2 : ¬ x = k2) (h3 : ¬ x = k3) (h4 : ¬ x = k4) (h5 : ¬ x = k5) (h6 : ¬ x = k6) (h7 : ¬ x = k7) (h8 : ¬ x = k8) (h9 : ¬ x = k9) (h10 : ¬ x = k10) (e0 : k0.toInt = lo) (e1 : k1.toInt = lo + 1) (e2 : k2.toInt = lo + 2) (e3 : k3.toInt = lo + 3) (e4 : k4.toInt = lo + 4) (e5 : k5.toInt = lo + 5) (e6 : k6.toInt = lo + 6) (e7 : k7.toInt = lo + 7) (e8 : k8.toInt = lo + 8) (e9 : k9.toInt = lo + 9) (e10 : k10.toInt = lo + 10) : x.toInt < lo ∨ lo + 10 < x.toInt := by
  rcases Int.lt_or_le x.toInt lo with hz | g0
  · exact Or.inl hz
  · refine Or.inr ?_
    have q0 := lv_neT h0 e0
    have g1 : lo + 1 ≤ x.toInt := by omega
    clear q0
    have q1 := lv_neT h1 e1
    have g2 : lo + 2 ≤ x.toInt := by omega
    clear q1 g1
    have q2 := lv_neT h2 e2
    have g3 : lo + 3 ≤ x.toInt := by omega
    clear q2 g2
    have q3 := lv_neT h3 e3
    have g4 : lo + 4 ≤ x.toInt := by omega
    clear q3 g3
    have q4 := lv_neT h4 e4
    have g5 : lo + 5 ≤ x.toInt := by omega
    clear q4 g4
    have q5 := lv_neT h5 e5
    have g6 : lo + 6 ≤ x.toInt := by omega
    clear q5 g5
    have q6 := lv_neT h6 e6
    have g7 : lo + 7 ≤ x.toInt := by omega
    clear q6 g6
    have q7 := lv_neT h7 e7
    have g8 : lo + 8 ≤ x.toInt := by omega
    clear q7 g7
    have q8 := lv_neT h8 e8
    have g9 : lo + 9 ≤ x.toInt := by omega
    clear q8 g8
    have q9 := lv_neT h9 e9
    have g10 : lo + 10 ≤ x.toInt := by omega
    clear q9 g9
    have q10 := lv_neT h10 e10
    have g11 : lo + 11 ≤ x.toInt := by omega
    clear q10 g10
    omega
theorem lk_ne {x k : Int32} {a : Int} (h : ¬ x = k) (hk : k.toInt = a) : ¬ a = x.toInt := fun q => h (Int32.toInt_inj.mp (by rw [hk]; exact q.symm))
