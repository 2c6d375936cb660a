/-! ===== what is made: the class's object ===== -/
def IniX (S : St) (I : In) (x : Nat) : Prop := IniV S I (x + 1) ∧ I x 2 = 0 ∧ I x 10 = 0 ∧ (∀ i, i < 4 → IniSh I (x + 88 + 2 * i)) ∧ (∀ i, i < 5 → I (x + 96 + 3 * i) 1 = 0) ∧ I (x + 80) 1 = 0 ∧ (∀ j, I (x + 80 + 1) j = 0) ∧ ∀ j, I (x + 87) j = 0
set_option maxRecDepth 100000 in
set_option maxHeartbeats 1000000 in
theorem k_X10_init {ro : Ro} {S : St} {I : In} {x : Nat} (hz : S.2.2 = x + 1) (h0 : S.1 x = some (9, 0)) : Ok mX10_init ro 4 110 1479 [.ref x] S I (fun rr S' I' => rr = none ∧ LayX S' x ∧ IniX S' I' x ∧ S'.2.2 = x + 111 ∧ EqB 0 x S I S' I' ∧ (Fre S → Fre S')) := by
  refine ok_of (al := [.ref x, JJ]) (by decide) (l8 rfl) rfl ?_
  refine v_aload_n (n := 1) dX10_init_0 rfl rfl rfl ?_
  refine v_objInit (n := 4) l_X10_1 oi_iv oi_code ⟨rfl, rfl⟩ (l8 rfl) dX10_init_1 rfl ?_
  refine v_aload_n (n := 5) dX10_init_4 rfl rfl rfl ?_
  refine v_nO (n := 8) (ci := 8) (N := 9) (e := x + 1) hz (by decide) rfl cl_X10_7 in_X9 ini_X9 ⟨l8 rfl, l8 rfl⟩ dX10_init_5 rfl (fun S1 I1 w1 => ?_)
  have h0_1 : S1.1 (x) = some (9, 0) := by rw [((w1.b (lo := x) (hi := x + 1) (by omega)) (x) (by omega) (by omega)).1]; exact h0
  have eB_1 : EqB 0 x S I S1 I1 := (w1.b (lo := 0) (hi := x) (by omega))
  clear h0
  refine v_dup (n := 9) dX10_init_8 rfl rfl ?_
  refine v_callIN (n := 12) (host := "SnowOwed") mc_X9_init (by decide) iv_X9_init rfl (k_X9_init (ro := ro) w1.1 w1.2.1) ⟨rfl, rfl⟩ (l8 rfl) ⟨l8 rfl, l8 rfl⟩ rfl rfl (l8 rfl) dX10_init_9 rfl ?_
  rintro _ S2 I2 ⟨rfl, lv2, iv2, zv2, ev2, fv2⟩
  have h0_2 : S2.1 (x) = some (9, 0) := by rw [((ev2.sub (lo2 := x) (hi2 := x + 1) (by omega) (by omega)) (x) (by omega) (by omega)).1]; exact h0_1
  have eB_2 : EqB 0 x S I S2 I2 := eB_1.tr (ev2.sub (lo2 := 0) (hi2 := x) (by omega) (by omega))
  clear h0_1 eB_1
  have z2 : S2.2.2 = x + 12 := zv2
  clear hz
  have lv0_2 : LayV S2 (x + 1) := lv2
  have iv0_2 : IniV S2 I2 (x + 1) := iv2
  refine v_pO (n := 15) f_X10_10 rfl (Or.inr ⟨rfl, rfl, rfl⟩) h0_2 dX10_init_12 rfl (fun S3 p3 => ?_)
  have h0_3 : S3.1 (x) = some (9, 0) := by rw [p3.1]; exact h0_2
  have lv0_3 : LayV S3 (x + 1) := lv0_2.eb (p3.b (lo := x + 1) (hi := x + 1 + 11) (I := I2) (by omega))
  have iv0_3 : IniV S3 I2 (x + 1) := iv0_2.eb (p3.b (lo := x + 1) (hi := x + 1 + 11) (I := I2) (by omega))
  have eB_3 : EqB 0 x S I S3 I2 := eB_2.tr (p3.b (lo := 0) (hi := x) (I := I2) (by omega))
  clear h0_2 lv0_2 iv0_2 eB_2
  have z3 : S3.2.2 = x + 12 := by rw [p3.2.1]; exact z2
  clear z2
  have g0_3 : S3.2.1 x 0 = .ref (x + 1) := p3.2.2.1
  refine v_aload_n (n := 16) dX10_init_15 rfl rfl rfl ?_
  refine v_nO (n := 19) (ci := 8) (N := 9) (e := x + 12) z3 (by decide) rfl cl_X10_7 in_X9 ini_X9 ⟨l8 rfl, l8 rfl⟩ dX10_init_16 rfl (fun S4 I4 w4 => ?_)
  have h0_4 : S4.1 (x) = some (9, 0) := by rw [((w4.b (lo := x) (hi := x + 1) (by omega)) (x) (by omega) (by omega)).1]; exact h0_3
  have lv0_4 : LayV S4 (x + 1) := lv0_3.eb (w4.b (lo := x + 1) (hi := x + 1 + 11) (by omega))
  have iv0_4 : IniV S4 I4 (x + 1) := iv0_3.eb (w4.b (lo := x + 1) (hi := x + 1 + 11) (by omega))
  have g0_4 : S4.2.1 x 0 = .ref (x + 1) := by rw [((w4.b (lo := x) (hi := x + 1) (by omega)) (x) (by omega) (by omega)).2.1]; exact g0_3
  have eB_4 : EqB 0 x S I S4 I4 := eB_3.tr (w4.b (lo := 0) (hi := x) (by omega))
  clear h0_3 lv0_3 iv0_3 g0_3 eB_3
  refine v_dup (n := 20) dX10_init_19 rfl rfl ?_
  refine v_callIN (n := 23) (host := "SnowOwed") mc_X9_init (by decide) iv_X9_init rfl (k_X9_init (ro := ro) w4.1 w4.2.1) ⟨rfl, rfl⟩ (l8 rfl) ⟨l8 rfl, l8 rfl⟩ rfl rfl (l8 rfl) dX10_init_20 rfl ?_
  rintro _ S5 I5 ⟨rfl, lv5, iv5, zv5, ev5, fv5⟩
  have h0_5 : S5.1 (x) = some (9, 0) := by rw [((ev5.sub (lo2 := x) (hi2 := x + 1) (by omega) (by omega)) (x) (by omega) (by omega)).1]; exact h0_4
  have lv0_5 : LayV S5 (x + 1) := lv0_4.eb (ev5.sub (lo2 := x + 1) (hi2 := x + 1 + 11) (by omega) (by omega))
  have iv0_5 : IniV S5 I5 (x + 1) := iv0_4.eb (ev5.sub (lo2 := x + 1) (hi2 := x + 1 + 11) (by omega) (by omega))
  have g0_5 : S5.2.1 x 0 = .ref (x + 1) := by rw [((ev5.sub (lo2 := x) (hi2 := x + 1) (by omega) (by omega)) (x) (by omega) (by omega)).2.1]; exact g0_4
  have eB_5 : EqB 0 x S I S5 I5 := eB_4.tr (ev5.sub (lo2 := 0) (hi2 := x) (by omega) (by omega))
  clear h0_4 lv0_4 iv0_4 g0_4 eB_4
  have z5 : S5.2.2 = x + 23 := zv5
  clear z3
  have lv1_5 : LayV S5 (x + 12) := lv5
  have iv1_5 : IniV S5 I5 (x + 12) := iv5
  refine v_pO (n := 26) f_X10_16 rfl (Or.inr ⟨rfl, rfl, rfl⟩) h0_5 dX10_init_23 rfl (fun S6 p6 => ?_)
  have h0_6 : S6.1 (x) = some (9, 0) := by rw [p6.1]; exact h0_5
  have lv0_6 : LayV S6 (x + 1) := lv0_5.eb (p6.b (lo := x + 1) (hi := x + 1 + 11) (I := I5) (by omega))
  have iv0_6 : IniV S6 I5 (x + 1) := iv0_5.eb (p6.b (lo := x + 1) (hi := x + 1 + 11) (I := I5) (by omega))
  have g0_6 : S6.2.1 x 0 = .ref (x + 1) := by rw [p6.2.2.2.1 0 (by decide)]; exact g0_5
  have lv1_6 : LayV S6 (x + 12) := lv1_5.eb (p6.b (lo := x + 12) (hi := x + 12 + 11) (I := I5) (by omega))
  have iv1_6 : IniV S6 I5 (x + 12) := iv1_5.eb (p6.b (lo := x + 12) (hi := x + 12 + 11) (I := I5) (by omega))
  have eB_6 : EqB 0 x S I S6 I5 := eB_5.tr (p6.b (lo := 0) (hi := x) (I := I5) (by omega))
  clear h0_5 lv0_5 iv0_5 g0_5 lv1_5 iv1_5 eB_5
  have z6 : S6.2.2 = x + 23 := by rw [p6.2.1]; exact z5
  clear z5
  have g1_6 : S6.2.1 x 1 = .ref (x + 12) := p6.2.2.1
  refine v_aload_n (n := 27) dX10_init_26 rfl rfl rfl ?_
  refine v_iconst (n := 28) (v := 0) dX10_init_27 c_0 rfl ?_
  refine v_putZ (n := 31) f_X10_19 rfl (Or.inl rfl) h0_6 (by decide) dX10_init_28 rfl ?_
  obtain ⟨I7, hI7⟩ : ∃ I9, I9 = setI I5 x 2 0 := ⟨_, rfl⟩
  rw [← hI7]
  have h0_7 : S6.1 (x) = some (9, 0) := h0_6
  have lv0_7 : LayV S6 (x + 1) := lv0_6.eb (show EqB (x + 1) (x + 1 + 11) S6 I5 S6 I7 from by rw [hI7]; exact setI_b (by omega))
  have iv0_7 : IniV S6 I7 (x + 1) := iv0_6.eb (show EqB (x + 1) (x + 1 + 11) S6 I5 S6 I7 from by rw [hI7]; exact setI_b (by omega))
  have g0_7 : S6.2.1 x 0 = .ref (x + 1) := g0_6
  have lv1_7 : LayV S6 (x + 12) := lv1_6.eb (show EqB (x + 12) (x + 12 + 11) S6 I5 S6 I7 from by rw [hI7]; exact setI_b (by omega))
  have iv1_7 : IniV S6 I7 (x + 12) := iv1_6.eb (show EqB (x + 12) (x + 12 + 11) S6 I5 S6 I7 from by rw [hI7]; exact setI_b (by omega))
  have g1_7 : S6.2.1 x 1 = .ref (x + 12) := g1_6
  have eB_7 : EqB 0 x S I S6 I7 := eB_6.tr (show EqB (0) (x) S6 I5 S6 I7 from by rw [hI7]; exact setI_b (by omega))
  clear h0_6 lv0_6 iv0_6 g0_6 lv1_6 iv1_6 g1_6 eB_6
  have v2_7 : I7 x 2 = 0 := by rw [hI7, sI_s]
  refine v_aload_n (n := 32) dX10_init_31 rfl rfl rfl ?_
  refine v_nO (n := 35) (ci := 2) (N := 5) (e := x + 23) z6 (by decide) rfl cl_X10_23 in_X3 ini_X3 ⟨l8 rfl, l8 rfl⟩ dX10_init_32 rfl (fun S8 I8 w8 => ?_)
  have h0_8 : S8.1 (x) = some (9, 0) := by rw [((w8.b (lo := x) (hi := x + 1) (by omega)) (x) (by omega) (by omega)).1]; exact h0_7
  have lv0_8 : LayV S8 (x + 1) := lv0_7.eb (w8.b (lo := x + 1) (hi := x + 1 + 11) (by omega))
  have iv0_8 : IniV S8 I8 (x + 1) := iv0_7.eb (w8.b (lo := x + 1) (hi := x + 1 + 11) (by omega))
  have g0_8 : S8.2.1 x 0 = .ref (x + 1) := by rw [((w8.b (lo := x) (hi := x + 1) (by omega)) (x) (by omega) (by omega)).2.1]; exact g0_7
  have lv1_8 : LayV S8 (x + 12) := lv1_7.eb (w8.b (lo := x + 12) (hi := x + 12 + 11) (by omega))
  have iv1_8 : IniV S8 I8 (x + 12) := iv1_7.eb (w8.b (lo := x + 12) (hi := x + 12 + 11) (by omega))
  have g1_8 : S8.2.1 x 1 = .ref (x + 12) := by rw [((w8.b (lo := x) (hi := x + 1) (by omega)) (x) (by omega) (by omega)).2.1]; exact g1_7
  have v2_8 : I8 x 2 = 0 := by rw [((w8.b (lo := x) (hi := x + 1) (by omega)) (x) (by omega) (by omega)).2.2]; exact v2_7
  have eB_8 : EqB 0 x S I S8 I8 := eB_7.tr (w8.b (lo := 0) (hi := x) (by omega))
  clear h0_7 lv0_7 iv0_7 g0_7 lv1_7 iv1_7 g1_7 v2_7 eB_7
  refine v_dup (n := 36) dX10_init_35 rfl rfl ?_
  refine v_callI (n := 39) mc_X3_init l_X10_25 iv_X3_init rfl (k_X3_init (ro := ro) w8.1 w8.2.1) ⟨rfl, rfl⟩ (l8 rfl) ⟨l8 rfl, l8 rfl⟩ rfl rfl (l8 rfl) dX10_init_36 rfl ?_
  rintro _ S9 I9 ⟨rfl, lp9, zv9, ev9, fv9⟩
  have h0_9 : S9.1 (x) = some (9, 0) := by rw [((ev9.sub (lo2 := x) (hi2 := x + 1) (by omega) (by omega)) (x) (by omega) (by omega)).1]; exact h0_8
  have lv0_9 : LayV S9 (x + 1) := lv0_8.eb (ev9.sub (lo2 := x + 1) (hi2 := x + 1 + 11) (by omega) (by omega))
  have iv0_9 : IniV S9 I9 (x + 1) := iv0_8.eb (ev9.sub (lo2 := x + 1) (hi2 := x + 1 + 11) (by omega) (by omega))
  have g0_9 : S9.2.1 x 0 = .ref (x + 1) := by rw [((ev9.sub (lo2 := x) (hi2 := x + 1) (by omega) (by omega)) (x) (by omega) (by omega)).2.1]; exact g0_8
  have lv1_9 : LayV S9 (x + 12) := lv1_8.eb (ev9.sub (lo2 := x + 12) (hi2 := x + 12 + 11) (by omega) (by omega))
  have iv1_9 : IniV S9 I9 (x + 12) := iv1_8.eb (ev9.sub (lo2 := x + 12) (hi2 := x + 12 + 11) (by omega) (by omega))
  have g1_9 : S9.2.1 x 1 = .ref (x + 12) := by rw [((ev9.sub (lo2 := x) (hi2 := x + 1) (by omega) (by omega)) (x) (by omega) (by omega)).2.1]; exact g1_8
  have v2_9 : I9 x 2 = 0 := by rw [((ev9.sub (lo2 := x) (hi2 := x + 1) (by omega) (by omega)) (x) (by omega) (by omega)).2.2]; exact v2_8
  have eB_9 : EqB 0 x S I S9 I9 := eB_8.tr (ev9.sub (lo2 := 0) (hi2 := x) (by omega) (by omega))
  clear h0_8 lv0_8 iv0_8 g0_8 lv1_8 iv1_8 g1_8 v2_8 eB_8
  have z9 : S9.2.2 = x + 80 := zv9
  clear z6
  have lp_9 : LayP S9 (x + 23) := lp9
  refine v_pO (n := 42) f_X10_26 rfl (Or.inr ⟨rfl, rfl, rfl⟩) h0_9 dX10_init_39 rfl (fun S10 p10 => ?_)
  have h0_10 : S10.1 (x) = some (9, 0) := by rw [p10.1]; exact h0_9
  have lv0_10 : LayV S10 (x + 1) := lv0_9.eb (p10.b (lo := x + 1) (hi := x + 1 + 11) (I := I9) (by omega))
  have iv0_10 : IniV S10 I9 (x + 1) := iv0_9.eb (p10.b (lo := x + 1) (hi := x + 1 + 11) (I := I9) (by omega))
  have g0_10 : S10.2.1 x 0 = .ref (x + 1) := by rw [p10.2.2.2.1 0 (by decide)]; exact g0_9
  have lv1_10 : LayV S10 (x + 12) := lv1_9.eb (p10.b (lo := x + 12) (hi := x + 12 + 11) (I := I9) (by omega))
  have iv1_10 : IniV S10 I9 (x + 12) := iv1_9.eb (p10.b (lo := x + 12) (hi := x + 12 + 11) (I := I9) (by omega))
  have g1_10 : S10.2.1 x 1 = .ref (x + 12) := by rw [p10.2.2.2.1 1 (by decide)]; exact g1_9
  have v2_10 : I9 x 2 = 0 := v2_9
  have lp_10 : LayP S10 (x + 23) := lp_9.eb (p10.b (lo := x + 23) (hi := x + 23 + 57) (I := I9) (by omega))
  have eB_10 : EqB 0 x S I S10 I9 := eB_9.tr (p10.b (lo := 0) (hi := x) (I := I9) (by omega))
  clear h0_9 lv0_9 iv0_9 g0_9 lv1_9 iv1_9 g1_9 v2_9 lp_9 eB_9
  have z10 : S10.2.2 = x + 80 := by rw [p10.2.1]; exact z9
  clear z9
  have g3_10 : S10.2.1 x 3 = .ref (x + 23) := p10.2.2.1
  refine v_aload_n (n := 43) dX10_init_42 rfl rfl rfl ?_
  refine v_nO (n := 46) (ci := 7) (N := 2) (e := x + 80) z10 (by decide) rfl cl_X10_30 in_X8 ini_X8 ⟨l8 rfl, l8 rfl⟩ dX10_init_43 rfl (fun S11 I11 w11 => ?_)
  have h0_11 : S11.1 (x) = some (9, 0) := by rw [((w11.b (lo := x) (hi := x + 1) (by omega)) (x) (by omega) (by omega)).1]; exact h0_10
  have lv0_11 : LayV S11 (x + 1) := lv0_10.eb (w11.b (lo := x + 1) (hi := x + 1 + 11) (by omega))
  have iv0_11 : IniV S11 I11 (x + 1) := iv0_10.eb (w11.b (lo := x + 1) (hi := x + 1 + 11) (by omega))
  have g0_11 : S11.2.1 x 0 = .ref (x + 1) := by rw [((w11.b (lo := x) (hi := x + 1) (by omega)) (x) (by omega) (by omega)).2.1]; exact g0_10
  have lv1_11 : LayV S11 (x + 12) := lv1_10.eb (w11.b (lo := x + 12) (hi := x + 12 + 11) (by omega))
  have iv1_11 : IniV S11 I11 (x + 12) := iv1_10.eb (w11.b (lo := x + 12) (hi := x + 12 + 11) (by omega))
  have g1_11 : S11.2.1 x 1 = .ref (x + 12) := by rw [((w11.b (lo := x) (hi := x + 1) (by omega)) (x) (by omega) (by omega)).2.1]; exact g1_10
  have v2_11 : I11 x 2 = 0 := by rw [((w11.b (lo := x) (hi := x + 1) (by omega)) (x) (by omega) (by omega)).2.2]; exact v2_10
  have lp_11 : LayP S11 (x + 23) := lp_10.eb (w11.b (lo := x + 23) (hi := x + 23 + 57) (by omega))
  have g3_11 : S11.2.1 x 3 = .ref (x + 23) := by rw [((w11.b (lo := x) (hi := x + 1) (by omega)) (x) (by omega) (by omega)).2.1]; exact g3_10
  have eB_11 : EqB 0 x S I S11 I11 := eB_10.tr (w11.b (lo := 0) (hi := x) (by omega))
  clear h0_10 lv0_10 iv0_10 g0_10 lv1_10 iv1_10 g1_10 v2_10 lp_10 g3_10 eB_10
  refine v_dup (n := 47) dX10_init_46 rfl rfl ?_
  refine v_callIN (n := 50) (host := "SnowOwed") mc_X8_init (by decide) iv_X8_init rfl (k_X8_init (ro := ro) w11.1 w11.2.1) ⟨rfl, rfl⟩ (l8 rfl) ⟨l8 rfl, l8 rfl⟩ rfl rfl (l8 rfl) dX10_init_47 rfl ?_
  rintro _ S12 I12 ⟨rfl, m12⟩
  have h0_12 : S12.1 (x) = some (9, 0) := by rw [((m12.b (lo := x) (hi := x + 1) (by omega)) (x) (by omega) (by omega)).1]; exact h0_11
  have lv0_12 : LayV S12 (x + 1) := lv0_11.eb (m12.b (lo := x + 1) (hi := x + 1 + 11) (by omega))
  have iv0_12 : IniV S12 I12 (x + 1) := iv0_11.eb (m12.b (lo := x + 1) (hi := x + 1 + 11) (by omega))
  have g0_12 : S12.2.1 x 0 = .ref (x + 1) := by rw [((m12.b (lo := x) (hi := x + 1) (by omega)) (x) (by omega) (by omega)).2.1]; exact g0_11
  have lv1_12 : LayV S12 (x + 12) := lv1_11.eb (m12.b (lo := x + 12) (hi := x + 12 + 11) (by omega))
  have iv1_12 : IniV S12 I12 (x + 12) := iv1_11.eb (m12.b (lo := x + 12) (hi := x + 12 + 11) (by omega))
  have g1_12 : S12.2.1 x 1 = .ref (x + 12) := by rw [((m12.b (lo := x) (hi := x + 1) (by omega)) (x) (by omega) (by omega)).2.1]; exact g1_11
  have v2_12 : I12 x 2 = 0 := by rw [((m12.b (lo := x) (hi := x + 1) (by omega)) (x) (by omega) (by omega)).2.2]; exact v2_11
  have lp_12 : LayP S12 (x + 23) := lp_11.eb (m12.b (lo := x + 23) (hi := x + 23 + 57) (by omega))
  have g3_12 : S12.2.1 x 3 = .ref (x + 23) := by rw [((m12.b (lo := x) (hi := x + 1) (by omega)) (x) (by omega) (by omega)).2.1]; exact g3_11
  have eB_12 : EqB 0 x S I S12 I12 := eB_11.tr (m12.b (lo := 0) (hi := x) (by omega))
  clear h0_11 lv0_11 iv0_11 g0_11 lv1_11 iv1_11 g1_11 v2_11 lp_11 g3_11 eB_11
  have z12 : S12.2.2 = x + 82 := by rw [m12.1.1]; rfl
  clear z10
  have lt_12 : LayT S12 (x + 80) := ⟨m12.1.2.1, by rw [m12.1.2.2.1]; rfl, (m12.2.1 0 _ rfl).1⟩
  have it_12 : ∀ j, I12 (x + 80 + 1) j = 0 := fun j => by rw [(m12.2.1 0 _ rfl).2.2]
  have i8_12 : I12 (x + 80) 1 = 0 := by rw [m12.1.2.2.2.1]; rfl
  refine v_pO (n := 53) f_X10_33 rfl (Or.inr ⟨rfl, rfl, rfl⟩) h0_12 dX10_init_50 rfl (fun S13 p13 => ?_)
  have h0_13 : S13.1 (x) = some (9, 0) := by rw [p13.1]; exact h0_12
  have lv0_13 : LayV S13 (x + 1) := lv0_12.eb (p13.b (lo := x + 1) (hi := x + 1 + 11) (I := I12) (by omega))
  have iv0_13 : IniV S13 I12 (x + 1) := iv0_12.eb (p13.b (lo := x + 1) (hi := x + 1 + 11) (I := I12) (by omega))
  have g0_13 : S13.2.1 x 0 = .ref (x + 1) := by rw [p13.2.2.2.1 0 (by decide)]; exact g0_12
  have lv1_13 : LayV S13 (x + 12) := lv1_12.eb (p13.b (lo := x + 12) (hi := x + 12 + 11) (I := I12) (by omega))
  have iv1_13 : IniV S13 I12 (x + 12) := iv1_12.eb (p13.b (lo := x + 12) (hi := x + 12 + 11) (I := I12) (by omega))
  have g1_13 : S13.2.1 x 1 = .ref (x + 12) := by rw [p13.2.2.2.1 1 (by decide)]; exact g1_12
  have v2_13 : I12 x 2 = 0 := v2_12
  have lp_13 : LayP S13 (x + 23) := lp_12.eb (p13.b (lo := x + 23) (hi := x + 23 + 57) (I := I12) (by omega))
  have g3_13 : S13.2.1 x 3 = .ref (x + 23) := by rw [p13.2.2.2.1 3 (by decide)]; exact g3_12
  have lt_13 : LayT S13 (x + 80) := lt_12.eb (p13.b (lo := x + 80) (hi := x + 80 + 2) (I := I12) (by omega))
  have it_13 : ∀ j, I12 (x + 80 + 1) j = 0 := fun j => by rw [((p13.b (lo := x + 80 + 1) (hi := x + 80 + 1 + 1) (I := I12) (by omega)) (x + 80 + 1) (by omega) (by omega)).2.2]; exact it_12 j
  have i8_13 : I12 (x + 80) 1 = 0 := by rw [((p13.b (lo := x + 80) (hi := x + 80 + 1) (I := I12) (by omega)) (x + 80) (by omega) (by omega)).2.2]; exact i8_12
  have eB_13 : EqB 0 x S I S13 I12 := eB_12.tr (p13.b (lo := 0) (hi := x) (I := I12) (by omega))
  clear h0_12 lv0_12 iv0_12 g0_12 lv1_12 iv1_12 g1_12 v2_12 lp_12 g3_12 lt_12 it_12 i8_12 eB_12
  have z13 : S13.2.2 = x + 82 := by rw [p13.2.1]; exact z12
  clear z12
  have g4_13 : S13.2.1 x 4 = .ref (x + 80) := p13.2.2.1
  refine v_aload_n (n := 54) dX10_init_53 rfl rfl rfl ?_
  refine v_nO (n := 57) (ci := 3) (N := 9) (e := x + 82) z13 (by decide) rfl cl_X10_37 in_X4 ini_X4 ⟨l8 rfl, l8 rfl⟩ dX10_init_54 rfl (fun S14 I14 w14 => ?_)
  have h0_14 : S14.1 (x) = some (9, 0) := by rw [((w14.b (lo := x) (hi := x + 1) (by omega)) (x) (by omega) (by omega)).1]; exact h0_13
  have lv0_14 : LayV S14 (x + 1) := lv0_13.eb (w14.b (lo := x + 1) (hi := x + 1 + 11) (by omega))
  have iv0_14 : IniV S14 I14 (x + 1) := iv0_13.eb (w14.b (lo := x + 1) (hi := x + 1 + 11) (by omega))
  have g0_14 : S14.2.1 x 0 = .ref (x + 1) := by rw [((w14.b (lo := x) (hi := x + 1) (by omega)) (x) (by omega) (by omega)).2.1]; exact g0_13
  have lv1_14 : LayV S14 (x + 12) := lv1_13.eb (w14.b (lo := x + 12) (hi := x + 12 + 11) (by omega))
  have iv1_14 : IniV S14 I14 (x + 12) := iv1_13.eb (w14.b (lo := x + 12) (hi := x + 12 + 11) (by omega))
  have g1_14 : S14.2.1 x 1 = .ref (x + 12) := by rw [((w14.b (lo := x) (hi := x + 1) (by omega)) (x) (by omega) (by omega)).2.1]; exact g1_13
  have v2_14 : I14 x 2 = 0 := by rw [((w14.b (lo := x) (hi := x + 1) (by omega)) (x) (by omega) (by omega)).2.2]; exact v2_13
  have lp_14 : LayP S14 (x + 23) := lp_13.eb (w14.b (lo := x + 23) (hi := x + 23 + 57) (by omega))
  have g3_14 : S14.2.1 x 3 = .ref (x + 23) := by rw [((w14.b (lo := x) (hi := x + 1) (by omega)) (x) (by omega) (by omega)).2.1]; exact g3_13
  have lt_14 : LayT S14 (x + 80) := lt_13.eb (w14.b (lo := x + 80) (hi := x + 80 + 2) (by omega))
  have it_14 : ∀ j, I14 (x + 80 + 1) j = 0 := fun j => by rw [((w14.b (lo := x + 80 + 1) (hi := x + 80 + 1 + 1) (by omega)) (x + 80 + 1) (by omega) (by omega)).2.2]; exact it_13 j
  have i8_14 : I14 (x + 80) 1 = 0 := by rw [((w14.b (lo := x + 80) (hi := x + 80 + 1) (by omega)) (x + 80) (by omega) (by omega)).2.2]; exact i8_13
  have g4_14 : S14.2.1 x 4 = .ref (x + 80) := by rw [((w14.b (lo := x) (hi := x + 1) (by omega)) (x) (by omega) (by omega)).2.1]; exact g4_13
  have eB_14 : EqB 0 x S I S14 I14 := eB_13.tr (w14.b (lo := 0) (hi := x) (by omega))
  clear h0_13 lv0_13 iv0_13 g0_13 lv1_13 iv1_13 g1_13 v2_13 lp_13 g3_13 lt_13 it_13 i8_13 g4_13 eB_13
  refine v_dup (n := 58) dX10_init_57 rfl rfl ?_
  refine v_callIN (n := 61) (host := "SnowOwed") mc_X4_init (by decide) iv_X4_init rfl (k_X4_init (ro := ro) w14.1 w14.2.1) ⟨rfl, rfl⟩ (l8 rfl) ⟨l8 rfl, l8 rfl⟩ rfl rfl (l8 rfl) dX10_init_58 rfl ?_
  rintro _ S15 I15 ⟨rfl, g15, f15, m15, mg15⟩
  have h0_15 : S15.1 (x) = some (9, 0) := by rw [((m15.b (lo := x) (hi := x + 1) (by omega)) (x) (by omega) (by omega)).1]; exact h0_14
  have lv0_15 : LayV S15 (x + 1) := lv0_14.eb (m15.b (lo := x + 1) (hi := x + 1 + 11) (by omega))
  have iv0_15 : IniV S15 I15 (x + 1) := iv0_14.eb (m15.b (lo := x + 1) (hi := x + 1 + 11) (by omega))
  have g0_15 : S15.2.1 x 0 = .ref (x + 1) := by rw [((m15.b (lo := x) (hi := x + 1) (by omega)) (x) (by omega) (by omega)).2.1]; exact g0_14
  have lv1_15 : LayV S15 (x + 12) := lv1_14.eb (m15.b (lo := x + 12) (hi := x + 12 + 11) (by omega))
  have iv1_15 : IniV S15 I15 (x + 12) := iv1_14.eb (m15.b (lo := x + 12) (hi := x + 12 + 11) (by omega))
  have g1_15 : S15.2.1 x 1 = .ref (x + 12) := by rw [((m15.b (lo := x) (hi := x + 1) (by omega)) (x) (by omega) (by omega)).2.1]; exact g1_14
  have v2_15 : I15 x 2 = 0 := by rw [((m15.b (lo := x) (hi := x + 1) (by omega)) (x) (by omega) (by omega)).2.2]; exact v2_14
  have lp_15 : LayP S15 (x + 23) := lp_14.eb (m15.b (lo := x + 23) (hi := x + 23 + 57) (by omega))
  have g3_15 : S15.2.1 x 3 = .ref (x + 23) := by rw [((m15.b (lo := x) (hi := x + 1) (by omega)) (x) (by omega) (by omega)).2.1]; exact g3_14
  have lt_15 : LayT S15 (x + 80) := lt_14.eb (m15.b (lo := x + 80) (hi := x + 80 + 2) (by omega))
  have it_15 : ∀ j, I15 (x + 80 + 1) j = 0 := fun j => by rw [((m15.b (lo := x + 80 + 1) (hi := x + 80 + 1 + 1) (by omega)) (x + 80 + 1) (by omega) (by omega)).2.2]; exact it_14 j
  have i8_15 : I15 (x + 80) 1 = 0 := by rw [((m15.b (lo := x + 80) (hi := x + 80 + 1) (by omega)) (x + 80) (by omega) (by omega)).2.2]; exact i8_14
  have g4_15 : S15.2.1 x 4 = .ref (x + 80) := by rw [((m15.b (lo := x) (hi := x + 1) (by omega)) (x) (by omega) (by omega)).2.1]; exact g4_14
  have eB_15 : EqB 0 x S I S15 I15 := eB_14.tr (m15.b (lo := 0) (hi := x) (by omega))
  clear h0_14 lv0_14 iv0_14 g0_14 lv1_14 iv1_14 g1_14 v2_14 lp_14 g3_14 lt_14 it_14 i8_14 g4_14 eB_14
  have z15 : S15.2.2 = x + 84 := by rw [m15.1.1]; rfl
  clear z13
  have lr_15 : LayRd S15 (x + 82) := ⟨m15.1.2.1, by rw [m15.1.2.2.1]; exact mg15, (m15.2.1 0 _ rfl).1⟩
  refine v_pO (n := 64) f_X10_40 rfl (Or.inr ⟨rfl, rfl, rfl⟩) h0_15 dX10_init_61 rfl (fun S16 p16 => ?_)
  have h0_16 : S16.1 (x) = some (9, 0) := by rw [p16.1]; exact h0_15
  have lv0_16 : LayV S16 (x + 1) := lv0_15.eb (p16.b (lo := x + 1) (hi := x + 1 + 11) (I := I15) (by omega))
  have iv0_16 : IniV S16 I15 (x + 1) := iv0_15.eb (p16.b (lo := x + 1) (hi := x + 1 + 11) (I := I15) (by omega))
  have g0_16 : S16.2.1 x 0 = .ref (x + 1) := by rw [p16.2.2.2.1 0 (by decide)]; exact g0_15
  have lv1_16 : LayV S16 (x + 12) := lv1_15.eb (p16.b (lo := x + 12) (hi := x + 12 + 11) (I := I15) (by omega))
  have iv1_16 : IniV S16 I15 (x + 12) := iv1_15.eb (p16.b (lo := x + 12) (hi := x + 12 + 11) (I := I15) (by omega))
  have g1_16 : S16.2.1 x 1 = .ref (x + 12) := by rw [p16.2.2.2.1 1 (by decide)]; exact g1_15
  have v2_16 : I15 x 2 = 0 := v2_15
  have lp_16 : LayP S16 (x + 23) := lp_15.eb (p16.b (lo := x + 23) (hi := x + 23 + 57) (I := I15) (by omega))
  have g3_16 : S16.2.1 x 3 = .ref (x + 23) := by rw [p16.2.2.2.1 3 (by decide)]; exact g3_15
  have lt_16 : LayT S16 (x + 80) := lt_15.eb (p16.b (lo := x + 80) (hi := x + 80 + 2) (I := I15) (by omega))
  have it_16 : ∀ j, I15 (x + 80 + 1) j = 0 := fun j => by rw [((p16.b (lo := x + 80 + 1) (hi := x + 80 + 1 + 1) (I := I15) (by omega)) (x + 80 + 1) (by omega) (by omega)).2.2]; exact it_15 j
  have i8_16 : I15 (x + 80) 1 = 0 := by rw [((p16.b (lo := x + 80) (hi := x + 80 + 1) (I := I15) (by omega)) (x + 80) (by omega) (by omega)).2.2]; exact i8_15
  have g4_16 : S16.2.1 x 4 = .ref (x + 80) := by rw [p16.2.2.2.1 4 (by decide)]; exact g4_15
  have lr_16 : LayRd S16 (x + 82) := lr_15.eb (p16.b (lo := x + 82) (hi := x + 82 + 2) (I := I15) (by omega))
  have eB_16 : EqB 0 x S I S16 I15 := eB_15.tr (p16.b (lo := 0) (hi := x) (I := I15) (by omega))
  clear h0_15 lv0_15 iv0_15 g0_15 lv1_15 iv1_15 g1_15 v2_15 lp_15 g3_15 lt_15 it_15 i8_15 g4_15 lr_15 eB_15
  have z16 : S16.2.2 = x + 84 := by rw [p16.2.1]; exact z15
  clear z15
  have g5_16 : S16.2.1 x 5 = .ref (x + 82) := p16.2.2.1
  refine v_aload_n (n := 65) dX10_init_64 rfl rfl rfl ?_
  refine v_bipush (n := 67) (v := 14) dX10_init_65 b_14 rfl ?_
  refine v_nR (n := 70) (t := 4) (N := 14) (e := x + 84) z16 ⟨by decide, by decide⟩ cl_X10_44 ⟨by decide, rfl, by decide⟩ ⟨l8 rfl, l8 rfl⟩ dX10_init_67 rfl (fun S17 I17 w17 => ?_)
  have h0_17 : S17.1 (x) = some (9, 0) := by rw [((w17.b (lo := x) (hi := x + 1) (by omega)) (x) (by omega) (by omega)).1]; exact h0_16
  have lv0_17 : LayV S17 (x + 1) := lv0_16.eb (w17.b (lo := x + 1) (hi := x + 1 + 11) (by omega))
  have iv0_17 : IniV S17 I17 (x + 1) := iv0_16.eb (w17.b (lo := x + 1) (hi := x + 1 + 11) (by omega))
  have g0_17 : S17.2.1 x 0 = .ref (x + 1) := by rw [((w17.b (lo := x) (hi := x + 1) (by omega)) (x) (by omega) (by omega)).2.1]; exact g0_16
  have lv1_17 : LayV S17 (x + 12) := lv1_16.eb (w17.b (lo := x + 12) (hi := x + 12 + 11) (by omega))
  have iv1_17 : IniV S17 I17 (x + 12) := iv1_16.eb (w17.b (lo := x + 12) (hi := x + 12 + 11) (by omega))
  have g1_17 : S17.2.1 x 1 = .ref (x + 12) := by rw [((w17.b (lo := x) (hi := x + 1) (by omega)) (x) (by omega) (by omega)).2.1]; exact g1_16
  have v2_17 : I17 x 2 = 0 := by rw [((w17.b (lo := x) (hi := x + 1) (by omega)) (x) (by omega) (by omega)).2.2]; exact v2_16
  have lp_17 : LayP S17 (x + 23) := lp_16.eb (w17.b (lo := x + 23) (hi := x + 23 + 57) (by omega))
  have g3_17 : S17.2.1 x 3 = .ref (x + 23) := by rw [((w17.b (lo := x) (hi := x + 1) (by omega)) (x) (by omega) (by omega)).2.1]; exact g3_16
  have lt_17 : LayT S17 (x + 80) := lt_16.eb (w17.b (lo := x + 80) (hi := x + 80 + 2) (by omega))
  have it_17 : ∀ j, I17 (x + 80 + 1) j = 0 := fun j => by rw [((w17.b (lo := x + 80 + 1) (hi := x + 80 + 1 + 1) (by omega)) (x + 80 + 1) (by omega) (by omega)).2.2]; exact it_16 j
  have i8_17 : I17 (x + 80) 1 = 0 := by rw [((w17.b (lo := x + 80) (hi := x + 80 + 1) (by omega)) (x + 80) (by omega) (by omega)).2.2]; exact i8_16
  have g4_17 : S17.2.1 x 4 = .ref (x + 80) := by rw [((w17.b (lo := x) (hi := x + 1) (by omega)) (x) (by omega) (by omega)).2.1]; exact g4_16
  have lr_17 : LayRd S17 (x + 82) := lr_16.eb (w17.b (lo := x + 82) (hi := x + 82 + 2) (by omega))
  have g5_17 : S17.2.1 x 5 = .ref (x + 82) := by rw [((w17.b (lo := x) (hi := x + 1) (by omega)) (x) (by omega) (by omega)).2.1]; exact g5_16
  have eB_17 : EqB 0 x S I S17 I17 := eB_16.tr (w17.b (lo := 0) (hi := x) (by omega))
  clear h0_16 lv0_16 iv0_16 g0_16 lv1_16 iv1_16 g1_16 v2_16 lp_16 g3_16 lt_16 it_16 i8_16 g4_16 lr_16 g5_16 eB_16
  have z17 : S17.2.2 = x + 85 := w17.1
  clear z16
  have c84_17 : S17.1 (x + 84) = some (24, 14) := w17.2.1
  refine v_pO (n := 73) f_X10_46 rfl (Or.inr ⟨rfl, rfl, rfl⟩) h0_17 dX10_init_70 rfl (fun S18 p18 => ?_)
  have h0_18 : S18.1 (x) = some (9, 0) := by rw [p18.1]; exact h0_17
  have lv0_18 : LayV S18 (x + 1) := lv0_17.eb (p18.b (lo := x + 1) (hi := x + 1 + 11) (I := I17) (by omega))
  have iv0_18 : IniV S18 I17 (x + 1) := iv0_17.eb (p18.b (lo := x + 1) (hi := x + 1 + 11) (I := I17) (by omega))
  have g0_18 : S18.2.1 x 0 = .ref (x + 1) := by rw [p18.2.2.2.1 0 (by decide)]; exact g0_17
  have lv1_18 : LayV S18 (x + 12) := lv1_17.eb (p18.b (lo := x + 12) (hi := x + 12 + 11) (I := I17) (by omega))
  have iv1_18 : IniV S18 I17 (x + 12) := iv1_17.eb (p18.b (lo := x + 12) (hi := x + 12 + 11) (I := I17) (by omega))
  have g1_18 : S18.2.1 x 1 = .ref (x + 12) := by rw [p18.2.2.2.1 1 (by decide)]; exact g1_17
  have v2_18 : I17 x 2 = 0 := v2_17
  have lp_18 : LayP S18 (x + 23) := lp_17.eb (p18.b (lo := x + 23) (hi := x + 23 + 57) (I := I17) (by omega))
  have g3_18 : S18.2.1 x 3 = .ref (x + 23) := by rw [p18.2.2.2.1 3 (by decide)]; exact g3_17
  have lt_18 : LayT S18 (x + 80) := lt_17.eb (p18.b (lo := x + 80) (hi := x + 80 + 2) (I := I17) (by omega))
  have it_18 : ∀ j, I17 (x + 80 + 1) j = 0 := fun j => by rw [((p18.b (lo := x + 80 + 1) (hi := x + 80 + 1 + 1) (I := I17) (by omega)) (x + 80 + 1) (by omega) (by omega)).2.2]; exact it_17 j
  have i8_18 : I17 (x + 80) 1 = 0 := by rw [((p18.b (lo := x + 80) (hi := x + 80 + 1) (I := I17) (by omega)) (x + 80) (by omega) (by omega)).2.2]; exact i8_17
  have g4_18 : S18.2.1 x 4 = .ref (x + 80) := by rw [p18.2.2.2.1 4 (by decide)]; exact g4_17
  have lr_18 : LayRd S18 (x + 82) := lr_17.eb (p18.b (lo := x + 82) (hi := x + 82 + 2) (I := I17) (by omega))
  have g5_18 : S18.2.1 x 5 = .ref (x + 82) := by rw [p18.2.2.2.1 5 (by decide)]; exact g5_17
  have c84_18 : S18.1 (x + 84) = some (24, 14) := by rw [p18.1]; exact c84_17
  have eB_18 : EqB 0 x S I S18 I17 := eB_17.tr (p18.b (lo := 0) (hi := x) (I := I17) (by omega))
  clear h0_17 lv0_17 iv0_17 g0_17 lv1_17 iv1_17 g1_17 v2_17 lp_17 g3_17 lt_17 it_17 i8_17 g4_17 lr_17 g5_17 c84_17 eB_17
  have z18 : S18.2.2 = x + 85 := by rw [p18.2.1]; exact z17
  clear z17
  have g6_18 : S18.2.1 x 6 = .ref (x + 84) := p18.2.2.1
  refine v_aload_n (n := 74) dX10_init_73 rfl rfl rfl ?_
  refine v_iconst (n := 75) (v := 4) dX10_init_74 c_4 rfl ?_
  refine v_nR (n := 78) (t := 5) (N := 4) (e := x + 85) z18 ⟨by decide, by decide⟩ cl_X10_50 ⟨by decide, rfl, by decide⟩ ⟨l8 rfl, l8 rfl⟩ dX10_init_75 rfl (fun S19 I19 w19 => ?_)
  have h0_19 : S19.1 (x) = some (9, 0) := by rw [((w19.b (lo := x) (hi := x + 1) (by omega)) (x) (by omega) (by omega)).1]; exact h0_18
  have lv0_19 : LayV S19 (x + 1) := lv0_18.eb (w19.b (lo := x + 1) (hi := x + 1 + 11) (by omega))
  have iv0_19 : IniV S19 I19 (x + 1) := iv0_18.eb (w19.b (lo := x + 1) (hi := x + 1 + 11) (by omega))
  have g0_19 : S19.2.1 x 0 = .ref (x + 1) := by rw [((w19.b (lo := x) (hi := x + 1) (by omega)) (x) (by omega) (by omega)).2.1]; exact g0_18
  have lv1_19 : LayV S19 (x + 12) := lv1_18.eb (w19.b (lo := x + 12) (hi := x + 12 + 11) (by omega))
  have iv1_19 : IniV S19 I19 (x + 12) := iv1_18.eb (w19.b (lo := x + 12) (hi := x + 12 + 11) (by omega))
  have g1_19 : S19.2.1 x 1 = .ref (x + 12) := by rw [((w19.b (lo := x) (hi := x + 1) (by omega)) (x) (by omega) (by omega)).2.1]; exact g1_18
  have v2_19 : I19 x 2 = 0 := by rw [((w19.b (lo := x) (hi := x + 1) (by omega)) (x) (by omega) (by omega)).2.2]; exact v2_18
  have lp_19 : LayP S19 (x + 23) := lp_18.eb (w19.b (lo := x + 23) (hi := x + 23 + 57) (by omega))
  have g3_19 : S19.2.1 x 3 = .ref (x + 23) := by rw [((w19.b (lo := x) (hi := x + 1) (by omega)) (x) (by omega) (by omega)).2.1]; exact g3_18
  have lt_19 : LayT S19 (x + 80) := lt_18.eb (w19.b (lo := x + 80) (hi := x + 80 + 2) (by omega))
  have it_19 : ∀ j, I19 (x + 80 + 1) j = 0 := fun j => by rw [((w19.b (lo := x + 80 + 1) (hi := x + 80 + 1 + 1) (by omega)) (x + 80 + 1) (by omega) (by omega)).2.2]; exact it_18 j
  have i8_19 : I19 (x + 80) 1 = 0 := by rw [((w19.b (lo := x + 80) (hi := x + 80 + 1) (by omega)) (x + 80) (by omega) (by omega)).2.2]; exact i8_18
  have g4_19 : S19.2.1 x 4 = .ref (x + 80) := by rw [((w19.b (lo := x) (hi := x + 1) (by omega)) (x) (by omega) (by omega)).2.1]; exact g4_18
  have lr_19 : LayRd S19 (x + 82) := lr_18.eb (w19.b (lo := x + 82) (hi := x + 82 + 2) (by omega))
  have g5_19 : S19.2.1 x 5 = .ref (x + 82) := by rw [((w19.b (lo := x) (hi := x + 1) (by omega)) (x) (by omega) (by omega)).2.1]; exact g5_18
  have c84_19 : S19.1 (x + 84) = some (24, 14) := by rw [((w19.b (lo := x + 84) (hi := x + 84 + 1) (by omega)) (x + 84) (by omega) (by omega)).1]; exact c84_18
  have g6_19 : S19.2.1 x 6 = .ref (x + 84) := by rw [((w19.b (lo := x) (hi := x + 1) (by omega)) (x) (by omega) (by omega)).2.1]; exact g6_18
  have eB_19 : EqB 0 x S I S19 I19 := eB_18.tr (w19.b (lo := 0) (hi := x) (by omega))
  clear h0_18 lv0_18 iv0_18 g0_18 lv1_18 iv1_18 g1_18 v2_18 lp_18 g3_18 lt_18 it_18 i8_18 g4_18 lr_18 g5_18 c84_18 g6_18 eB_18
  have z19 : S19.2.2 = x + 86 := w19.1
  clear z18
  have c85_19 : S19.1 (x + 85) = some (25, 4) := w19.2.1
  refine v_pO (n := 81) f_X10_52 rfl (Or.inr ⟨rfl, rfl, rfl⟩) h0_19 dX10_init_78 rfl (fun S20 p20 => ?_)
  have h0_20 : S20.1 (x) = some (9, 0) := by rw [p20.1]; exact h0_19
  have lv0_20 : LayV S20 (x + 1) := lv0_19.eb (p20.b (lo := x + 1) (hi := x + 1 + 11) (I := I19) (by omega))
  have iv0_20 : IniV S20 I19 (x + 1) := iv0_19.eb (p20.b (lo := x + 1) (hi := x + 1 + 11) (I := I19) (by omega))
  have g0_20 : S20.2.1 x 0 = .ref (x + 1) := by rw [p20.2.2.2.1 0 (by decide)]; exact g0_19
  have lv1_20 : LayV S20 (x + 12) := lv1_19.eb (p20.b (lo := x + 12) (hi := x + 12 + 11) (I := I19) (by omega))
  have iv1_20 : IniV S20 I19 (x + 12) := iv1_19.eb (p20.b (lo := x + 12) (hi := x + 12 + 11) (I := I19) (by omega))
  have g1_20 : S20.2.1 x 1 = .ref (x + 12) := by rw [p20.2.2.2.1 1 (by decide)]; exact g1_19
  have v2_20 : I19 x 2 = 0 := v2_19
  have lp_20 : LayP S20 (x + 23) := lp_19.eb (p20.b (lo := x + 23) (hi := x + 23 + 57) (I := I19) (by omega))
  have g3_20 : S20.2.1 x 3 = .ref (x + 23) := by rw [p20.2.2.2.1 3 (by decide)]; exact g3_19
  have lt_20 : LayT S20 (x + 80) := lt_19.eb (p20.b (lo := x + 80) (hi := x + 80 + 2) (I := I19) (by omega))
  have it_20 : ∀ j, I19 (x + 80 + 1) j = 0 := fun j => by rw [((p20.b (lo := x + 80 + 1) (hi := x + 80 + 1 + 1) (I := I19) (by omega)) (x + 80 + 1) (by omega) (by omega)).2.2]; exact it_19 j
  have i8_20 : I19 (x + 80) 1 = 0 := by rw [((p20.b (lo := x + 80) (hi := x + 80 + 1) (I := I19) (by omega)) (x + 80) (by omega) (by omega)).2.2]; exact i8_19
  have g4_20 : S20.2.1 x 4 = .ref (x + 80) := by rw [p20.2.2.2.1 4 (by decide)]; exact g4_19
  have lr_20 : LayRd S20 (x + 82) := lr_19.eb (p20.b (lo := x + 82) (hi := x + 82 + 2) (I := I19) (by omega))
  have g5_20 : S20.2.1 x 5 = .ref (x + 82) := by rw [p20.2.2.2.1 5 (by decide)]; exact g5_19
  have c84_20 : S20.1 (x + 84) = some (24, 14) := by rw [p20.1]; exact c84_19
  have g6_20 : S20.2.1 x 6 = .ref (x + 84) := by rw [p20.2.2.2.1 6 (by decide)]; exact g6_19
  have c85_20 : S20.1 (x + 85) = some (25, 4) := by rw [p20.1]; exact c85_19
  have eB_20 : EqB 0 x S I S20 I19 := eB_19.tr (p20.b (lo := 0) (hi := x) (I := I19) (by omega))
  clear h0_19 lv0_19 iv0_19 g0_19 lv1_19 iv1_19 g1_19 v2_19 lp_19 g3_19 lt_19 it_19 i8_19 g4_19 lr_19 g5_19 c84_19 g6_19 c85_19 eB_19
  have z20 : S20.2.2 = x + 86 := by rw [p20.2.1]; exact z19
  clear z19
  have g7_20 : S20.2.1 x 7 = .ref (x + 85) := p20.2.2.1
  refine v_aload_n (n := 82) dX10_init_81 rfl rfl rfl ?_
  refine v_iconst (n := 83) (v := 5) dX10_init_82 c_5 rfl ?_
  refine v_nR (n := 86) (t := 6) (N := 5) (e := x + 86) z20 ⟨by decide, by decide⟩ cl_X10_56 ⟨by decide, rfl, by decide⟩ ⟨l8 rfl, l8 rfl⟩ dX10_init_83 rfl (fun S21 I21 w21 => ?_)
  have h0_21 : S21.1 (x) = some (9, 0) := by rw [((w21.b (lo := x) (hi := x + 1) (by omega)) (x) (by omega) (by omega)).1]; exact h0_20
  have lv0_21 : LayV S21 (x + 1) := lv0_20.eb (w21.b (lo := x + 1) (hi := x + 1 + 11) (by omega))
  have iv0_21 : IniV S21 I21 (x + 1) := iv0_20.eb (w21.b (lo := x + 1) (hi := x + 1 + 11) (by omega))
  have g0_21 : S21.2.1 x 0 = .ref (x + 1) := by rw [((w21.b (lo := x) (hi := x + 1) (by omega)) (x) (by omega) (by omega)).2.1]; exact g0_20
  have lv1_21 : LayV S21 (x + 12) := lv1_20.eb (w21.b (lo := x + 12) (hi := x + 12 + 11) (by omega))
  have iv1_21 : IniV S21 I21 (x + 12) := iv1_20.eb (w21.b (lo := x + 12) (hi := x + 12 + 11) (by omega))
  have g1_21 : S21.2.1 x 1 = .ref (x + 12) := by rw [((w21.b (lo := x) (hi := x + 1) (by omega)) (x) (by omega) (by omega)).2.1]; exact g1_20
  have v2_21 : I21 x 2 = 0 := by rw [((w21.b (lo := x) (hi := x + 1) (by omega)) (x) (by omega) (by omega)).2.2]; exact v2_20
  have lp_21 : LayP S21 (x + 23) := lp_20.eb (w21.b (lo := x + 23) (hi := x + 23 + 57) (by omega))
  have g3_21 : S21.2.1 x 3 = .ref (x + 23) := by rw [((w21.b (lo := x) (hi := x + 1) (by omega)) (x) (by omega) (by omega)).2.1]; exact g3_20
  have lt_21 : LayT S21 (x + 80) := lt_20.eb (w21.b (lo := x + 80) (hi := x + 80 + 2) (by omega))
  have it_21 : ∀ j, I21 (x + 80 + 1) j = 0 := fun j => by rw [((w21.b (lo := x + 80 + 1) (hi := x + 80 + 1 + 1) (by omega)) (x + 80 + 1) (by omega) (by omega)).2.2]; exact it_20 j
  have i8_21 : I21 (x + 80) 1 = 0 := by rw [((w21.b (lo := x + 80) (hi := x + 80 + 1) (by omega)) (x + 80) (by omega) (by omega)).2.2]; exact i8_20
  have g4_21 : S21.2.1 x 4 = .ref (x + 80) := by rw [((w21.b (lo := x) (hi := x + 1) (by omega)) (x) (by omega) (by omega)).2.1]; exact g4_20
  have lr_21 : LayRd S21 (x + 82) := lr_20.eb (w21.b (lo := x + 82) (hi := x + 82 + 2) (by omega))
  have g5_21 : S21.2.1 x 5 = .ref (x + 82) := by rw [((w21.b (lo := x) (hi := x + 1) (by omega)) (x) (by omega) (by omega)).2.1]; exact g5_20
  have c84_21 : S21.1 (x + 84) = some (24, 14) := by rw [((w21.b (lo := x + 84) (hi := x + 84 + 1) (by omega)) (x + 84) (by omega) (by omega)).1]; exact c84_20
  have g6_21 : S21.2.1 x 6 = .ref (x + 84) := by rw [((w21.b (lo := x) (hi := x + 1) (by omega)) (x) (by omega) (by omega)).2.1]; exact g6_20
  have c85_21 : S21.1 (x + 85) = some (25, 4) := by rw [((w21.b (lo := x + 85) (hi := x + 85 + 1) (by omega)) (x + 85) (by omega) (by omega)).1]; exact c85_20
  have g7_21 : S21.2.1 x 7 = .ref (x + 85) := by rw [((w21.b (lo := x) (hi := x + 1) (by omega)) (x) (by omega) (by omega)).2.1]; exact g7_20
  have eB_21 : EqB 0 x S I S21 I21 := eB_20.tr (w21.b (lo := 0) (hi := x) (by omega))
  clear h0_20 lv0_20 iv0_20 g0_20 lv1_20 iv1_20 g1_20 v2_20 lp_20 g3_20 lt_20 it_20 i8_20 g4_20 lr_20 g5_20 c84_20 g6_20 c85_20 g7_20 eB_20
  have z21 : S21.2.2 = x + 87 := w21.1
  clear z20
  have c86_21 : S21.1 (x + 86) = some (26, 5) := w21.2.1
  refine v_pO (n := 89) f_X10_58 rfl (Or.inr ⟨rfl, rfl, rfl⟩) h0_21 dX10_init_86 rfl (fun S22 p22 => ?_)
  have h0_22 : S22.1 (x) = some (9, 0) := by rw [p22.1]; exact h0_21
  have lv0_22 : LayV S22 (x + 1) := lv0_21.eb (p22.b (lo := x + 1) (hi := x + 1 + 11) (I := I21) (by omega))
  have iv0_22 : IniV S22 I21 (x + 1) := iv0_21.eb (p22.b (lo := x + 1) (hi := x + 1 + 11) (I := I21) (by omega))
  have g0_22 : S22.2.1 x 0 = .ref (x + 1) := by rw [p22.2.2.2.1 0 (by decide)]; exact g0_21
  have lv1_22 : LayV S22 (x + 12) := lv1_21.eb (p22.b (lo := x + 12) (hi := x + 12 + 11) (I := I21) (by omega))
  have iv1_22 : IniV S22 I21 (x + 12) := iv1_21.eb (p22.b (lo := x + 12) (hi := x + 12 + 11) (I := I21) (by omega))
  have g1_22 : S22.2.1 x 1 = .ref (x + 12) := by rw [p22.2.2.2.1 1 (by decide)]; exact g1_21
  have v2_22 : I21 x 2 = 0 := v2_21
  have lp_22 : LayP S22 (x + 23) := lp_21.eb (p22.b (lo := x + 23) (hi := x + 23 + 57) (I := I21) (by omega))
  have g3_22 : S22.2.1 x 3 = .ref (x + 23) := by rw [p22.2.2.2.1 3 (by decide)]; exact g3_21
  have lt_22 : LayT S22 (x + 80) := lt_21.eb (p22.b (lo := x + 80) (hi := x + 80 + 2) (I := I21) (by omega))
  have it_22 : ∀ j, I21 (x + 80 + 1) j = 0 := fun j => by rw [((p22.b (lo := x + 80 + 1) (hi := x + 80 + 1 + 1) (I := I21) (by omega)) (x + 80 + 1) (by omega) (by omega)).2.2]; exact it_21 j
  have i8_22 : I21 (x + 80) 1 = 0 := by rw [((p22.b (lo := x + 80) (hi := x + 80 + 1) (I := I21) (by omega)) (x + 80) (by omega) (by omega)).2.2]; exact i8_21
  have g4_22 : S22.2.1 x 4 = .ref (x + 80) := by rw [p22.2.2.2.1 4 (by decide)]; exact g4_21
  have lr_22 : LayRd S22 (x + 82) := lr_21.eb (p22.b (lo := x + 82) (hi := x + 82 + 2) (I := I21) (by omega))
  have g5_22 : S22.2.1 x 5 = .ref (x + 82) := by rw [p22.2.2.2.1 5 (by decide)]; exact g5_21
  have c84_22 : S22.1 (x + 84) = some (24, 14) := by rw [p22.1]; exact c84_21
  have g6_22 : S22.2.1 x 6 = .ref (x + 84) := by rw [p22.2.2.2.1 6 (by decide)]; exact g6_21
  have c85_22 : S22.1 (x + 85) = some (25, 4) := by rw [p22.1]; exact c85_21
  have g7_22 : S22.2.1 x 7 = .ref (x + 85) := by rw [p22.2.2.2.1 7 (by decide)]; exact g7_21
  have c86_22 : S22.1 (x + 86) = some (26, 5) := by rw [p22.1]; exact c86_21
  have eB_22 : EqB 0 x S I S22 I21 := eB_21.tr (p22.b (lo := 0) (hi := x) (I := I21) (by omega))
  clear h0_21 lv0_21 iv0_21 g0_21 lv1_21 iv1_21 g1_21 v2_21 lp_21 g3_21 lt_21 it_21 i8_21 g4_21 lr_21 g5_21 c84_21 g6_21 c85_21 g7_21 c86_21 eB_21
  have z22 : S22.2.2 = x + 87 := by rw [p22.2.1]; exact z21
  clear z21
  have g8_22 : S22.2.1 x 8 = .ref (x + 86) := p22.2.2.1
  refine v_aload_n (n := 90) dX10_init_89 rfl rfl rfl ?_
  refine v_bipush (n := 92) (v := 60) dX10_init_90 b_60 rfl ?_
  refine v_nA (n := 94) (t := 0) (N := 60) (e := x + 87) z22 (by decide) rfl ac_int ⟨by decide, rfl, by decide⟩ ⟨l8 rfl, l8 rfl⟩ dX10_init_92 rfl (fun S23 I23 w23 => ?_)
  have h0_23 : S23.1 (x) = some (9, 0) := by rw [((w23.b (lo := x) (hi := x + 1) (by omega)) (x) (by omega) (by omega)).1]; exact h0_22
  have lv0_23 : LayV S23 (x + 1) := lv0_22.eb (w23.b (lo := x + 1) (hi := x + 1 + 11) (by omega))
  have iv0_23 : IniV S23 I23 (x + 1) := iv0_22.eb (w23.b (lo := x + 1) (hi := x + 1 + 11) (by omega))
  have g0_23 : S23.2.1 x 0 = .ref (x + 1) := by rw [((w23.b (lo := x) (hi := x + 1) (by omega)) (x) (by omega) (by omega)).2.1]; exact g0_22
  have lv1_23 : LayV S23 (x + 12) := lv1_22.eb (w23.b (lo := x + 12) (hi := x + 12 + 11) (by omega))
  have iv1_23 : IniV S23 I23 (x + 12) := iv1_22.eb (w23.b (lo := x + 12) (hi := x + 12 + 11) (by omega))
  have g1_23 : S23.2.1 x 1 = .ref (x + 12) := by rw [((w23.b (lo := x) (hi := x + 1) (by omega)) (x) (by omega) (by omega)).2.1]; exact g1_22
  have v2_23 : I23 x 2 = 0 := by rw [((w23.b (lo := x) (hi := x + 1) (by omega)) (x) (by omega) (by omega)).2.2]; exact v2_22
  have lp_23 : LayP S23 (x + 23) := lp_22.eb (w23.b (lo := x + 23) (hi := x + 23 + 57) (by omega))
  have g3_23 : S23.2.1 x 3 = .ref (x + 23) := by rw [((w23.b (lo := x) (hi := x + 1) (by omega)) (x) (by omega) (by omega)).2.1]; exact g3_22
  have lt_23 : LayT S23 (x + 80) := lt_22.eb (w23.b (lo := x + 80) (hi := x + 80 + 2) (by omega))
  have it_23 : ∀ j, I23 (x + 80 + 1) j = 0 := fun j => by rw [((w23.b (lo := x + 80 + 1) (hi := x + 80 + 1 + 1) (by omega)) (x + 80 + 1) (by omega) (by omega)).2.2]; exact it_22 j
  have i8_23 : I23 (x + 80) 1 = 0 := by rw [((w23.b (lo := x + 80) (hi := x + 80 + 1) (by omega)) (x + 80) (by omega) (by omega)).2.2]; exact i8_22
  have g4_23 : S23.2.1 x 4 = .ref (x + 80) := by rw [((w23.b (lo := x) (hi := x + 1) (by omega)) (x) (by omega) (by omega)).2.1]; exact g4_22
  have lr_23 : LayRd S23 (x + 82) := lr_22.eb (w23.b (lo := x + 82) (hi := x + 82 + 2) (by omega))
  have g5_23 : S23.2.1 x 5 = .ref (x + 82) := by rw [((w23.b (lo := x) (hi := x + 1) (by omega)) (x) (by omega) (by omega)).2.1]; exact g5_22
  have c84_23 : S23.1 (x + 84) = some (24, 14) := by rw [((w23.b (lo := x + 84) (hi := x + 84 + 1) (by omega)) (x + 84) (by omega) (by omega)).1]; exact c84_22
  have g6_23 : S23.2.1 x 6 = .ref (x + 84) := by rw [((w23.b (lo := x) (hi := x + 1) (by omega)) (x) (by omega) (by omega)).2.1]; exact g6_22
  have c85_23 : S23.1 (x + 85) = some (25, 4) := by rw [((w23.b (lo := x + 85) (hi := x + 85 + 1) (by omega)) (x + 85) (by omega) (by omega)).1]; exact c85_22
  have g7_23 : S23.2.1 x 7 = .ref (x + 85) := by rw [((w23.b (lo := x) (hi := x + 1) (by omega)) (x) (by omega) (by omega)).2.1]; exact g7_22
  have c86_23 : S23.1 (x + 86) = some (26, 5) := by rw [((w23.b (lo := x + 86) (hi := x + 86 + 1) (by omega)) (x + 86) (by omega) (by omega)).1]; exact c86_22
  have g8_23 : S23.2.1 x 8 = .ref (x + 86) := by rw [((w23.b (lo := x) (hi := x + 1) (by omega)) (x) (by omega) (by omega)).2.1]; exact g8_22
  have eB_23 : EqB 0 x S I S23 I23 := eB_22.tr (w23.b (lo := 0) (hi := x) (by omega))
  clear h0_22 lv0_22 iv0_22 g0_22 lv1_22 iv1_22 g1_22 v2_22 lp_22 g3_22 lt_22 it_22 i8_22 g4_22 lr_22 g5_22 c84_22 g6_22 c85_22 g7_22 c86_22 g8_22 eB_22
  have z23 : S23.2.2 = x + 88 := w23.1
  clear z22
  have c87_23 : S23.1 (x + 87) = some (20, 60) := w23.2.1
  have i87_23 : ∀ j, I23 (x + 87) j = 0 := w23.2.2.2.1
  refine v_pO (n := 97) f_X10_62 rfl (Or.inr ⟨rfl, rfl, rfl⟩) h0_23 dX10_init_94 rfl (fun S24 p24 => ?_)
  have h0_24 : S24.1 (x) = some (9, 0) := by rw [p24.1]; exact h0_23
  have lv0_24 : LayV S24 (x + 1) := lv0_23.eb (p24.b (lo := x + 1) (hi := x + 1 + 11) (I := I23) (by omega))
  have iv0_24 : IniV S24 I23 (x + 1) := iv0_23.eb (p24.b (lo := x + 1) (hi := x + 1 + 11) (I := I23) (by omega))
  have g0_24 : S24.2.1 x 0 = .ref (x + 1) := by rw [p24.2.2.2.1 0 (by decide)]; exact g0_23
  have lv1_24 : LayV S24 (x + 12) := lv1_23.eb (p24.b (lo := x + 12) (hi := x + 12 + 11) (I := I23) (by omega))
  have iv1_24 : IniV S24 I23 (x + 12) := iv1_23.eb (p24.b (lo := x + 12) (hi := x + 12 + 11) (I := I23) (by omega))
  have g1_24 : S24.2.1 x 1 = .ref (x + 12) := by rw [p24.2.2.2.1 1 (by decide)]; exact g1_23
  have v2_24 : I23 x 2 = 0 := v2_23
  have lp_24 : LayP S24 (x + 23) := lp_23.eb (p24.b (lo := x + 23) (hi := x + 23 + 57) (I := I23) (by omega))
  have g3_24 : S24.2.1 x 3 = .ref (x + 23) := by rw [p24.2.2.2.1 3 (by decide)]; exact g3_23
  have lt_24 : LayT S24 (x + 80) := lt_23.eb (p24.b (lo := x + 80) (hi := x + 80 + 2) (I := I23) (by omega))
  have it_24 : ∀ j, I23 (x + 80 + 1) j = 0 := fun j => by rw [((p24.b (lo := x + 80 + 1) (hi := x + 80 + 1 + 1) (I := I23) (by omega)) (x + 80 + 1) (by omega) (by omega)).2.2]; exact it_23 j
  have i8_24 : I23 (x + 80) 1 = 0 := by rw [((p24.b (lo := x + 80) (hi := x + 80 + 1) (I := I23) (by omega)) (x + 80) (by omega) (by omega)).2.2]; exact i8_23
  have g4_24 : S24.2.1 x 4 = .ref (x + 80) := by rw [p24.2.2.2.1 4 (by decide)]; exact g4_23
  have lr_24 : LayRd S24 (x + 82) := lr_23.eb (p24.b (lo := x + 82) (hi := x + 82 + 2) (I := I23) (by omega))
  have g5_24 : S24.2.1 x 5 = .ref (x + 82) := by rw [p24.2.2.2.1 5 (by decide)]; exact g5_23
  have c84_24 : S24.1 (x + 84) = some (24, 14) := by rw [p24.1]; exact c84_23
  have g6_24 : S24.2.1 x 6 = .ref (x + 84) := by rw [p24.2.2.2.1 6 (by decide)]; exact g6_23
  have c85_24 : S24.1 (x + 85) = some (25, 4) := by rw [p24.1]; exact c85_23
  have g7_24 : S24.2.1 x 7 = .ref (x + 85) := by rw [p24.2.2.2.1 7 (by decide)]; exact g7_23
  have c86_24 : S24.1 (x + 86) = some (26, 5) := by rw [p24.1]; exact c86_23
  have g8_24 : S24.2.1 x 8 = .ref (x + 86) := by rw [p24.2.2.2.1 8 (by decide)]; exact g8_23
  have c87_24 : S24.1 (x + 87) = some (20, 60) := by rw [p24.1]; exact c87_23
  have i87_24 : ∀ j, I23 (x + 87) j = 0 := fun j => by rw [((p24.b (lo := x + 87) (hi := x + 87 + 1) (I := I23) (by omega)) (x + 87) (by omega) (by omega)).2.2]; exact i87_23 j
  have eB_24 : EqB 0 x S I S24 I23 := eB_23.tr (p24.b (lo := 0) (hi := x) (I := I23) (by omega))
  clear h0_23 lv0_23 iv0_23 g0_23 lv1_23 iv1_23 g1_23 v2_23 lp_23 g3_23 lt_23 it_23 i8_23 g4_23 lr_23 g5_23 c84_23 g6_23 c85_23 g7_23 c86_23 g8_23 c87_23 i87_23 eB_23
  have z24 : S24.2.2 = x + 88 := by rw [p24.2.1]; exact z23
  clear z23
  have g9_24 : S24.2.1 x 9 = .ref (x + 87) := p24.2.2.1
  refine v_aload_n (n := 98) dX10_init_97 rfl rfl rfl ?_
  refine v_iconst (n := 99) (v := 0) dX10_init_98 c_0 rfl ?_
  refine v_putI (n := 102) f_X10_66 rfl (Or.inl rfl) h0_24 dX10_init_99 rfl ?_
  obtain ⟨I25, hI25⟩ : ∃ I9, I9 = setI I23 x 10 0 := ⟨_, rfl⟩
  rw [← hI25]
  have h0_25 : S24.1 (x) = some (9, 0) := h0_24
  have lv0_25 : LayV S24 (x + 1) := lv0_24.eb (show EqB (x + 1) (x + 1 + 11) S24 I23 S24 I25 from by rw [hI25]; exact setI_b (by omega))
  have iv0_25 : IniV S24 I25 (x + 1) := iv0_24.eb (show EqB (x + 1) (x + 1 + 11) S24 I23 S24 I25 from by rw [hI25]; exact setI_b (by omega))
  have g0_25 : S24.2.1 x 0 = .ref (x + 1) := g0_24
  have lv1_25 : LayV S24 (x + 12) := lv1_24.eb (show EqB (x + 12) (x + 12 + 11) S24 I23 S24 I25 from by rw [hI25]; exact setI_b (by omega))
  have iv1_25 : IniV S24 I25 (x + 12) := iv1_24.eb (show EqB (x + 12) (x + 12 + 11) S24 I23 S24 I25 from by rw [hI25]; exact setI_b (by omega))
  have g1_25 : S24.2.1 x 1 = .ref (x + 12) := g1_24
  have v2_25 : I25 x 2 = 0 := by rw [hI25, sI_k (by decide)]; exact v2_24
  have lp_25 : LayP S24 (x + 23) := lp_24.eb (show EqB (x + 23) (x + 23 + 57) S24 I23 S24 I25 from by rw [hI25]; exact setI_b (by omega))
  have g3_25 : S24.2.1 x 3 = .ref (x + 23) := g3_24
  have lt_25 : LayT S24 (x + 80) := lt_24.eb (show EqB (x + 80) (x + 80 + 2) S24 I23 S24 I25 from by rw [hI25]; exact setI_b (by omega))
  have it_25 : ∀ j, I25 (x + 80 + 1) j = 0 := fun j => by rw [((show EqB (x + 80 + 1) (x + 80 + 1 + 1) S24 I23 S24 I25 from by rw [hI25]; exact setI_b (by omega)) (x + 80 + 1) (by omega) (by omega)).2.2]; exact it_24 j
  have i8_25 : I25 (x + 80) 1 = 0 := by rw [((show EqB (x + 80) (x + 80 + 1) S24 I23 S24 I25 from by rw [hI25]; exact setI_b (by omega)) (x + 80) (by omega) (by omega)).2.2]; exact i8_24
  have g4_25 : S24.2.1 x 4 = .ref (x + 80) := g4_24
  have lr_25 : LayRd S24 (x + 82) := lr_24.eb (show EqB (x + 82) (x + 82 + 2) S24 I23 S24 I25 from by rw [hI25]; exact setI_b (by omega))
  have g5_25 : S24.2.1 x 5 = .ref (x + 82) := g5_24
  have c84_25 : S24.1 (x + 84) = some (24, 14) := c84_24
  have g6_25 : S24.2.1 x 6 = .ref (x + 84) := g6_24
  have c85_25 : S24.1 (x + 85) = some (25, 4) := c85_24
  have g7_25 : S24.2.1 x 7 = .ref (x + 85) := g7_24
  have c86_25 : S24.1 (x + 86) = some (26, 5) := c86_24
  have g8_25 : S24.2.1 x 8 = .ref (x + 86) := g8_24
  have c87_25 : S24.1 (x + 87) = some (20, 60) := c87_24
  have i87_25 : ∀ j, I25 (x + 87) j = 0 := fun j => by rw [((show EqB (x + 87) (x + 87 + 1) S24 I23 S24 I25 from by rw [hI25]; exact setI_b (by omega)) (x + 87) (by omega) (by omega)).2.2]; exact i87_24 j
  have g9_25 : S24.2.1 x 9 = .ref (x + 87) := g9_24
  have eB_25 : EqB 0 x S I S24 I25 := eB_24.tr (show EqB (0) (x) S24 I23 S24 I25 from by rw [hI25]; exact setI_b (by omega))
  clear h0_24 lv0_24 iv0_24 g0_24 lv1_24 iv1_24 g1_24 v2_24 lp_24 g3_24 lt_24 it_24 i8_24 g4_24 lr_24 g5_24 c84_24 g6_24 c85_24 g7_24 c86_24 g8_24 c87_24 i87_24 g9_24 eB_24
  have v10_25 : I25 x 10 = 0 := by rw [hI25, sI_s]
  refine v_iconst (n := 103) (v := 0) dX10_init_102 c_0 rfl ?_
  refine v_istore_n (n := 104) (al' := [.ref x, .int 0]) dX10_init_103 rfl rfl rfl rfl ?_
  refine v_iload_n (n := 105) dX10_init_104 rfl rfl rfl ?_
  refine v_iconst (n := 106) (v := 4) dX10_init_105 c_4 rfl ?_
  refine v_icmp_ge (n := 109) (tgt := 128) dX10_init_106 (by decide) rfl (fun z => absurd z (by decide)) (fun _ => ?_)
  refine v_aload_n (n := 110) dX10_init_109 rfl rfl rfl ?_
  refine v_getR (n := 113) f_X10_52 rfl h0_25 g7_25 dX10_init_110 rfl ?_
  refine v_iload_n (n := 114) dX10_init_113 rfl rfl rfl ?_
  refine v_nO (n := 117) (ci := 5) (N := 3) (e := x + 88) z24 (by decide) rfl cl_X10_50 in_X6 ini_X6 ⟨l8 rfl, l8 rfl⟩ dX10_init_114 rfl (fun S26 I26 w26 => ?_)
  have h0_26 : S26.1 (x) = some (9, 0) := by rw [((w26.b (lo := x) (hi := x + 1) (by omega)) (x) (by omega) (by omega)).1]; exact h0_25
  have lv0_26 : LayV S26 (x + 1) := lv0_25.eb (w26.b (lo := x + 1) (hi := x + 1 + 11) (by omega))
  have iv0_26 : IniV S26 I26 (x + 1) := iv0_25.eb (w26.b (lo := x + 1) (hi := x + 1 + 11) (by omega))
  have g0_26 : S26.2.1 x 0 = .ref (x + 1) := by rw [((w26.b (lo := x) (hi := x + 1) (by omega)) (x) (by omega) (by omega)).2.1]; exact g0_25
  have lv1_26 : LayV S26 (x + 12) := lv1_25.eb (w26.b (lo := x + 12) (hi := x + 12 + 11) (by omega))
  have iv1_26 : IniV S26 I26 (x + 12) := iv1_25.eb (w26.b (lo := x + 12) (hi := x + 12 + 11) (by omega))
  have g1_26 : S26.2.1 x 1 = .ref (x + 12) := by rw [((w26.b (lo := x) (hi := x + 1) (by omega)) (x) (by omega) (by omega)).2.1]; exact g1_25
  have v2_26 : I26 x 2 = 0 := by rw [((w26.b (lo := x) (hi := x + 1) (by omega)) (x) (by omega) (by omega)).2.2]; exact v2_25
  have lp_26 : LayP S26 (x + 23) := lp_25.eb (w26.b (lo := x + 23) (hi := x + 23 + 57) (by omega))
  have g3_26 : S26.2.1 x 3 = .ref (x + 23) := by rw [((w26.b (lo := x) (hi := x + 1) (by omega)) (x) (by omega) (by omega)).2.1]; exact g3_25
  have lt_26 : LayT S26 (x + 80) := lt_25.eb (w26.b (lo := x + 80) (hi := x + 80 + 2) (by omega))
  have it_26 : ∀ j, I26 (x + 80 + 1) j = 0 := fun j => by rw [((w26.b (lo := x + 80 + 1) (hi := x + 80 + 1 + 1) (by omega)) (x + 80 + 1) (by omega) (by omega)).2.2]; exact it_25 j
  have i8_26 : I26 (x + 80) 1 = 0 := by rw [((w26.b (lo := x + 80) (hi := x + 80 + 1) (by omega)) (x + 80) (by omega) (by omega)).2.2]; exact i8_25
  have g4_26 : S26.2.1 x 4 = .ref (x + 80) := by rw [((w26.b (lo := x) (hi := x + 1) (by omega)) (x) (by omega) (by omega)).2.1]; exact g4_25
  have lr_26 : LayRd S26 (x + 82) := lr_25.eb (w26.b (lo := x + 82) (hi := x + 82 + 2) (by omega))
  have g5_26 : S26.2.1 x 5 = .ref (x + 82) := by rw [((w26.b (lo := x) (hi := x + 1) (by omega)) (x) (by omega) (by omega)).2.1]; exact g5_25
  have c84_26 : S26.1 (x + 84) = some (24, 14) := by rw [((w26.b (lo := x + 84) (hi := x + 84 + 1) (by omega)) (x + 84) (by omega) (by omega)).1]; exact c84_25
  have g6_26 : S26.2.1 x 6 = .ref (x + 84) := by rw [((w26.b (lo := x) (hi := x + 1) (by omega)) (x) (by omega) (by omega)).2.1]; exact g6_25
  have c85_26 : S26.1 (x + 85) = some (25, 4) := by rw [((w26.b (lo := x + 85) (hi := x + 85 + 1) (by omega)) (x + 85) (by omega) (by omega)).1]; exact c85_25
  have g7_26 : S26.2.1 x 7 = .ref (x + 85) := by rw [((w26.b (lo := x) (hi := x + 1) (by omega)) (x) (by omega) (by omega)).2.1]; exact g7_25
  have c86_26 : S26.1 (x + 86) = some (26, 5) := by rw [((w26.b (lo := x + 86) (hi := x + 86 + 1) (by omega)) (x + 86) (by omega) (by omega)).1]; exact c86_25
  have g8_26 : S26.2.1 x 8 = .ref (x + 86) := by rw [((w26.b (lo := x) (hi := x + 1) (by omega)) (x) (by omega) (by omega)).2.1]; exact g8_25
  have c87_26 : S26.1 (x + 87) = some (20, 60) := by rw [((w26.b (lo := x + 87) (hi := x + 87 + 1) (by omega)) (x + 87) (by omega) (by omega)).1]; exact c87_25
  have i87_26 : ∀ j, I26 (x + 87) j = 0 := fun j => by rw [((w26.b (lo := x + 87) (hi := x + 87 + 1) (by omega)) (x + 87) (by omega) (by omega)).2.2]; exact i87_25 j
  have g9_26 : S26.2.1 x 9 = .ref (x + 87) := by rw [((w26.b (lo := x) (hi := x + 1) (by omega)) (x) (by omega) (by omega)).2.1]; exact g9_25
  have v10_26 : I26 x 10 = 0 := by rw [((w26.b (lo := x) (hi := x + 1) (by omega)) (x) (by omega) (by omega)).2.2]; exact v10_25
  have eB_26 : EqB 0 x S I S26 I26 := eB_25.tr (w26.b (lo := 0) (hi := x) (by omega))
  clear h0_25 lv0_25 iv0_25 g0_25 lv1_25 iv1_25 g1_25 v2_25 lp_25 g3_25 lt_25 it_25 i8_25 g4_25 lr_25 g5_25 c84_25 g6_25 c85_25 g7_25 c86_25 g8_25 c87_25 i87_25 g9_25 v10_25 eB_25
  refine v_dup (n := 118) dX10_init_117 rfl rfl ?_
  refine v_callIN (n := 121) (host := "SnowOwed") mc_X6_init (by decide) iv_X6_init rfl (k_X6_init (ro := ro) w26.1 w26.2.1) ⟨rfl, rfl⟩ (l8 rfl) ⟨l8 rfl, l8 rfl⟩ rfl rfl (l8 rfl) dX10_init_118 rfl ?_
  rintro _ S27 I27 ⟨rfl, m27⟩
  have h0_27 : S27.1 (x) = some (9, 0) := by rw [((m27.b (lo := x) (hi := x + 1) (by omega)) (x) (by omega) (by omega)).1]; exact h0_26
  have lv0_27 : LayV S27 (x + 1) := lv0_26.eb (m27.b (lo := x + 1) (hi := x + 1 + 11) (by omega))
  have iv0_27 : IniV S27 I27 (x + 1) := iv0_26.eb (m27.b (lo := x + 1) (hi := x + 1 + 11) (by omega))
  have g0_27 : S27.2.1 x 0 = .ref (x + 1) := by rw [((m27.b (lo := x) (hi := x + 1) (by omega)) (x) (by omega) (by omega)).2.1]; exact g0_26
  have lv1_27 : LayV S27 (x + 12) := lv1_26.eb (m27.b (lo := x + 12) (hi := x + 12 + 11) (by omega))
  have iv1_27 : IniV S27 I27 (x + 12) := iv1_26.eb (m27.b (lo := x + 12) (hi := x + 12 + 11) (by omega))
  have g1_27 : S27.2.1 x 1 = .ref (x + 12) := by rw [((m27.b (lo := x) (hi := x + 1) (by omega)) (x) (by omega) (by omega)).2.1]; exact g1_26
  have v2_27 : I27 x 2 = 0 := by rw [((m27.b (lo := x) (hi := x + 1) (by omega)) (x) (by omega) (by omega)).2.2]; exact v2_26
  have lp_27 : LayP S27 (x + 23) := lp_26.eb (m27.b (lo := x + 23) (hi := x + 23 + 57) (by omega))
  have g3_27 : S27.2.1 x 3 = .ref (x + 23) := by rw [((m27.b (lo := x) (hi := x + 1) (by omega)) (x) (by omega) (by omega)).2.1]; exact g3_26
  have lt_27 : LayT S27 (x + 80) := lt_26.eb (m27.b (lo := x + 80) (hi := x + 80 + 2) (by omega))
  have it_27 : ∀ j, I27 (x + 80 + 1) j = 0 := fun j => by rw [((m27.b (lo := x + 80 + 1) (hi := x + 80 + 1 + 1) (by omega)) (x + 80 + 1) (by omega) (by omega)).2.2]; exact it_26 j
  have i8_27 : I27 (x + 80) 1 = 0 := by rw [((m27.b (lo := x + 80) (hi := x + 80 + 1) (by omega)) (x + 80) (by omega) (by omega)).2.2]; exact i8_26
  have g4_27 : S27.2.1 x 4 = .ref (x + 80) := by rw [((m27.b (lo := x) (hi := x + 1) (by omega)) (x) (by omega) (by omega)).2.1]; exact g4_26
  have lr_27 : LayRd S27 (x + 82) := lr_26.eb (m27.b (lo := x + 82) (hi := x + 82 + 2) (by omega))
  have g5_27 : S27.2.1 x 5 = .ref (x + 82) := by rw [((m27.b (lo := x) (hi := x + 1) (by omega)) (x) (by omega) (by omega)).2.1]; exact g5_26
  have c84_27 : S27.1 (x + 84) = some (24, 14) := by rw [((m27.b (lo := x + 84) (hi := x + 84 + 1) (by omega)) (x + 84) (by omega) (by omega)).1]; exact c84_26
  have g6_27 : S27.2.1 x 6 = .ref (x + 84) := by rw [((m27.b (lo := x) (hi := x + 1) (by omega)) (x) (by omega) (by omega)).2.1]; exact g6_26
  have c85_27 : S27.1 (x + 85) = some (25, 4) := by rw [((m27.b (lo := x + 85) (hi := x + 85 + 1) (by omega)) (x + 85) (by omega) (by omega)).1]; exact c85_26
  have g7_27 : S27.2.1 x 7 = .ref (x + 85) := by rw [((m27.b (lo := x) (hi := x + 1) (by omega)) (x) (by omega) (by omega)).2.1]; exact g7_26
  have c86_27 : S27.1 (x + 86) = some (26, 5) := by rw [((m27.b (lo := x + 86) (hi := x + 86 + 1) (by omega)) (x + 86) (by omega) (by omega)).1]; exact c86_26
  have g8_27 : S27.2.1 x 8 = .ref (x + 86) := by rw [((m27.b (lo := x) (hi := x + 1) (by omega)) (x) (by omega) (by omega)).2.1]; exact g8_26
  have c87_27 : S27.1 (x + 87) = some (20, 60) := by rw [((m27.b (lo := x + 87) (hi := x + 87 + 1) (by omega)) (x + 87) (by omega) (by omega)).1]; exact c87_26
  have i87_27 : ∀ j, I27 (x + 87) j = 0 := fun j => by rw [((m27.b (lo := x + 87) (hi := x + 87 + 1) (by omega)) (x + 87) (by omega) (by omega)).2.2]; exact i87_26 j
  have g9_27 : S27.2.1 x 9 = .ref (x + 87) := by rw [((m27.b (lo := x) (hi := x + 1) (by omega)) (x) (by omega) (by omega)).2.1]; exact g9_26
  have v10_27 : I27 x 10 = 0 := by rw [((m27.b (lo := x) (hi := x + 1) (by omega)) (x) (by omega) (by omega)).2.2]; exact v10_26
  have eB_27 : EqB 0 x S I S27 I27 := eB_26.tr (m27.b (lo := 0) (hi := x) (by omega))
  clear h0_26 lv0_26 iv0_26 g0_26 lv1_26 iv1_26 g1_26 v2_26 lp_26 g3_26 lt_26 it_26 i8_26 g4_26 lr_26 g5_26 c84_26 g6_26 c85_26 g7_26 c86_26 g8_26 c87_26 i87_26 g9_26 v10_26 eB_26
  have z27 : S27.2.2 = x + 90 := by rw [m27.1.1]; rfl
  clear z24
  have ls0_27 : LaySh S27 (x + 88) := ⟨m27.1.2.1, by rw [m27.1.2.2.1]; rfl, (m27.2.1 0 _ rfl).1⟩
  have is0_27 : IniSh I27 (x + 88) := ⟨by rw [m27.1.2.2.2.1]; rfl, by rw [m27.1.2.2.2.1]; rfl, fun j => by rw [(m27.2.1 0 _ rfl).2.2]⟩
  refine v_aO (n := 122) (t := 5) (j := 0) ⟨by decide, by decide⟩ c85_27 (ix_lit rfl rfl rfl) (ls0_27).s dX10_init_121 rfl (fun S28 p28 => ?_)
  have lv0_28 : LayV S28 (x + 1) := lv0_27.eb (p28.b (lo := x + 1) (hi := x + 1 + 11) (I := I27) (by omega))
  have iv0_28 : IniV S28 I27 (x + 1) := iv0_27.eb (p28.b (lo := x + 1) (hi := x + 1 + 11) (I := I27) (by omega))
  have g0_28 : S28.2.1 x 0 = .ref (x + 1) := by rw [((p28.b (lo := x) (hi := x + 1) (I := I27) (by omega)) (x) (by omega) (by omega)).2.1]; exact g0_27
  have lv1_28 : LayV S28 (x + 12) := lv1_27.eb (p28.b (lo := x + 12) (hi := x + 12 + 11) (I := I27) (by omega))
  have iv1_28 : IniV S28 I27 (x + 12) := iv1_27.eb (p28.b (lo := x + 12) (hi := x + 12 + 11) (I := I27) (by omega))
  have g1_28 : S28.2.1 x 1 = .ref (x + 12) := by rw [((p28.b (lo := x) (hi := x + 1) (I := I27) (by omega)) (x) (by omega) (by omega)).2.1]; exact g1_27
  have v2_28 : I27 x 2 = 0 := by rw [((p28.b (lo := x) (hi := x + 1) (I := I27) (by omega)) (x) (by omega) (by omega)).2.2]; exact v2_27
  have lp_28 : LayP S28 (x + 23) := lp_27.eb (p28.b (lo := x + 23) (hi := x + 23 + 57) (I := I27) (by omega))
  have g3_28 : S28.2.1 x 3 = .ref (x + 23) := by rw [((p28.b (lo := x) (hi := x + 1) (I := I27) (by omega)) (x) (by omega) (by omega)).2.1]; exact g3_27
  have lt_28 : LayT S28 (x + 80) := lt_27.eb (p28.b (lo := x + 80) (hi := x + 80 + 2) (I := I27) (by omega))
  have it_28 : ∀ j, I27 (x + 80 + 1) j = 0 := fun j => by rw [((p28.b (lo := x + 80 + 1) (hi := x + 80 + 1 + 1) (I := I27) (by omega)) (x + 80 + 1) (by omega) (by omega)).2.2]; exact it_27 j
  have i8_28 : I27 (x + 80) 1 = 0 := by rw [((p28.b (lo := x + 80) (hi := x + 80 + 1) (I := I27) (by omega)) (x + 80) (by omega) (by omega)).2.2]; exact i8_27
  have g4_28 : S28.2.1 x 4 = .ref (x + 80) := by rw [((p28.b (lo := x) (hi := x + 1) (I := I27) (by omega)) (x) (by omega) (by omega)).2.1]; exact g4_27
  have lr_28 : LayRd S28 (x + 82) := lr_27.eb (p28.b (lo := x + 82) (hi := x + 82 + 2) (I := I27) (by omega))
  have g5_28 : S28.2.1 x 5 = .ref (x + 82) := by rw [((p28.b (lo := x) (hi := x + 1) (I := I27) (by omega)) (x) (by omega) (by omega)).2.1]; exact g5_27
  have g6_28 : S28.2.1 x 6 = .ref (x + 84) := by rw [((p28.b (lo := x) (hi := x + 1) (I := I27) (by omega)) (x) (by omega) (by omega)).2.1]; exact g6_27
  have g7_28 : S28.2.1 x 7 = .ref (x + 85) := by rw [((p28.b (lo := x) (hi := x + 1) (I := I27) (by omega)) (x) (by omega) (by omega)).2.1]; exact g7_27
  have g8_28 : S28.2.1 x 8 = .ref (x + 86) := by rw [((p28.b (lo := x) (hi := x + 1) (I := I27) (by omega)) (x) (by omega) (by omega)).2.1]; exact g8_27
  have i87_28 : ∀ j, I27 (x + 87) j = 0 := fun j => by rw [((p28.b (lo := x + 87) (hi := x + 87 + 1) (I := I27) (by omega)) (x + 87) (by omega) (by omega)).2.2]; exact i87_27 j
  have g9_28 : S28.2.1 x 9 = .ref (x + 87) := by rw [((p28.b (lo := x) (hi := x + 1) (I := I27) (by omega)) (x) (by omega) (by omega)).2.1]; exact g9_27
  have v10_28 : I27 x 10 = 0 := by rw [((p28.b (lo := x) (hi := x + 1) (I := I27) (by omega)) (x) (by omega) (by omega)).2.2]; exact v10_27
  have ls0_28 : LaySh S28 (x + 88) := ls0_27.eb (p28.b (lo := x + 88) (hi := x + 88 + 2) (I := I27) (by omega))
  have is0_28 : IniSh I27 (x + 88) := is0_27.eb (p28.b (lo := x + 88) (hi := x + 88 + 2) (I := I27) (by omega))
  have eB_28 : EqB 0 x S I S28 I27 := eB_27.tr (p28.b (lo := 0) (hi := x) (I := I27) (by omega))
  clear lv0_27 iv0_27 g0_27 lv1_27 iv1_27 g1_27 v2_27 lp_27 g3_27 lt_27 it_27 i8_27 g4_27 lr_27 g5_27 g6_27 g7_27 g8_27 i87_27 g9_27 v10_27 ls0_27 is0_27 eB_27
  have h0_28 : S28.1 (x) = some (9, 0) := by rw [p28.1]; exact h0_27
  have c84_28 : S28.1 (x + 84) = some (24, 14) := by rw [p28.1]; exact c84_27
  have c85_28 : S28.1 (x + 85) = some (25, 4) := by rw [p28.1]; exact c85_27
  have c86_28 : S28.1 (x + 86) = some (26, 5) := by rw [p28.1]; exact c86_27
  have c87_28 : S28.1 (x + 87) = some (20, 60) := by rw [p28.1]; exact c87_27
  clear h0_27 c84_27 c85_27 c86_27 c87_27
  have z28 : S28.2.2 = x + 90 := by rw [p28.2.1]; exact z27
  clear z27
  have a85x0_28 : S28.2.1 (x + 85) 0 = .ref (x + 88) := p28.2.2.1
  refine v_iinc (n := 125) (v := 1) (al' := [.ref x, .int 1]) dX10_init_122 rfl (by decide) rfl rfl rfl ?_
  refine v_goto (tgt := 104) dX10_init_125 (by decide) ?_
  refine v_iload_n (n := 105) dX10_init_104 rfl rfl rfl ?_
  refine v_iconst (n := 106) (v := 4) dX10_init_105 c_4 rfl ?_
  refine v_icmp_ge (n := 109) (tgt := 128) dX10_init_106 (by decide) rfl (fun z => absurd z (by decide)) (fun _ => ?_)
  refine v_aload_n (n := 110) dX10_init_109 rfl rfl rfl ?_
  refine v_getR (n := 113) f_X10_52 rfl h0_28 g7_28 dX10_init_110 rfl ?_
  refine v_iload_n (n := 114) dX10_init_113 rfl rfl rfl ?_
  refine v_nO (n := 117) (ci := 5) (N := 3) (e := x + 90) z28 (by decide) rfl cl_X10_50 in_X6 ini_X6 ⟨l8 rfl, l8 rfl⟩ dX10_init_114 rfl (fun S29 I29 w29 => ?_)
  have lv0_29 : LayV S29 (x + 1) := lv0_28.eb (w29.b (lo := x + 1) (hi := x + 1 + 11) (by omega))
  have iv0_29 : IniV S29 I29 (x + 1) := iv0_28.eb (w29.b (lo := x + 1) (hi := x + 1 + 11) (by omega))
  have g0_29 : S29.2.1 x 0 = .ref (x + 1) := by rw [((w29.b (lo := x) (hi := x + 1) (by omega)) (x) (by omega) (by omega)).2.1]; exact g0_28
  have lv1_29 : LayV S29 (x + 12) := lv1_28.eb (w29.b (lo := x + 12) (hi := x + 12 + 11) (by omega))
  have iv1_29 : IniV S29 I29 (x + 12) := iv1_28.eb (w29.b (lo := x + 12) (hi := x + 12 + 11) (by omega))
  have g1_29 : S29.2.1 x 1 = .ref (x + 12) := by rw [((w29.b (lo := x) (hi := x + 1) (by omega)) (x) (by omega) (by omega)).2.1]; exact g1_28
  have v2_29 : I29 x 2 = 0 := by rw [((w29.b (lo := x) (hi := x + 1) (by omega)) (x) (by omega) (by omega)).2.2]; exact v2_28
  have lp_29 : LayP S29 (x + 23) := lp_28.eb (w29.b (lo := x + 23) (hi := x + 23 + 57) (by omega))
  have g3_29 : S29.2.1 x 3 = .ref (x + 23) := by rw [((w29.b (lo := x) (hi := x + 1) (by omega)) (x) (by omega) (by omega)).2.1]; exact g3_28
  have lt_29 : LayT S29 (x + 80) := lt_28.eb (w29.b (lo := x + 80) (hi := x + 80 + 2) (by omega))
  have it_29 : ∀ j, I29 (x + 80 + 1) j = 0 := fun j => by rw [((w29.b (lo := x + 80 + 1) (hi := x + 80 + 1 + 1) (by omega)) (x + 80 + 1) (by omega) (by omega)).2.2]; exact it_28 j
  have i8_29 : I29 (x + 80) 1 = 0 := by rw [((w29.b (lo := x + 80) (hi := x + 80 + 1) (by omega)) (x + 80) (by omega) (by omega)).2.2]; exact i8_28
  have g4_29 : S29.2.1 x 4 = .ref (x + 80) := by rw [((w29.b (lo := x) (hi := x + 1) (by omega)) (x) (by omega) (by omega)).2.1]; exact g4_28
  have lr_29 : LayRd S29 (x + 82) := lr_28.eb (w29.b (lo := x + 82) (hi := x + 82 + 2) (by omega))
  have g5_29 : S29.2.1 x 5 = .ref (x + 82) := by rw [((w29.b (lo := x) (hi := x + 1) (by omega)) (x) (by omega) (by omega)).2.1]; exact g5_28
  have g6_29 : S29.2.1 x 6 = .ref (x + 84) := by rw [((w29.b (lo := x) (hi := x + 1) (by omega)) (x) (by omega) (by omega)).2.1]; exact g6_28
  have g7_29 : S29.2.1 x 7 = .ref (x + 85) := by rw [((w29.b (lo := x) (hi := x + 1) (by omega)) (x) (by omega) (by omega)).2.1]; exact g7_28
  have g8_29 : S29.2.1 x 8 = .ref (x + 86) := by rw [((w29.b (lo := x) (hi := x + 1) (by omega)) (x) (by omega) (by omega)).2.1]; exact g8_28
  have i87_29 : ∀ j, I29 (x + 87) j = 0 := fun j => by rw [((w29.b (lo := x + 87) (hi := x + 87 + 1) (by omega)) (x + 87) (by omega) (by omega)).2.2]; exact i87_28 j
  have g9_29 : S29.2.1 x 9 = .ref (x + 87) := by rw [((w29.b (lo := x) (hi := x + 1) (by omega)) (x) (by omega) (by omega)).2.1]; exact g9_28
  have v10_29 : I29 x 10 = 0 := by rw [((w29.b (lo := x) (hi := x + 1) (by omega)) (x) (by omega) (by omega)).2.2]; exact v10_28
  have ls0_29 : LaySh S29 (x + 88) := ls0_28.eb (w29.b (lo := x + 88) (hi := x + 88 + 2) (by omega))
  have is0_29 : IniSh I29 (x + 88) := is0_28.eb (w29.b (lo := x + 88) (hi := x + 88 + 2) (by omega))
  have h0_29 : S29.1 (x) = some (9, 0) := by rw [((w29.b (lo := x) (hi := x + 1) (by omega)) (x) (by omega) (by omega)).1]; exact h0_28
  have c84_29 : S29.1 (x + 84) = some (24, 14) := by rw [((w29.b (lo := x + 84) (hi := x + 84 + 1) (by omega)) (x + 84) (by omega) (by omega)).1]; exact c84_28
  have c85_29 : S29.1 (x + 85) = some (25, 4) := by rw [((w29.b (lo := x + 85) (hi := x + 85 + 1) (by omega)) (x + 85) (by omega) (by omega)).1]; exact c85_28
  have c86_29 : S29.1 (x + 86) = some (26, 5) := by rw [((w29.b (lo := x + 86) (hi := x + 86 + 1) (by omega)) (x + 86) (by omega) (by omega)).1]; exact c86_28
  have c87_29 : S29.1 (x + 87) = some (20, 60) := by rw [((w29.b (lo := x + 87) (hi := x + 87 + 1) (by omega)) (x + 87) (by omega) (by omega)).1]; exact c87_28
  have a85x0_29 : S29.2.1 (x + 85) 0 = .ref (x + 88) := by rw [((w29.b (lo := x + 85) (hi := x + 85 + 1) (by omega)) (x + 85) (by omega) (by omega)).2.1]; exact a85x0_28
  have eB_29 : EqB 0 x S I S29 I29 := eB_28.tr (w29.b (lo := 0) (hi := x) (by omega))
  clear lv0_28 iv0_28 g0_28 lv1_28 iv1_28 g1_28 v2_28 lp_28 g3_28 lt_28 it_28 i8_28 g4_28 lr_28 g5_28 g6_28 g7_28 g8_28 i87_28 g9_28 v10_28 ls0_28 is0_28 h0_28 c84_28 c85_28 c86_28 c87_28 a85x0_28 eB_28
  refine v_dup (n := 118) dX10_init_117 rfl rfl ?_
  refine v_callIN (n := 121) (host := "SnowOwed") mc_X6_init (by decide) iv_X6_init rfl (k_X6_init (ro := ro) w29.1 w29.2.1) ⟨rfl, rfl⟩ (l8 rfl) ⟨l8 rfl, l8 rfl⟩ rfl rfl (l8 rfl) dX10_init_118 rfl ?_
  rintro _ S30 I30 ⟨rfl, m30⟩
  have lv0_30 : LayV S30 (x + 1) := lv0_29.eb (m30.b (lo := x + 1) (hi := x + 1 + 11) (by omega))
  have iv0_30 : IniV S30 I30 (x + 1) := iv0_29.eb (m30.b (lo := x + 1) (hi := x + 1 + 11) (by omega))
  have g0_30 : S30.2.1 x 0 = .ref (x + 1) := by rw [((m30.b (lo := x) (hi := x + 1) (by omega)) (x) (by omega) (by omega)).2.1]; exact g0_29
  have lv1_30 : LayV S30 (x + 12) := lv1_29.eb (m30.b (lo := x + 12) (hi := x + 12 + 11) (by omega))
  have iv1_30 : IniV S30 I30 (x + 12) := iv1_29.eb (m30.b (lo := x + 12) (hi := x + 12 + 11) (by omega))
  have g1_30 : S30.2.1 x 1 = .ref (x + 12) := by rw [((m30.b (lo := x) (hi := x + 1) (by omega)) (x) (by omega) (by omega)).2.1]; exact g1_29
  have v2_30 : I30 x 2 = 0 := by rw [((m30.b (lo := x) (hi := x + 1) (by omega)) (x) (by omega) (by omega)).2.2]; exact v2_29
  have lp_30 : LayP S30 (x + 23) := lp_29.eb (m30.b (lo := x + 23) (hi := x + 23 + 57) (by omega))
  have g3_30 : S30.2.1 x 3 = .ref (x + 23) := by rw [((m30.b (lo := x) (hi := x + 1) (by omega)) (x) (by omega) (by omega)).2.1]; exact g3_29
  have lt_30 : LayT S30 (x + 80) := lt_29.eb (m30.b (lo := x + 80) (hi := x + 80 + 2) (by omega))
  have it_30 : ∀ j, I30 (x + 80 + 1) j = 0 := fun j => by rw [((m30.b (lo := x + 80 + 1) (hi := x + 80 + 1 + 1) (by omega)) (x + 80 + 1) (by omega) (by omega)).2.2]; exact it_29 j
  have i8_30 : I30 (x + 80) 1 = 0 := by rw [((m30.b (lo := x + 80) (hi := x + 80 + 1) (by omega)) (x + 80) (by omega) (by omega)).2.2]; exact i8_29
  have g4_30 : S30.2.1 x 4 = .ref (x + 80) := by rw [((m30.b (lo := x) (hi := x + 1) (by omega)) (x) (by omega) (by omega)).2.1]; exact g4_29
  have lr_30 : LayRd S30 (x + 82) := lr_29.eb (m30.b (lo := x + 82) (hi := x + 82 + 2) (by omega))
  have g5_30 : S30.2.1 x 5 = .ref (x + 82) := by rw [((m30.b (lo := x) (hi := x + 1) (by omega)) (x) (by omega) (by omega)).2.1]; exact g5_29
  have g6_30 : S30.2.1 x 6 = .ref (x + 84) := by rw [((m30.b (lo := x) (hi := x + 1) (by omega)) (x) (by omega) (by omega)).2.1]; exact g6_29
  have g7_30 : S30.2.1 x 7 = .ref (x + 85) := by rw [((m30.b (lo := x) (hi := x + 1) (by omega)) (x) (by omega) (by omega)).2.1]; exact g7_29
  have g8_30 : S30.2.1 x 8 = .ref (x + 86) := by rw [((m30.b (lo := x) (hi := x + 1) (by omega)) (x) (by omega) (by omega)).2.1]; exact g8_29
  have i87_30 : ∀ j, I30 (x + 87) j = 0 := fun j => by rw [((m30.b (lo := x + 87) (hi := x + 87 + 1) (by omega)) (x + 87) (by omega) (by omega)).2.2]; exact i87_29 j
  have g9_30 : S30.2.1 x 9 = .ref (x + 87) := by rw [((m30.b (lo := x) (hi := x + 1) (by omega)) (x) (by omega) (by omega)).2.1]; exact g9_29
  have v10_30 : I30 x 10 = 0 := by rw [((m30.b (lo := x) (hi := x + 1) (by omega)) (x) (by omega) (by omega)).2.2]; exact v10_29
  have ls0_30 : LaySh S30 (x + 88) := ls0_29.eb (m30.b (lo := x + 88) (hi := x + 88 + 2) (by omega))
  have is0_30 : IniSh I30 (x + 88) := is0_29.eb (m30.b (lo := x + 88) (hi := x + 88 + 2) (by omega))
  have h0_30 : S30.1 (x) = some (9, 0) := by rw [((m30.b (lo := x) (hi := x + 1) (by omega)) (x) (by omega) (by omega)).1]; exact h0_29
  have c84_30 : S30.1 (x + 84) = some (24, 14) := by rw [((m30.b (lo := x + 84) (hi := x + 84 + 1) (by omega)) (x + 84) (by omega) (by omega)).1]; exact c84_29
  have c85_30 : S30.1 (x + 85) = some (25, 4) := by rw [((m30.b (lo := x + 85) (hi := x + 85 + 1) (by omega)) (x + 85) (by omega) (by omega)).1]; exact c85_29
  have c86_30 : S30.1 (x + 86) = some (26, 5) := by rw [((m30.b (lo := x + 86) (hi := x + 86 + 1) (by omega)) (x + 86) (by omega) (by omega)).1]; exact c86_29
  have c87_30 : S30.1 (x + 87) = some (20, 60) := by rw [((m30.b (lo := x + 87) (hi := x + 87 + 1) (by omega)) (x + 87) (by omega) (by omega)).1]; exact c87_29
  have a85x0_30 : S30.2.1 (x + 85) 0 = .ref (x + 88) := by rw [((m30.b (lo := x + 85) (hi := x + 85 + 1) (by omega)) (x + 85) (by omega) (by omega)).2.1]; exact a85x0_29
  have eB_30 : EqB 0 x S I S30 I30 := eB_29.tr (m30.b (lo := 0) (hi := x) (by omega))
  clear lv0_29 iv0_29 g0_29 lv1_29 iv1_29 g1_29 v2_29 lp_29 g3_29 lt_29 it_29 i8_29 g4_29 lr_29 g5_29 g6_29 g7_29 g8_29 i87_29 g9_29 v10_29 ls0_29 is0_29 h0_29 c84_29 c85_29 c86_29 c87_29 a85x0_29 eB_29
  have z30 : S30.2.2 = x + 92 := by rw [m30.1.1]; rfl
  clear z28
  have ls1_30 : LaySh S30 (x + 90) := ⟨m30.1.2.1, by rw [m30.1.2.2.1]; rfl, (m30.2.1 0 _ rfl).1⟩
  have is1_30 : IniSh I30 (x + 90) := ⟨by rw [m30.1.2.2.2.1]; rfl, by rw [m30.1.2.2.2.1]; rfl, fun j => by rw [(m30.2.1 0 _ rfl).2.2]⟩
  refine v_aO (n := 122) (t := 5) (j := 1) ⟨by decide, by decide⟩ c85_30 (ix_lit rfl rfl rfl) (ls1_30).s dX10_init_121 rfl (fun S31 p31 => ?_)
  have lv0_31 : LayV S31 (x + 1) := lv0_30.eb (p31.b (lo := x + 1) (hi := x + 1 + 11) (I := I30) (by omega))
  have iv0_31 : IniV S31 I30 (x + 1) := iv0_30.eb (p31.b (lo := x + 1) (hi := x + 1 + 11) (I := I30) (by omega))
  have g0_31 : S31.2.1 x 0 = .ref (x + 1) := by rw [((p31.b (lo := x) (hi := x + 1) (I := I30) (by omega)) (x) (by omega) (by omega)).2.1]; exact g0_30
  have lv1_31 : LayV S31 (x + 12) := lv1_30.eb (p31.b (lo := x + 12) (hi := x + 12 + 11) (I := I30) (by omega))
  have iv1_31 : IniV S31 I30 (x + 12) := iv1_30.eb (p31.b (lo := x + 12) (hi := x + 12 + 11) (I := I30) (by omega))
  have g1_31 : S31.2.1 x 1 = .ref (x + 12) := by rw [((p31.b (lo := x) (hi := x + 1) (I := I30) (by omega)) (x) (by omega) (by omega)).2.1]; exact g1_30
  have v2_31 : I30 x 2 = 0 := by rw [((p31.b (lo := x) (hi := x + 1) (I := I30) (by omega)) (x) (by omega) (by omega)).2.2]; exact v2_30
  have lp_31 : LayP S31 (x + 23) := lp_30.eb (p31.b (lo := x + 23) (hi := x + 23 + 57) (I := I30) (by omega))
  have g3_31 : S31.2.1 x 3 = .ref (x + 23) := by rw [((p31.b (lo := x) (hi := x + 1) (I := I30) (by omega)) (x) (by omega) (by omega)).2.1]; exact g3_30
  have lt_31 : LayT S31 (x + 80) := lt_30.eb (p31.b (lo := x + 80) (hi := x + 80 + 2) (I := I30) (by omega))
  have it_31 : ∀ j, I30 (x + 80 + 1) j = 0 := fun j => by rw [((p31.b (lo := x + 80 + 1) (hi := x + 80 + 1 + 1) (I := I30) (by omega)) (x + 80 + 1) (by omega) (by omega)).2.2]; exact it_30 j
  have i8_31 : I30 (x + 80) 1 = 0 := by rw [((p31.b (lo := x + 80) (hi := x + 80 + 1) (I := I30) (by omega)) (x + 80) (by omega) (by omega)).2.2]; exact i8_30
  have g4_31 : S31.2.1 x 4 = .ref (x + 80) := by rw [((p31.b (lo := x) (hi := x + 1) (I := I30) (by omega)) (x) (by omega) (by omega)).2.1]; exact g4_30
  have lr_31 : LayRd S31 (x + 82) := lr_30.eb (p31.b (lo := x + 82) (hi := x + 82 + 2) (I := I30) (by omega))
  have g5_31 : S31.2.1 x 5 = .ref (x + 82) := by rw [((p31.b (lo := x) (hi := x + 1) (I := I30) (by omega)) (x) (by omega) (by omega)).2.1]; exact g5_30
  have g6_31 : S31.2.1 x 6 = .ref (x + 84) := by rw [((p31.b (lo := x) (hi := x + 1) (I := I30) (by omega)) (x) (by omega) (by omega)).2.1]; exact g6_30
  have g7_31 : S31.2.1 x 7 = .ref (x + 85) := by rw [((p31.b (lo := x) (hi := x + 1) (I := I30) (by omega)) (x) (by omega) (by omega)).2.1]; exact g7_30
  have g8_31 : S31.2.1 x 8 = .ref (x + 86) := by rw [((p31.b (lo := x) (hi := x + 1) (I := I30) (by omega)) (x) (by omega) (by omega)).2.1]; exact g8_30
  have i87_31 : ∀ j, I30 (x + 87) j = 0 := fun j => by rw [((p31.b (lo := x + 87) (hi := x + 87 + 1) (I := I30) (by omega)) (x + 87) (by omega) (by omega)).2.2]; exact i87_30 j
  have g9_31 : S31.2.1 x 9 = .ref (x + 87) := by rw [((p31.b (lo := x) (hi := x + 1) (I := I30) (by omega)) (x) (by omega) (by omega)).2.1]; exact g9_30
  have v10_31 : I30 x 10 = 0 := by rw [((p31.b (lo := x) (hi := x + 1) (I := I30) (by omega)) (x) (by omega) (by omega)).2.2]; exact v10_30
  have ls0_31 : LaySh S31 (x + 88) := ls0_30.eb (p31.b (lo := x + 88) (hi := x + 88 + 2) (I := I30) (by omega))
  have is0_31 : IniSh I30 (x + 88) := is0_30.eb (p31.b (lo := x + 88) (hi := x + 88 + 2) (I := I30) (by omega))
  have ls1_31 : LaySh S31 (x + 90) := ls1_30.eb (p31.b (lo := x + 90) (hi := x + 90 + 2) (I := I30) (by omega))
  have is1_31 : IniSh I30 (x + 90) := is1_30.eb (p31.b (lo := x + 90) (hi := x + 90 + 2) (I := I30) (by omega))
  have eB_31 : EqB 0 x S I S31 I30 := eB_30.tr (p31.b (lo := 0) (hi := x) (I := I30) (by omega))
  clear lv0_30 iv0_30 g0_30 lv1_30 iv1_30 g1_30 v2_30 lp_30 g3_30 lt_30 it_30 i8_30 g4_30 lr_30 g5_30 g6_30 g7_30 g8_30 i87_30 g9_30 v10_30 ls0_30 is0_30 ls1_30 is1_30 eB_30
  have h0_31 : S31.1 (x) = some (9, 0) := by rw [p31.1]; exact h0_30
  have c84_31 : S31.1 (x + 84) = some (24, 14) := by rw [p31.1]; exact c84_30
  have c85_31 : S31.1 (x + 85) = some (25, 4) := by rw [p31.1]; exact c85_30
  have c86_31 : S31.1 (x + 86) = some (26, 5) := by rw [p31.1]; exact c86_30
  have c87_31 : S31.1 (x + 87) = some (20, 60) := by rw [p31.1]; exact c87_30
  have a85x0_31 : S31.2.1 (x + 85) 0 = .ref (x + 88) := by rw [p31.2.2.2.1 0 (by decide)]; exact a85x0_30
  clear h0_30 c84_30 c85_30 c86_30 c87_30 a85x0_30
  have z31 : S31.2.2 = x + 92 := by rw [p31.2.1]; exact z30
  clear z30
  have a85x1_31 : S31.2.1 (x + 85) 1 = .ref (x + 90) := p31.2.2.1
  refine v_iinc (n := 125) (v := 2) (al' := [.ref x, .int 2]) dX10_init_122 rfl (by decide) rfl rfl rfl ?_
  refine v_goto (tgt := 104) dX10_init_125 (by decide) ?_
  refine v_iload_n (n := 105) dX10_init_104 rfl rfl rfl ?_
  refine v_iconst (n := 106) (v := 4) dX10_init_105 c_4 rfl ?_
  refine v_icmp_ge (n := 109) (tgt := 128) dX10_init_106 (by decide) rfl (fun z => absurd z (by decide)) (fun _ => ?_)
  refine v_aload_n (n := 110) dX10_init_109 rfl rfl rfl ?_
  refine v_getR (n := 113) f_X10_52 rfl h0_31 g7_31 dX10_init_110 rfl ?_
  refine v_iload_n (n := 114) dX10_init_113 rfl rfl rfl ?_
  refine v_nO (n := 117) (ci := 5) (N := 3) (e := x + 92) z31 (by decide) rfl cl_X10_50 in_X6 ini_X6 ⟨l8 rfl, l8 rfl⟩ dX10_init_114 rfl (fun S32 I32 w32 => ?_)
  have lv0_32 : LayV S32 (x + 1) := lv0_31.eb (w32.b (lo := x + 1) (hi := x + 1 + 11) (by omega))
  have iv0_32 : IniV S32 I32 (x + 1) := iv0_31.eb (w32.b (lo := x + 1) (hi := x + 1 + 11) (by omega))
  have g0_32 : S32.2.1 x 0 = .ref (x + 1) := by rw [((w32.b (lo := x) (hi := x + 1) (by omega)) (x) (by omega) (by omega)).2.1]; exact g0_31
  have lv1_32 : LayV S32 (x + 12) := lv1_31.eb (w32.b (lo := x + 12) (hi := x + 12 + 11) (by omega))
  have iv1_32 : IniV S32 I32 (x + 12) := iv1_31.eb (w32.b (lo := x + 12) (hi := x + 12 + 11) (by omega))
  have g1_32 : S32.2.1 x 1 = .ref (x + 12) := by rw [((w32.b (lo := x) (hi := x + 1) (by omega)) (x) (by omega) (by omega)).2.1]; exact g1_31
  have v2_32 : I32 x 2 = 0 := by rw [((w32.b (lo := x) (hi := x + 1) (by omega)) (x) (by omega) (by omega)).2.2]; exact v2_31
  have lp_32 : LayP S32 (x + 23) := lp_31.eb (w32.b (lo := x + 23) (hi := x + 23 + 57) (by omega))
  have g3_32 : S32.2.1 x 3 = .ref (x + 23) := by rw [((w32.b (lo := x) (hi := x + 1) (by omega)) (x) (by omega) (by omega)).2.1]; exact g3_31
  have lt_32 : LayT S32 (x + 80) := lt_31.eb (w32.b (lo := x + 80) (hi := x + 80 + 2) (by omega))
  have it_32 : ∀ j, I32 (x + 80 + 1) j = 0 := fun j => by rw [((w32.b (lo := x + 80 + 1) (hi := x + 80 + 1 + 1) (by omega)) (x + 80 + 1) (by omega) (by omega)).2.2]; exact it_31 j
  have i8_32 : I32 (x + 80) 1 = 0 := by rw [((w32.b (lo := x + 80) (hi := x + 80 + 1) (by omega)) (x + 80) (by omega) (by omega)).2.2]; exact i8_31
  have g4_32 : S32.2.1 x 4 = .ref (x + 80) := by rw [((w32.b (lo := x) (hi := x + 1) (by omega)) (x) (by omega) (by omega)).2.1]; exact g4_31
  have lr_32 : LayRd S32 (x + 82) := lr_31.eb (w32.b (lo := x + 82) (hi := x + 82 + 2) (by omega))
  have g5_32 : S32.2.1 x 5 = .ref (x + 82) := by rw [((w32.b (lo := x) (hi := x + 1) (by omega)) (x) (by omega) (by omega)).2.1]; exact g5_31
  have g6_32 : S32.2.1 x 6 = .ref (x + 84) := by rw [((w32.b (lo := x) (hi := x + 1) (by omega)) (x) (by omega) (by omega)).2.1]; exact g6_31
  have g7_32 : S32.2.1 x 7 = .ref (x + 85) := by rw [((w32.b (lo := x) (hi := x + 1) (by omega)) (x) (by omega) (by omega)).2.1]; exact g7_31
  have g8_32 : S32.2.1 x 8 = .ref (x + 86) := by rw [((w32.b (lo := x) (hi := x + 1) (by omega)) (x) (by omega) (by omega)).2.1]; exact g8_31
  have i87_32 : ∀ j, I32 (x + 87) j = 0 := fun j => by rw [((w32.b (lo := x + 87) (hi := x + 87 + 1) (by omega)) (x + 87) (by omega) (by omega)).2.2]; exact i87_31 j
  have g9_32 : S32.2.1 x 9 = .ref (x + 87) := by rw [((w32.b (lo := x) (hi := x + 1) (by omega)) (x) (by omega) (by omega)).2.1]; exact g9_31
  have v10_32 : I32 x 10 = 0 := by rw [((w32.b (lo := x) (hi := x + 1) (by omega)) (x) (by omega) (by omega)).2.2]; exact v10_31
  have ls0_32 : LaySh S32 (x + 88) := ls0_31.eb (w32.b (lo := x + 88) (hi := x + 88 + 2) (by omega))
  have is0_32 : IniSh I32 (x + 88) := is0_31.eb (w32.b (lo := x + 88) (hi := x + 88 + 2) (by omega))
  have ls1_32 : LaySh S32 (x + 90) := ls1_31.eb (w32.b (lo := x + 90) (hi := x + 90 + 2) (by omega))
  have is1_32 : IniSh I32 (x + 90) := is1_31.eb (w32.b (lo := x + 90) (hi := x + 90 + 2) (by omega))
  have h0_32 : S32.1 (x) = some (9, 0) := by rw [((w32.b (lo := x) (hi := x + 1) (by omega)) (x) (by omega) (by omega)).1]; exact h0_31
  have c84_32 : S32.1 (x + 84) = some (24, 14) := by rw [((w32.b (lo := x + 84) (hi := x + 84 + 1) (by omega)) (x + 84) (by omega) (by omega)).1]; exact c84_31
  have c85_32 : S32.1 (x + 85) = some (25, 4) := by rw [((w32.b (lo := x + 85) (hi := x + 85 + 1) (by omega)) (x + 85) (by omega) (by omega)).1]; exact c85_31
  have c86_32 : S32.1 (x + 86) = some (26, 5) := by rw [((w32.b (lo := x + 86) (hi := x + 86 + 1) (by omega)) (x + 86) (by omega) (by omega)).1]; exact c86_31
  have c87_32 : S32.1 (x + 87) = some (20, 60) := by rw [((w32.b (lo := x + 87) (hi := x + 87 + 1) (by omega)) (x + 87) (by omega) (by omega)).1]; exact c87_31
  have a85x0_32 : S32.2.1 (x + 85) 0 = .ref (x + 88) := by rw [((w32.b (lo := x + 85) (hi := x + 85 + 1) (by omega)) (x + 85) (by omega) (by omega)).2.1]; exact a85x0_31
  have a85x1_32 : S32.2.1 (x + 85) 1 = .ref (x + 90) := by rw [((w32.b (lo := x + 85) (hi := x + 85 + 1) (by omega)) (x + 85) (by omega) (by omega)).2.1]; exact a85x1_31
  have eB_32 : EqB 0 x S I S32 I32 := eB_31.tr (w32.b (lo := 0) (hi := x) (by omega))
  clear lv0_31 iv0_31 g0_31 lv1_31 iv1_31 g1_31 v2_31 lp_31 g3_31 lt_31 it_31 i8_31 g4_31 lr_31 g5_31 g6_31 g7_31 g8_31 i87_31 g9_31 v10_31 ls0_31 is0_31 ls1_31 is1_31 h0_31 c84_31 c85_31 c86_31 c87_31 a85x0_31 a85x1_31 eB_31
  refine v_dup (n := 118) dX10_init_117 rfl rfl ?_
  refine v_callIN (n := 121) (host := "SnowOwed") mc_X6_init (by decide) iv_X6_init rfl (k_X6_init (ro := ro) w32.1 w32.2.1) ⟨rfl, rfl⟩ (l8 rfl) ⟨l8 rfl, l8 rfl⟩ rfl rfl (l8 rfl) dX10_init_118 rfl ?_
  rintro _ S33 I33 ⟨rfl, m33⟩
  have lv0_33 : LayV S33 (x + 1) := lv0_32.eb (m33.b (lo := x + 1) (hi := x + 1 + 11) (by omega))
  have iv0_33 : IniV S33 I33 (x + 1) := iv0_32.eb (m33.b (lo := x + 1) (hi := x + 1 + 11) (by omega))
  have g0_33 : S33.2.1 x 0 = .ref (x + 1) := by rw [((m33.b (lo := x) (hi := x + 1) (by omega)) (x) (by omega) (by omega)).2.1]; exact g0_32
  have lv1_33 : LayV S33 (x + 12) := lv1_32.eb (m33.b (lo := x + 12) (hi := x + 12 + 11) (by omega))
  have iv1_33 : IniV S33 I33 (x + 12) := iv1_32.eb (m33.b (lo := x + 12) (hi := x + 12 + 11) (by omega))
  have g1_33 : S33.2.1 x 1 = .ref (x + 12) := by rw [((m33.b (lo := x) (hi := x + 1) (by omega)) (x) (by omega) (by omega)).2.1]; exact g1_32
  have v2_33 : I33 x 2 = 0 := by rw [((m33.b (lo := x) (hi := x + 1) (by omega)) (x) (by omega) (by omega)).2.2]; exact v2_32
  have lp_33 : LayP S33 (x + 23) := lp_32.eb (m33.b (lo := x + 23) (hi := x + 23 + 57) (by omega))
  have g3_33 : S33.2.1 x 3 = .ref (x + 23) := by rw [((m33.b (lo := x) (hi := x + 1) (by omega)) (x) (by omega) (by omega)).2.1]; exact g3_32
  have lt_33 : LayT S33 (x + 80) := lt_32.eb (m33.b (lo := x + 80) (hi := x + 80 + 2) (by omega))
  have it_33 : ∀ j, I33 (x + 80 + 1) j = 0 := fun j => by rw [((m33.b (lo := x + 80 + 1) (hi := x + 80 + 1 + 1) (by omega)) (x + 80 + 1) (by omega) (by omega)).2.2]; exact it_32 j
  have i8_33 : I33 (x + 80) 1 = 0 := by rw [((m33.b (lo := x + 80) (hi := x + 80 + 1) (by omega)) (x + 80) (by omega) (by omega)).2.2]; exact i8_32
  have g4_33 : S33.2.1 x 4 = .ref (x + 80) := by rw [((m33.b (lo := x) (hi := x + 1) (by omega)) (x) (by omega) (by omega)).2.1]; exact g4_32
  have lr_33 : LayRd S33 (x + 82) := lr_32.eb (m33.b (lo := x + 82) (hi := x + 82 + 2) (by omega))
  have g5_33 : S33.2.1 x 5 = .ref (x + 82) := by rw [((m33.b (lo := x) (hi := x + 1) (by omega)) (x) (by omega) (by omega)).2.1]; exact g5_32
  have g6_33 : S33.2.1 x 6 = .ref (x + 84) := by rw [((m33.b (lo := x) (hi := x + 1) (by omega)) (x) (by omega) (by omega)).2.1]; exact g6_32
  have g7_33 : S33.2.1 x 7 = .ref (x + 85) := by rw [((m33.b (lo := x) (hi := x + 1) (by omega)) (x) (by omega) (by omega)).2.1]; exact g7_32
  have g8_33 : S33.2.1 x 8 = .ref (x + 86) := by rw [((m33.b (lo := x) (hi := x + 1) (by omega)) (x) (by omega) (by omega)).2.1]; exact g8_32
  have i87_33 : ∀ j, I33 (x + 87) j = 0 := fun j => by rw [((m33.b (lo := x + 87) (hi := x + 87 + 1) (by omega)) (x + 87) (by omega) (by omega)).2.2]; exact i87_32 j
  have g9_33 : S33.2.1 x 9 = .ref (x + 87) := by rw [((m33.b (lo := x) (hi := x + 1) (by omega)) (x) (by omega) (by omega)).2.1]; exact g9_32
  have v10_33 : I33 x 10 = 0 := by rw [((m33.b (lo := x) (hi := x + 1) (by omega)) (x) (by omega) (by omega)).2.2]; exact v10_32
  have ls0_33 : LaySh S33 (x + 88) := ls0_32.eb (m33.b (lo := x + 88) (hi := x + 88 + 2) (by omega))
  have is0_33 : IniSh I33 (x + 88) := is0_32.eb (m33.b (lo := x + 88) (hi := x + 88 + 2) (by omega))
  have ls1_33 : LaySh S33 (x + 90) := ls1_32.eb (m33.b (lo := x + 90) (hi := x + 90 + 2) (by omega))
  have is1_33 : IniSh I33 (x + 90) := is1_32.eb (m33.b (lo := x + 90) (hi := x + 90 + 2) (by omega))
  have h0_33 : S33.1 (x) = some (9, 0) := by rw [((m33.b (lo := x) (hi := x + 1) (by omega)) (x) (by omega) (by omega)).1]; exact h0_32
  have c84_33 : S33.1 (x + 84) = some (24, 14) := by rw [((m33.b (lo := x + 84) (hi := x + 84 + 1) (by omega)) (x + 84) (by omega) (by omega)).1]; exact c84_32
  have c85_33 : S33.1 (x + 85) = some (25, 4) := by rw [((m33.b (lo := x + 85) (hi := x + 85 + 1) (by omega)) (x + 85) (by omega) (by omega)).1]; exact c85_32
  have c86_33 : S33.1 (x + 86) = some (26, 5) := by rw [((m33.b (lo := x + 86) (hi := x + 86 + 1) (by omega)) (x + 86) (by omega) (by omega)).1]; exact c86_32
  have c87_33 : S33.1 (x + 87) = some (20, 60) := by rw [((m33.b (lo := x + 87) (hi := x + 87 + 1) (by omega)) (x + 87) (by omega) (by omega)).1]; exact c87_32
  have a85x0_33 : S33.2.1 (x + 85) 0 = .ref (x + 88) := by rw [((m33.b (lo := x + 85) (hi := x + 85 + 1) (by omega)) (x + 85) (by omega) (by omega)).2.1]; exact a85x0_32
  have a85x1_33 : S33.2.1 (x + 85) 1 = .ref (x + 90) := by rw [((m33.b (lo := x + 85) (hi := x + 85 + 1) (by omega)) (x + 85) (by omega) (by omega)).2.1]; exact a85x1_32
  have eB_33 : EqB 0 x S I S33 I33 := eB_32.tr (m33.b (lo := 0) (hi := x) (by omega))
  clear lv0_32 iv0_32 g0_32 lv1_32 iv1_32 g1_32 v2_32 lp_32 g3_32 lt_32 it_32 i8_32 g4_32 lr_32 g5_32 g6_32 g7_32 g8_32 i87_32 g9_32 v10_32 ls0_32 is0_32 ls1_32 is1_32 h0_32 c84_32 c85_32 c86_32 c87_32 a85x0_32 a85x1_32 eB_32
  have z33 : S33.2.2 = x + 94 := by rw [m33.1.1]; rfl
  clear z31
  have ls2_33 : LaySh S33 (x + 92) := ⟨m33.1.2.1, by rw [m33.1.2.2.1]; rfl, (m33.2.1 0 _ rfl).1⟩
  have is2_33 : IniSh I33 (x + 92) := ⟨by rw [m33.1.2.2.2.1]; rfl, by rw [m33.1.2.2.2.1]; rfl, fun j => by rw [(m33.2.1 0 _ rfl).2.2]⟩
  refine v_aO (n := 122) (t := 5) (j := 2) ⟨by decide, by decide⟩ c85_33 (ix_lit rfl rfl rfl) (ls2_33).s dX10_init_121 rfl (fun S34 p34 => ?_)
  have lv0_34 : LayV S34 (x + 1) := lv0_33.eb (p34.b (lo := x + 1) (hi := x + 1 + 11) (I := I33) (by omega))
  have iv0_34 : IniV S34 I33 (x + 1) := iv0_33.eb (p34.b (lo := x + 1) (hi := x + 1 + 11) (I := I33) (by omega))
  have g0_34 : S34.2.1 x 0 = .ref (x + 1) := by rw [((p34.b (lo := x) (hi := x + 1) (I := I33) (by omega)) (x) (by omega) (by omega)).2.1]; exact g0_33
  have lv1_34 : LayV S34 (x + 12) := lv1_33.eb (p34.b (lo := x + 12) (hi := x + 12 + 11) (I := I33) (by omega))
  have iv1_34 : IniV S34 I33 (x + 12) := iv1_33.eb (p34.b (lo := x + 12) (hi := x + 12 + 11) (I := I33) (by omega))
  have g1_34 : S34.2.1 x 1 = .ref (x + 12) := by rw [((p34.b (lo := x) (hi := x + 1) (I := I33) (by omega)) (x) (by omega) (by omega)).2.1]; exact g1_33
  have v2_34 : I33 x 2 = 0 := by rw [((p34.b (lo := x) (hi := x + 1) (I := I33) (by omega)) (x) (by omega) (by omega)).2.2]; exact v2_33
  have lp_34 : LayP S34 (x + 23) := lp_33.eb (p34.b (lo := x + 23) (hi := x + 23 + 57) (I := I33) (by omega))
  have g3_34 : S34.2.1 x 3 = .ref (x + 23) := by rw [((p34.b (lo := x) (hi := x + 1) (I := I33) (by omega)) (x) (by omega) (by omega)).2.1]; exact g3_33
  have lt_34 : LayT S34 (x + 80) := lt_33.eb (p34.b (lo := x + 80) (hi := x + 80 + 2) (I := I33) (by omega))
  have it_34 : ∀ j, I33 (x + 80 + 1) j = 0 := fun j => by rw [((p34.b (lo := x + 80 + 1) (hi := x + 80 + 1 + 1) (I := I33) (by omega)) (x + 80 + 1) (by omega) (by omega)).2.2]; exact it_33 j
  have i8_34 : I33 (x + 80) 1 = 0 := by rw [((p34.b (lo := x + 80) (hi := x + 80 + 1) (I := I33) (by omega)) (x + 80) (by omega) (by omega)).2.2]; exact i8_33
  have g4_34 : S34.2.1 x 4 = .ref (x + 80) := by rw [((p34.b (lo := x) (hi := x + 1) (I := I33) (by omega)) (x) (by omega) (by omega)).2.1]; exact g4_33
  have lr_34 : LayRd S34 (x + 82) := lr_33.eb (p34.b (lo := x + 82) (hi := x + 82 + 2) (I := I33) (by omega))
  have g5_34 : S34.2.1 x 5 = .ref (x + 82) := by rw [((p34.b (lo := x) (hi := x + 1) (I := I33) (by omega)) (x) (by omega) (by omega)).2.1]; exact g5_33
  have g6_34 : S34.2.1 x 6 = .ref (x + 84) := by rw [((p34.b (lo := x) (hi := x + 1) (I := I33) (by omega)) (x) (by omega) (by omega)).2.1]; exact g6_33
  have g7_34 : S34.2.1 x 7 = .ref (x + 85) := by rw [((p34.b (lo := x) (hi := x + 1) (I := I33) (by omega)) (x) (by omega) (by omega)).2.1]; exact g7_33
  have g8_34 : S34.2.1 x 8 = .ref (x + 86) := by rw [((p34.b (lo := x) (hi := x + 1) (I := I33) (by omega)) (x) (by omega) (by omega)).2.1]; exact g8_33
  have i87_34 : ∀ j, I33 (x + 87) j = 0 := fun j => by rw [((p34.b (lo := x + 87) (hi := x + 87 + 1) (I := I33) (by omega)) (x + 87) (by omega) (by omega)).2.2]; exact i87_33 j
  have g9_34 : S34.2.1 x 9 = .ref (x + 87) := by rw [((p34.b (lo := x) (hi := x + 1) (I := I33) (by omega)) (x) (by omega) (by omega)).2.1]; exact g9_33
  have v10_34 : I33 x 10 = 0 := by rw [((p34.b (lo := x) (hi := x + 1) (I := I33) (by omega)) (x) (by omega) (by omega)).2.2]; exact v10_33
  have ls0_34 : LaySh S34 (x + 88) := ls0_33.eb (p34.b (lo := x + 88) (hi := x + 88 + 2) (I := I33) (by omega))
  have is0_34 : IniSh I33 (x + 88) := is0_33.eb (p34.b (lo := x + 88) (hi := x + 88 + 2) (I := I33) (by omega))
  have ls1_34 : LaySh S34 (x + 90) := ls1_33.eb (p34.b (lo := x + 90) (hi := x + 90 + 2) (I := I33) (by omega))
  have is1_34 : IniSh I33 (x + 90) := is1_33.eb (p34.b (lo := x + 90) (hi := x + 90 + 2) (I := I33) (by omega))
  have ls2_34 : LaySh S34 (x + 92) := ls2_33.eb (p34.b (lo := x + 92) (hi := x + 92 + 2) (I := I33) (by omega))
  have is2_34 : IniSh I33 (x + 92) := is2_33.eb (p34.b (lo := x + 92) (hi := x + 92 + 2) (I := I33) (by omega))
  have eB_34 : EqB 0 x S I S34 I33 := eB_33.tr (p34.b (lo := 0) (hi := x) (I := I33) (by omega))
  clear lv0_33 iv0_33 g0_33 lv1_33 iv1_33 g1_33 v2_33 lp_33 g3_33 lt_33 it_33 i8_33 g4_33 lr_33 g5_33 g6_33 g7_33 g8_33 i87_33 g9_33 v10_33 ls0_33 is0_33 ls1_33 is1_33 ls2_33 is2_33 eB_33
  have h0_34 : S34.1 (x) = some (9, 0) := by rw [p34.1]; exact h0_33
  have c84_34 : S34.1 (x + 84) = some (24, 14) := by rw [p34.1]; exact c84_33
  have c85_34 : S34.1 (x + 85) = some (25, 4) := by rw [p34.1]; exact c85_33
  have c86_34 : S34.1 (x + 86) = some (26, 5) := by rw [p34.1]; exact c86_33
  have c87_34 : S34.1 (x + 87) = some (20, 60) := by rw [p34.1]; exact c87_33
  have a85x0_34 : S34.2.1 (x + 85) 0 = .ref (x + 88) := by rw [p34.2.2.2.1 0 (by decide)]; exact a85x0_33
  have a85x1_34 : S34.2.1 (x + 85) 1 = .ref (x + 90) := by rw [p34.2.2.2.1 1 (by decide)]; exact a85x1_33
  clear h0_33 c84_33 c85_33 c86_33 c87_33 a85x0_33 a85x1_33
  have z34 : S34.2.2 = x + 94 := by rw [p34.2.1]; exact z33
  clear z33
  have a85x2_34 : S34.2.1 (x + 85) 2 = .ref (x + 92) := p34.2.2.1
  refine v_iinc (n := 125) (v := 3) (al' := [.ref x, .int 3]) dX10_init_122 rfl (by decide) rfl rfl rfl ?_
  refine v_goto (tgt := 104) dX10_init_125 (by decide) ?_
  refine v_iload_n (n := 105) dX10_init_104 rfl rfl rfl ?_
  refine v_iconst (n := 106) (v := 4) dX10_init_105 c_4 rfl ?_
  refine v_icmp_ge (n := 109) (tgt := 128) dX10_init_106 (by decide) rfl (fun z => absurd z (by decide)) (fun _ => ?_)
  refine v_aload_n (n := 110) dX10_init_109 rfl rfl rfl ?_
  refine v_getR (n := 113) f_X10_52 rfl h0_34 g7_34 dX10_init_110 rfl ?_
  refine v_iload_n (n := 114) dX10_init_113 rfl rfl rfl ?_
  refine v_nO (n := 117) (ci := 5) (N := 3) (e := x + 94) z34 (by decide) rfl cl_X10_50 in_X6 ini_X6 ⟨l8 rfl, l8 rfl⟩ dX10_init_114 rfl (fun S35 I35 w35 => ?_)
  have lv0_35 : LayV S35 (x + 1) := lv0_34.eb (w35.b (lo := x + 1) (hi := x + 1 + 11) (by omega))
  have iv0_35 : IniV S35 I35 (x + 1) := iv0_34.eb (w35.b (lo := x + 1) (hi := x + 1 + 11) (by omega))
  have g0_35 : S35.2.1 x 0 = .ref (x + 1) := by rw [((w35.b (lo := x) (hi := x + 1) (by omega)) (x) (by omega) (by omega)).2.1]; exact g0_34
  have lv1_35 : LayV S35 (x + 12) := lv1_34.eb (w35.b (lo := x + 12) (hi := x + 12 + 11) (by omega))
  have iv1_35 : IniV S35 I35 (x + 12) := iv1_34.eb (w35.b (lo := x + 12) (hi := x + 12 + 11) (by omega))
  have g1_35 : S35.2.1 x 1 = .ref (x + 12) := by rw [((w35.b (lo := x) (hi := x + 1) (by omega)) (x) (by omega) (by omega)).2.1]; exact g1_34
  have v2_35 : I35 x 2 = 0 := by rw [((w35.b (lo := x) (hi := x + 1) (by omega)) (x) (by omega) (by omega)).2.2]; exact v2_34
  have lp_35 : LayP S35 (x + 23) := lp_34.eb (w35.b (lo := x + 23) (hi := x + 23 + 57) (by omega))
  have g3_35 : S35.2.1 x 3 = .ref (x + 23) := by rw [((w35.b (lo := x) (hi := x + 1) (by omega)) (x) (by omega) (by omega)).2.1]; exact g3_34
  have lt_35 : LayT S35 (x + 80) := lt_34.eb (w35.b (lo := x + 80) (hi := x + 80 + 2) (by omega))
  have it_35 : ∀ j, I35 (x + 80 + 1) j = 0 := fun j => by rw [((w35.b (lo := x + 80 + 1) (hi := x + 80 + 1 + 1) (by omega)) (x + 80 + 1) (by omega) (by omega)).2.2]; exact it_34 j
  have i8_35 : I35 (x + 80) 1 = 0 := by rw [((w35.b (lo := x + 80) (hi := x + 80 + 1) (by omega)) (x + 80) (by omega) (by omega)).2.2]; exact i8_34
  have g4_35 : S35.2.1 x 4 = .ref (x + 80) := by rw [((w35.b (lo := x) (hi := x + 1) (by omega)) (x) (by omega) (by omega)).2.1]; exact g4_34
  have lr_35 : LayRd S35 (x + 82) := lr_34.eb (w35.b (lo := x + 82) (hi := x + 82 + 2) (by omega))
  have g5_35 : S35.2.1 x 5 = .ref (x + 82) := by rw [((w35.b (lo := x) (hi := x + 1) (by omega)) (x) (by omega) (by omega)).2.1]; exact g5_34
  have g6_35 : S35.2.1 x 6 = .ref (x + 84) := by rw [((w35.b (lo := x) (hi := x + 1) (by omega)) (x) (by omega) (by omega)).2.1]; exact g6_34
  have g7_35 : S35.2.1 x 7 = .ref (x + 85) := by rw [((w35.b (lo := x) (hi := x + 1) (by omega)) (x) (by omega) (by omega)).2.1]; exact g7_34
  have g8_35 : S35.2.1 x 8 = .ref (x + 86) := by rw [((w35.b (lo := x) (hi := x + 1) (by omega)) (x) (by omega) (by omega)).2.1]; exact g8_34
  have i87_35 : ∀ j, I35 (x + 87) j = 0 := fun j => by rw [((w35.b (lo := x + 87) (hi := x + 87 + 1) (by omega)) (x + 87) (by omega) (by omega)).2.2]; exact i87_34 j
  have g9_35 : S35.2.1 x 9 = .ref (x + 87) := by rw [((w35.b (lo := x) (hi := x + 1) (by omega)) (x) (by omega) (by omega)).2.1]; exact g9_34
  have v10_35 : I35 x 10 = 0 := by rw [((w35.b (lo := x) (hi := x + 1) (by omega)) (x) (by omega) (by omega)).2.2]; exact v10_34
  have ls0_35 : LaySh S35 (x + 88) := ls0_34.eb (w35.b (lo := x + 88) (hi := x + 88 + 2) (by omega))
  have is0_35 : IniSh I35 (x + 88) := is0_34.eb (w35.b (lo := x + 88) (hi := x + 88 + 2) (by omega))
  have ls1_35 : LaySh S35 (x + 90) := ls1_34.eb (w35.b (lo := x + 90) (hi := x + 90 + 2) (by omega))
  have is1_35 : IniSh I35 (x + 90) := is1_34.eb (w35.b (lo := x + 90) (hi := x + 90 + 2) (by omega))
  have ls2_35 : LaySh S35 (x + 92) := ls2_34.eb (w35.b (lo := x + 92) (hi := x + 92 + 2) (by omega))
  have is2_35 : IniSh I35 (x + 92) := is2_34.eb (w35.b (lo := x + 92) (hi := x + 92 + 2) (by omega))
  have h0_35 : S35.1 (x) = some (9, 0) := by rw [((w35.b (lo := x) (hi := x + 1) (by omega)) (x) (by omega) (by omega)).1]; exact h0_34
  have c84_35 : S35.1 (x + 84) = some (24, 14) := by rw [((w35.b (lo := x + 84) (hi := x + 84 + 1) (by omega)) (x + 84) (by omega) (by omega)).1]; exact c84_34
  have c85_35 : S35.1 (x + 85) = some (25, 4) := by rw [((w35.b (lo := x + 85) (hi := x + 85 + 1) (by omega)) (x + 85) (by omega) (by omega)).1]; exact c85_34
  have c86_35 : S35.1 (x + 86) = some (26, 5) := by rw [((w35.b (lo := x + 86) (hi := x + 86 + 1) (by omega)) (x + 86) (by omega) (by omega)).1]; exact c86_34
  have c87_35 : S35.1 (x + 87) = some (20, 60) := by rw [((w35.b (lo := x + 87) (hi := x + 87 + 1) (by omega)) (x + 87) (by omega) (by omega)).1]; exact c87_34
  have a85x0_35 : S35.2.1 (x + 85) 0 = .ref (x + 88) := by rw [((w35.b (lo := x + 85) (hi := x + 85 + 1) (by omega)) (x + 85) (by omega) (by omega)).2.1]; exact a85x0_34
  have a85x1_35 : S35.2.1 (x + 85) 1 = .ref (x + 90) := by rw [((w35.b (lo := x + 85) (hi := x + 85 + 1) (by omega)) (x + 85) (by omega) (by omega)).2.1]; exact a85x1_34
  have a85x2_35 : S35.2.1 (x + 85) 2 = .ref (x + 92) := by rw [((w35.b (lo := x + 85) (hi := x + 85 + 1) (by omega)) (x + 85) (by omega) (by omega)).2.1]; exact a85x2_34
  have eB_35 : EqB 0 x S I S35 I35 := eB_34.tr (w35.b (lo := 0) (hi := x) (by omega))
  clear lv0_34 iv0_34 g0_34 lv1_34 iv1_34 g1_34 v2_34 lp_34 g3_34 lt_34 it_34 i8_34 g4_34 lr_34 g5_34 g6_34 g7_34 g8_34 i87_34 g9_34 v10_34 ls0_34 is0_34 ls1_34 is1_34 ls2_34 is2_34 h0_34 c84_34 c85_34 c86_34 c87_34 a85x0_34 a85x1_34 a85x2_34 eB_34
  refine v_dup (n := 118) dX10_init_117 rfl rfl ?_
  refine v_callIN (n := 121) (host := "SnowOwed") mc_X6_init (by decide) iv_X6_init rfl (k_X6_init (ro := ro) w35.1 w35.2.1) ⟨rfl, rfl⟩ (l8 rfl) ⟨l8 rfl, l8 rfl⟩ rfl rfl (l8 rfl) dX10_init_118 rfl ?_
  rintro _ S36 I36 ⟨rfl, m36⟩
  have lv0_36 : LayV S36 (x + 1) := lv0_35.eb (m36.b (lo := x + 1) (hi := x + 1 + 11) (by omega))
  have iv0_36 : IniV S36 I36 (x + 1) := iv0_35.eb (m36.b (lo := x + 1) (hi := x + 1 + 11) (by omega))
  have g0_36 : S36.2.1 x 0 = .ref (x + 1) := by rw [((m36.b (lo := x) (hi := x + 1) (by omega)) (x) (by omega) (by omega)).2.1]; exact g0_35
  have lv1_36 : LayV S36 (x + 12) := lv1_35.eb (m36.b (lo := x + 12) (hi := x + 12 + 11) (by omega))
  have iv1_36 : IniV S36 I36 (x + 12) := iv1_35.eb (m36.b (lo := x + 12) (hi := x + 12 + 11) (by omega))
  have g1_36 : S36.2.1 x 1 = .ref (x + 12) := by rw [((m36.b (lo := x) (hi := x + 1) (by omega)) (x) (by omega) (by omega)).2.1]; exact g1_35
  have v2_36 : I36 x 2 = 0 := by rw [((m36.b (lo := x) (hi := x + 1) (by omega)) (x) (by omega) (by omega)).2.2]; exact v2_35
  have lp_36 : LayP S36 (x + 23) := lp_35.eb (m36.b (lo := x + 23) (hi := x + 23 + 57) (by omega))
  have g3_36 : S36.2.1 x 3 = .ref (x + 23) := by rw [((m36.b (lo := x) (hi := x + 1) (by omega)) (x) (by omega) (by omega)).2.1]; exact g3_35
  have lt_36 : LayT S36 (x + 80) := lt_35.eb (m36.b (lo := x + 80) (hi := x + 80 + 2) (by omega))
  have it_36 : ∀ j, I36 (x + 80 + 1) j = 0 := fun j => by rw [((m36.b (lo := x + 80 + 1) (hi := x + 80 + 1 + 1) (by omega)) (x + 80 + 1) (by omega) (by omega)).2.2]; exact it_35 j
  have i8_36 : I36 (x + 80) 1 = 0 := by rw [((m36.b (lo := x + 80) (hi := x + 80 + 1) (by omega)) (x + 80) (by omega) (by omega)).2.2]; exact i8_35
  have g4_36 : S36.2.1 x 4 = .ref (x + 80) := by rw [((m36.b (lo := x) (hi := x + 1) (by omega)) (x) (by omega) (by omega)).2.1]; exact g4_35
  have lr_36 : LayRd S36 (x + 82) := lr_35.eb (m36.b (lo := x + 82) (hi := x + 82 + 2) (by omega))
  have g5_36 : S36.2.1 x 5 = .ref (x + 82) := by rw [((m36.b (lo := x) (hi := x + 1) (by omega)) (x) (by omega) (by omega)).2.1]; exact g5_35
  have g6_36 : S36.2.1 x 6 = .ref (x + 84) := by rw [((m36.b (lo := x) (hi := x + 1) (by omega)) (x) (by omega) (by omega)).2.1]; exact g6_35
  have g7_36 : S36.2.1 x 7 = .ref (x + 85) := by rw [((m36.b (lo := x) (hi := x + 1) (by omega)) (x) (by omega) (by omega)).2.1]; exact g7_35
  have g8_36 : S36.2.1 x 8 = .ref (x + 86) := by rw [((m36.b (lo := x) (hi := x + 1) (by omega)) (x) (by omega) (by omega)).2.1]; exact g8_35
  have i87_36 : ∀ j, I36 (x + 87) j = 0 := fun j => by rw [((m36.b (lo := x + 87) (hi := x + 87 + 1) (by omega)) (x + 87) (by omega) (by omega)).2.2]; exact i87_35 j
  have g9_36 : S36.2.1 x 9 = .ref (x + 87) := by rw [((m36.b (lo := x) (hi := x + 1) (by omega)) (x) (by omega) (by omega)).2.1]; exact g9_35
  have v10_36 : I36 x 10 = 0 := by rw [((m36.b (lo := x) (hi := x + 1) (by omega)) (x) (by omega) (by omega)).2.2]; exact v10_35
  have ls0_36 : LaySh S36 (x + 88) := ls0_35.eb (m36.b (lo := x + 88) (hi := x + 88 + 2) (by omega))
  have is0_36 : IniSh I36 (x + 88) := is0_35.eb (m36.b (lo := x + 88) (hi := x + 88 + 2) (by omega))
  have ls1_36 : LaySh S36 (x + 90) := ls1_35.eb (m36.b (lo := x + 90) (hi := x + 90 + 2) (by omega))
  have is1_36 : IniSh I36 (x + 90) := is1_35.eb (m36.b (lo := x + 90) (hi := x + 90 + 2) (by omega))
  have ls2_36 : LaySh S36 (x + 92) := ls2_35.eb (m36.b (lo := x + 92) (hi := x + 92 + 2) (by omega))
  have is2_36 : IniSh I36 (x + 92) := is2_35.eb (m36.b (lo := x + 92) (hi := x + 92 + 2) (by omega))
  have h0_36 : S36.1 (x) = some (9, 0) := by rw [((m36.b (lo := x) (hi := x + 1) (by omega)) (x) (by omega) (by omega)).1]; exact h0_35
  have c84_36 : S36.1 (x + 84) = some (24, 14) := by rw [((m36.b (lo := x + 84) (hi := x + 84 + 1) (by omega)) (x + 84) (by omega) (by omega)).1]; exact c84_35
  have c85_36 : S36.1 (x + 85) = some (25, 4) := by rw [((m36.b (lo := x + 85) (hi := x + 85 + 1) (by omega)) (x + 85) (by omega) (by omega)).1]; exact c85_35
  have c86_36 : S36.1 (x + 86) = some (26, 5) := by rw [((m36.b (lo := x + 86) (hi := x + 86 + 1) (by omega)) (x + 86) (by omega) (by omega)).1]; exact c86_35
  have c87_36 : S36.1 (x + 87) = some (20, 60) := by rw [((m36.b (lo := x + 87) (hi := x + 87 + 1) (by omega)) (x + 87) (by omega) (by omega)).1]; exact c87_35
  have a85x0_36 : S36.2.1 (x + 85) 0 = .ref (x + 88) := by rw [((m36.b (lo := x + 85) (hi := x + 85 + 1) (by omega)) (x + 85) (by omega) (by omega)).2.1]; exact a85x0_35
  have a85x1_36 : S36.2.1 (x + 85) 1 = .ref (x + 90) := by rw [((m36.b (lo := x + 85) (hi := x + 85 + 1) (by omega)) (x + 85) (by omega) (by omega)).2.1]; exact a85x1_35
  have a85x2_36 : S36.2.1 (x + 85) 2 = .ref (x + 92) := by rw [((m36.b (lo := x + 85) (hi := x + 85 + 1) (by omega)) (x + 85) (by omega) (by omega)).2.1]; exact a85x2_35
  have eB_36 : EqB 0 x S I S36 I36 := eB_35.tr (m36.b (lo := 0) (hi := x) (by omega))
  clear lv0_35 iv0_35 g0_35 lv1_35 iv1_35 g1_35 v2_35 lp_35 g3_35 lt_35 it_35 i8_35 g4_35 lr_35 g5_35 g6_35 g7_35 g8_35 i87_35 g9_35 v10_35 ls0_35 is0_35 ls1_35 is1_35 ls2_35 is2_35 h0_35 c84_35 c85_35 c86_35 c87_35 a85x0_35 a85x1_35 a85x2_35 eB_35
  have z36 : S36.2.2 = x + 96 := by rw [m36.1.1]; rfl
  clear z34
  have ls3_36 : LaySh S36 (x + 94) := ⟨m36.1.2.1, by rw [m36.1.2.2.1]; rfl, (m36.2.1 0 _ rfl).1⟩
  have is3_36 : IniSh I36 (x + 94) := ⟨by rw [m36.1.2.2.2.1]; rfl, by rw [m36.1.2.2.2.1]; rfl, fun j => by rw [(m36.2.1 0 _ rfl).2.2]⟩
  refine v_aO (n := 122) (t := 5) (j := 3) ⟨by decide, by decide⟩ c85_36 (ix_lit rfl rfl rfl) (ls3_36).s dX10_init_121 rfl (fun S37 p37 => ?_)
  have lv0_37 : LayV S37 (x + 1) := lv0_36.eb (p37.b (lo := x + 1) (hi := x + 1 + 11) (I := I36) (by omega))
  have iv0_37 : IniV S37 I36 (x + 1) := iv0_36.eb (p37.b (lo := x + 1) (hi := x + 1 + 11) (I := I36) (by omega))
  have g0_37 : S37.2.1 x 0 = .ref (x + 1) := by rw [((p37.b (lo := x) (hi := x + 1) (I := I36) (by omega)) (x) (by omega) (by omega)).2.1]; exact g0_36
  have lv1_37 : LayV S37 (x + 12) := lv1_36.eb (p37.b (lo := x + 12) (hi := x + 12 + 11) (I := I36) (by omega))
  have iv1_37 : IniV S37 I36 (x + 12) := iv1_36.eb (p37.b (lo := x + 12) (hi := x + 12 + 11) (I := I36) (by omega))
  have g1_37 : S37.2.1 x 1 = .ref (x + 12) := by rw [((p37.b (lo := x) (hi := x + 1) (I := I36) (by omega)) (x) (by omega) (by omega)).2.1]; exact g1_36
  have v2_37 : I36 x 2 = 0 := by rw [((p37.b (lo := x) (hi := x + 1) (I := I36) (by omega)) (x) (by omega) (by omega)).2.2]; exact v2_36
  have lp_37 : LayP S37 (x + 23) := lp_36.eb (p37.b (lo := x + 23) (hi := x + 23 + 57) (I := I36) (by omega))
  have g3_37 : S37.2.1 x 3 = .ref (x + 23) := by rw [((p37.b (lo := x) (hi := x + 1) (I := I36) (by omega)) (x) (by omega) (by omega)).2.1]; exact g3_36
  have lt_37 : LayT S37 (x + 80) := lt_36.eb (p37.b (lo := x + 80) (hi := x + 80 + 2) (I := I36) (by omega))
  have it_37 : ∀ j, I36 (x + 80 + 1) j = 0 := fun j => by rw [((p37.b (lo := x + 80 + 1) (hi := x + 80 + 1 + 1) (I := I36) (by omega)) (x + 80 + 1) (by omega) (by omega)).2.2]; exact it_36 j
  have i8_37 : I36 (x + 80) 1 = 0 := by rw [((p37.b (lo := x + 80) (hi := x + 80 + 1) (I := I36) (by omega)) (x + 80) (by omega) (by omega)).2.2]; exact i8_36
  have g4_37 : S37.2.1 x 4 = .ref (x + 80) := by rw [((p37.b (lo := x) (hi := x + 1) (I := I36) (by omega)) (x) (by omega) (by omega)).2.1]; exact g4_36
  have lr_37 : LayRd S37 (x + 82) := lr_36.eb (p37.b (lo := x + 82) (hi := x + 82 + 2) (I := I36) (by omega))
  have g5_37 : S37.2.1 x 5 = .ref (x + 82) := by rw [((p37.b (lo := x) (hi := x + 1) (I := I36) (by omega)) (x) (by omega) (by omega)).2.1]; exact g5_36
  have g6_37 : S37.2.1 x 6 = .ref (x + 84) := by rw [((p37.b (lo := x) (hi := x + 1) (I := I36) (by omega)) (x) (by omega) (by omega)).2.1]; exact g6_36
  have g7_37 : S37.2.1 x 7 = .ref (x + 85) := by rw [((p37.b (lo := x) (hi := x + 1) (I := I36) (by omega)) (x) (by omega) (by omega)).2.1]; exact g7_36
  have g8_37 : S37.2.1 x 8 = .ref (x + 86) := by rw [((p37.b (lo := x) (hi := x + 1) (I := I36) (by omega)) (x) (by omega) (by omega)).2.1]; exact g8_36
  have i87_37 : ∀ j, I36 (x + 87) j = 0 := fun j => by rw [((p37.b (lo := x + 87) (hi := x + 87 + 1) (I := I36) (by omega)) (x + 87) (by omega) (by omega)).2.2]; exact i87_36 j
  have g9_37 : S37.2.1 x 9 = .ref (x + 87) := by rw [((p37.b (lo := x) (hi := x + 1) (I := I36) (by omega)) (x) (by omega) (by omega)).2.1]; exact g9_36
  have v10_37 : I36 x 10 = 0 := by rw [((p37.b (lo := x) (hi := x + 1) (I := I36) (by omega)) (x) (by omega) (by omega)).2.2]; exact v10_36
  have ls0_37 : LaySh S37 (x + 88) := ls0_36.eb (p37.b (lo := x + 88) (hi := x + 88 + 2) (I := I36) (by omega))
  have is0_37 : IniSh I36 (x + 88) := is0_36.eb (p37.b (lo := x + 88) (hi := x + 88 + 2) (I := I36) (by omega))
  have ls1_37 : LaySh S37 (x + 90) := ls1_36.eb (p37.b (lo := x + 90) (hi := x + 90 + 2) (I := I36) (by omega))
  have is1_37 : IniSh I36 (x + 90) := is1_36.eb (p37.b (lo := x + 90) (hi := x + 90 + 2) (I := I36) (by omega))
  have ls2_37 : LaySh S37 (x + 92) := ls2_36.eb (p37.b (lo := x + 92) (hi := x + 92 + 2) (I := I36) (by omega))
  have is2_37 : IniSh I36 (x + 92) := is2_36.eb (p37.b (lo := x + 92) (hi := x + 92 + 2) (I := I36) (by omega))
  have ls3_37 : LaySh S37 (x + 94) := ls3_36.eb (p37.b (lo := x + 94) (hi := x + 94 + 2) (I := I36) (by omega))
  have is3_37 : IniSh I36 (x + 94) := is3_36.eb (p37.b (lo := x + 94) (hi := x + 94 + 2) (I := I36) (by omega))
  have eB_37 : EqB 0 x S I S37 I36 := eB_36.tr (p37.b (lo := 0) (hi := x) (I := I36) (by omega))
  clear lv0_36 iv0_36 g0_36 lv1_36 iv1_36 g1_36 v2_36 lp_36 g3_36 lt_36 it_36 i8_36 g4_36 lr_36 g5_36 g6_36 g7_36 g8_36 i87_36 g9_36 v10_36 ls0_36 is0_36 ls1_36 is1_36 ls2_36 is2_36 ls3_36 is3_36 eB_36
  have h0_37 : S37.1 (x) = some (9, 0) := by rw [p37.1]; exact h0_36
  have c84_37 : S37.1 (x + 84) = some (24, 14) := by rw [p37.1]; exact c84_36
  have c85_37 : S37.1 (x + 85) = some (25, 4) := by rw [p37.1]; exact c85_36
  have c86_37 : S37.1 (x + 86) = some (26, 5) := by rw [p37.1]; exact c86_36
  have c87_37 : S37.1 (x + 87) = some (20, 60) := by rw [p37.1]; exact c87_36
  have a85x0_37 : S37.2.1 (x + 85) 0 = .ref (x + 88) := by rw [p37.2.2.2.1 0 (by decide)]; exact a85x0_36
  have a85x1_37 : S37.2.1 (x + 85) 1 = .ref (x + 90) := by rw [p37.2.2.2.1 1 (by decide)]; exact a85x1_36
  have a85x2_37 : S37.2.1 (x + 85) 2 = .ref (x + 92) := by rw [p37.2.2.2.1 2 (by decide)]; exact a85x2_36
  clear h0_36 c84_36 c85_36 c86_36 c87_36 a85x0_36 a85x1_36 a85x2_36
  have z37 : S37.2.2 = x + 96 := by rw [p37.2.1]; exact z36
  clear z36
  have a85x3_37 : S37.2.1 (x + 85) 3 = .ref (x + 94) := p37.2.2.1
  refine v_iinc (n := 125) (v := 4) (al' := [.ref x, .int 4]) dX10_init_122 rfl (by decide) rfl rfl rfl ?_
  refine v_goto (tgt := 104) dX10_init_125 (by decide) ?_
  refine v_iload_n (n := 105) dX10_init_104 rfl rfl rfl ?_
  refine v_iconst (n := 106) (v := 4) dX10_init_105 c_4 rfl ?_
  refine v_icmp_ge (n := 109) (tgt := 128) dX10_init_106 (by decide) rfl (fun _ => ?_) (fun z => absurd (by decide) z)
  refine v_iconst (n := 129) (v := 0) dX10_init_128 c_0 rfl ?_
  refine v_istore_n (n := 130) (al' := [.ref x, .int 0]) dX10_init_129 rfl rfl rfl rfl ?_
  refine v_iload_n (n := 131) dX10_init_130 rfl rfl rfl ?_
  refine v_iconst (n := 132) (v := 5) dX10_init_131 c_5 rfl ?_
  refine v_icmp_ge (n := 135) (tgt := 154) dX10_init_132 (by decide) rfl (fun z => absurd z (by decide)) (fun _ => ?_)
  refine v_aload_n (n := 136) dX10_init_135 rfl rfl rfl ?_
  refine v_getR (n := 139) f_X10_58 rfl h0_37 g8_37 dX10_init_136 rfl ?_
  refine v_iload_n (n := 140) dX10_init_139 rfl rfl rfl ?_
  refine v_nO (n := 143) (ci := 6) (N := 6) (e := x + 96) z37 (by decide) rfl cl_X10_56 in_X7 ini_X7 ⟨l8 rfl, l8 rfl⟩ dX10_init_140 rfl (fun S38 I38 w38 => ?_)
  have lv0_38 : LayV S38 (x + 1) := lv0_37.eb (w38.b (lo := x + 1) (hi := x + 1 + 11) (by omega))
  have iv0_38 : IniV S38 I38 (x + 1) := iv0_37.eb (w38.b (lo := x + 1) (hi := x + 1 + 11) (by omega))
  have g0_38 : S38.2.1 x 0 = .ref (x + 1) := by rw [((w38.b (lo := x) (hi := x + 1) (by omega)) (x) (by omega) (by omega)).2.1]; exact g0_37
  have lv1_38 : LayV S38 (x + 12) := lv1_37.eb (w38.b (lo := x + 12) (hi := x + 12 + 11) (by omega))
  have iv1_38 : IniV S38 I38 (x + 12) := iv1_37.eb (w38.b (lo := x + 12) (hi := x + 12 + 11) (by omega))
  have g1_38 : S38.2.1 x 1 = .ref (x + 12) := by rw [((w38.b (lo := x) (hi := x + 1) (by omega)) (x) (by omega) (by omega)).2.1]; exact g1_37
  have v2_38 : I38 x 2 = 0 := by rw [((w38.b (lo := x) (hi := x + 1) (by omega)) (x) (by omega) (by omega)).2.2]; exact v2_37
  have lp_38 : LayP S38 (x + 23) := lp_37.eb (w38.b (lo := x + 23) (hi := x + 23 + 57) (by omega))
  have g3_38 : S38.2.1 x 3 = .ref (x + 23) := by rw [((w38.b (lo := x) (hi := x + 1) (by omega)) (x) (by omega) (by omega)).2.1]; exact g3_37
  have lt_38 : LayT S38 (x + 80) := lt_37.eb (w38.b (lo := x + 80) (hi := x + 80 + 2) (by omega))
  have it_38 : ∀ j, I38 (x + 80 + 1) j = 0 := fun j => by rw [((w38.b (lo := x + 80 + 1) (hi := x + 80 + 1 + 1) (by omega)) (x + 80 + 1) (by omega) (by omega)).2.2]; exact it_37 j
  have i8_38 : I38 (x + 80) 1 = 0 := by rw [((w38.b (lo := x + 80) (hi := x + 80 + 1) (by omega)) (x + 80) (by omega) (by omega)).2.2]; exact i8_37
  have g4_38 : S38.2.1 x 4 = .ref (x + 80) := by rw [((w38.b (lo := x) (hi := x + 1) (by omega)) (x) (by omega) (by omega)).2.1]; exact g4_37
  have lr_38 : LayRd S38 (x + 82) := lr_37.eb (w38.b (lo := x + 82) (hi := x + 82 + 2) (by omega))
  have g5_38 : S38.2.1 x 5 = .ref (x + 82) := by rw [((w38.b (lo := x) (hi := x + 1) (by omega)) (x) (by omega) (by omega)).2.1]; exact g5_37
  have g6_38 : S38.2.1 x 6 = .ref (x + 84) := by rw [((w38.b (lo := x) (hi := x + 1) (by omega)) (x) (by omega) (by omega)).2.1]; exact g6_37
  have g7_38 : S38.2.1 x 7 = .ref (x + 85) := by rw [((w38.b (lo := x) (hi := x + 1) (by omega)) (x) (by omega) (by omega)).2.1]; exact g7_37
  have g8_38 : S38.2.1 x 8 = .ref (x + 86) := by rw [((w38.b (lo := x) (hi := x + 1) (by omega)) (x) (by omega) (by omega)).2.1]; exact g8_37
  have i87_38 : ∀ j, I38 (x + 87) j = 0 := fun j => by rw [((w38.b (lo := x + 87) (hi := x + 87 + 1) (by omega)) (x + 87) (by omega) (by omega)).2.2]; exact i87_37 j
  have g9_38 : S38.2.1 x 9 = .ref (x + 87) := by rw [((w38.b (lo := x) (hi := x + 1) (by omega)) (x) (by omega) (by omega)).2.1]; exact g9_37
  have v10_38 : I38 x 10 = 0 := by rw [((w38.b (lo := x) (hi := x + 1) (by omega)) (x) (by omega) (by omega)).2.2]; exact v10_37
  have ls0_38 : LaySh S38 (x + 88) := ls0_37.eb (w38.b (lo := x + 88) (hi := x + 88 + 2) (by omega))
  have is0_38 : IniSh I38 (x + 88) := is0_37.eb (w38.b (lo := x + 88) (hi := x + 88 + 2) (by omega))
  have ls1_38 : LaySh S38 (x + 90) := ls1_37.eb (w38.b (lo := x + 90) (hi := x + 90 + 2) (by omega))
  have is1_38 : IniSh I38 (x + 90) := is1_37.eb (w38.b (lo := x + 90) (hi := x + 90 + 2) (by omega))
  have ls2_38 : LaySh S38 (x + 92) := ls2_37.eb (w38.b (lo := x + 92) (hi := x + 92 + 2) (by omega))
  have is2_38 : IniSh I38 (x + 92) := is2_37.eb (w38.b (lo := x + 92) (hi := x + 92 + 2) (by omega))
  have ls3_38 : LaySh S38 (x + 94) := ls3_37.eb (w38.b (lo := x + 94) (hi := x + 94 + 2) (by omega))
  have is3_38 : IniSh I38 (x + 94) := is3_37.eb (w38.b (lo := x + 94) (hi := x + 94 + 2) (by omega))
  have h0_38 : S38.1 (x) = some (9, 0) := by rw [((w38.b (lo := x) (hi := x + 1) (by omega)) (x) (by omega) (by omega)).1]; exact h0_37
  have c84_38 : S38.1 (x + 84) = some (24, 14) := by rw [((w38.b (lo := x + 84) (hi := x + 84 + 1) (by omega)) (x + 84) (by omega) (by omega)).1]; exact c84_37
  have c85_38 : S38.1 (x + 85) = some (25, 4) := by rw [((w38.b (lo := x + 85) (hi := x + 85 + 1) (by omega)) (x + 85) (by omega) (by omega)).1]; exact c85_37
  have c86_38 : S38.1 (x + 86) = some (26, 5) := by rw [((w38.b (lo := x + 86) (hi := x + 86 + 1) (by omega)) (x + 86) (by omega) (by omega)).1]; exact c86_37
  have c87_38 : S38.1 (x + 87) = some (20, 60) := by rw [((w38.b (lo := x + 87) (hi := x + 87 + 1) (by omega)) (x + 87) (by omega) (by omega)).1]; exact c87_37
  have a85x0_38 : S38.2.1 (x + 85) 0 = .ref (x + 88) := by rw [((w38.b (lo := x + 85) (hi := x + 85 + 1) (by omega)) (x + 85) (by omega) (by omega)).2.1]; exact a85x0_37
  have a85x1_38 : S38.2.1 (x + 85) 1 = .ref (x + 90) := by rw [((w38.b (lo := x + 85) (hi := x + 85 + 1) (by omega)) (x + 85) (by omega) (by omega)).2.1]; exact a85x1_37
  have a85x2_38 : S38.2.1 (x + 85) 2 = .ref (x + 92) := by rw [((w38.b (lo := x + 85) (hi := x + 85 + 1) (by omega)) (x + 85) (by omega) (by omega)).2.1]; exact a85x2_37
  have a85x3_38 : S38.2.1 (x + 85) 3 = .ref (x + 94) := by rw [((w38.b (lo := x + 85) (hi := x + 85 + 1) (by omega)) (x + 85) (by omega) (by omega)).2.1]; exact a85x3_37
  have eB_38 : EqB 0 x S I S38 I38 := eB_37.tr (w38.b (lo := 0) (hi := x) (by omega))
  clear lv0_37 iv0_37 g0_37 lv1_37 iv1_37 g1_37 v2_37 lp_37 g3_37 lt_37 it_37 i8_37 g4_37 lr_37 g5_37 g6_37 g7_37 g8_37 i87_37 g9_37 v10_37 ls0_37 is0_37 ls1_37 is1_37 ls2_37 is2_37 ls3_37 is3_37 h0_37 c84_37 c85_37 c86_37 c87_37 a85x0_37 a85x1_37 a85x2_37 a85x3_37 eB_37
  refine v_dup (n := 144) dX10_init_143 rfl rfl ?_
  refine v_callIN (n := 147) (host := "SnowOwed") mc_X7_init (by decide) iv_X7_init rfl (k_X7_init (ro := ro) w38.1 w38.2.1) ⟨rfl, rfl⟩ (l8 rfl) ⟨l8 rfl, l8 rfl⟩ rfl rfl (l8 rfl) dX10_init_144 rfl ?_
  rintro _ S39 I39 ⟨rfl, lv39, iv39, zv39, ev39, fv39⟩
  have lv0_39 : LayV S39 (x + 1) := lv0_38.eb (ev39.sub (lo2 := x + 1) (hi2 := x + 1 + 11) (by omega) (by omega))
  have iv0_39 : IniV S39 I39 (x + 1) := iv0_38.eb (ev39.sub (lo2 := x + 1) (hi2 := x + 1 + 11) (by omega) (by omega))
  have g0_39 : S39.2.1 x 0 = .ref (x + 1) := by rw [((ev39.sub (lo2 := x) (hi2 := x + 1) (by omega) (by omega)) (x) (by omega) (by omega)).2.1]; exact g0_38
  have lv1_39 : LayV S39 (x + 12) := lv1_38.eb (ev39.sub (lo2 := x + 12) (hi2 := x + 12 + 11) (by omega) (by omega))
  have iv1_39 : IniV S39 I39 (x + 12) := iv1_38.eb (ev39.sub (lo2 := x + 12) (hi2 := x + 12 + 11) (by omega) (by omega))
  have g1_39 : S39.2.1 x 1 = .ref (x + 12) := by rw [((ev39.sub (lo2 := x) (hi2 := x + 1) (by omega) (by omega)) (x) (by omega) (by omega)).2.1]; exact g1_38
  have v2_39 : I39 x 2 = 0 := by rw [((ev39.sub (lo2 := x) (hi2 := x + 1) (by omega) (by omega)) (x) (by omega) (by omega)).2.2]; exact v2_38
  have lp_39 : LayP S39 (x + 23) := lp_38.eb (ev39.sub (lo2 := x + 23) (hi2 := x + 23 + 57) (by omega) (by omega))
  have g3_39 : S39.2.1 x 3 = .ref (x + 23) := by rw [((ev39.sub (lo2 := x) (hi2 := x + 1) (by omega) (by omega)) (x) (by omega) (by omega)).2.1]; exact g3_38
  have lt_39 : LayT S39 (x + 80) := lt_38.eb (ev39.sub (lo2 := x + 80) (hi2 := x + 80 + 2) (by omega) (by omega))
  have it_39 : ∀ j, I39 (x + 80 + 1) j = 0 := fun j => by rw [((ev39.sub (lo2 := x + 80 + 1) (hi2 := x + 80 + 1 + 1) (by omega) (by omega)) (x + 80 + 1) (by omega) (by omega)).2.2]; exact it_38 j
  have i8_39 : I39 (x + 80) 1 = 0 := by rw [((ev39.sub (lo2 := x + 80) (hi2 := x + 80 + 1) (by omega) (by omega)) (x + 80) (by omega) (by omega)).2.2]; exact i8_38
  have g4_39 : S39.2.1 x 4 = .ref (x + 80) := by rw [((ev39.sub (lo2 := x) (hi2 := x + 1) (by omega) (by omega)) (x) (by omega) (by omega)).2.1]; exact g4_38
  have lr_39 : LayRd S39 (x + 82) := lr_38.eb (ev39.sub (lo2 := x + 82) (hi2 := x + 82 + 2) (by omega) (by omega))
  have g5_39 : S39.2.1 x 5 = .ref (x + 82) := by rw [((ev39.sub (lo2 := x) (hi2 := x + 1) (by omega) (by omega)) (x) (by omega) (by omega)).2.1]; exact g5_38
  have g6_39 : S39.2.1 x 6 = .ref (x + 84) := by rw [((ev39.sub (lo2 := x) (hi2 := x + 1) (by omega) (by omega)) (x) (by omega) (by omega)).2.1]; exact g6_38
  have g7_39 : S39.2.1 x 7 = .ref (x + 85) := by rw [((ev39.sub (lo2 := x) (hi2 := x + 1) (by omega) (by omega)) (x) (by omega) (by omega)).2.1]; exact g7_38
  have g8_39 : S39.2.1 x 8 = .ref (x + 86) := by rw [((ev39.sub (lo2 := x) (hi2 := x + 1) (by omega) (by omega)) (x) (by omega) (by omega)).2.1]; exact g8_38
  have i87_39 : ∀ j, I39 (x + 87) j = 0 := fun j => by rw [((ev39.sub (lo2 := x + 87) (hi2 := x + 87 + 1) (by omega) (by omega)) (x + 87) (by omega) (by omega)).2.2]; exact i87_38 j
  have g9_39 : S39.2.1 x 9 = .ref (x + 87) := by rw [((ev39.sub (lo2 := x) (hi2 := x + 1) (by omega) (by omega)) (x) (by omega) (by omega)).2.1]; exact g9_38
  have v10_39 : I39 x 10 = 0 := by rw [((ev39.sub (lo2 := x) (hi2 := x + 1) (by omega) (by omega)) (x) (by omega) (by omega)).2.2]; exact v10_38
  have ls0_39 : LaySh S39 (x + 88) := ls0_38.eb (ev39.sub (lo2 := x + 88) (hi2 := x + 88 + 2) (by omega) (by omega))
  have is0_39 : IniSh I39 (x + 88) := is0_38.eb (ev39.sub (lo2 := x + 88) (hi2 := x + 88 + 2) (by omega) (by omega))
  have ls1_39 : LaySh S39 (x + 90) := ls1_38.eb (ev39.sub (lo2 := x + 90) (hi2 := x + 90 + 2) (by omega) (by omega))
  have is1_39 : IniSh I39 (x + 90) := is1_38.eb (ev39.sub (lo2 := x + 90) (hi2 := x + 90 + 2) (by omega) (by omega))
  have ls2_39 : LaySh S39 (x + 92) := ls2_38.eb (ev39.sub (lo2 := x + 92) (hi2 := x + 92 + 2) (by omega) (by omega))
  have is2_39 : IniSh I39 (x + 92) := is2_38.eb (ev39.sub (lo2 := x + 92) (hi2 := x + 92 + 2) (by omega) (by omega))
  have ls3_39 : LaySh S39 (x + 94) := ls3_38.eb (ev39.sub (lo2 := x + 94) (hi2 := x + 94 + 2) (by omega) (by omega))
  have is3_39 : IniSh I39 (x + 94) := is3_38.eb (ev39.sub (lo2 := x + 94) (hi2 := x + 94 + 2) (by omega) (by omega))
  have h0_39 : S39.1 (x) = some (9, 0) := by rw [((ev39.sub (lo2 := x) (hi2 := x + 1) (by omega) (by omega)) (x) (by omega) (by omega)).1]; exact h0_38
  have c84_39 : S39.1 (x + 84) = some (24, 14) := by rw [((ev39.sub (lo2 := x + 84) (hi2 := x + 84 + 1) (by omega) (by omega)) (x + 84) (by omega) (by omega)).1]; exact c84_38
  have c85_39 : S39.1 (x + 85) = some (25, 4) := by rw [((ev39.sub (lo2 := x + 85) (hi2 := x + 85 + 1) (by omega) (by omega)) (x + 85) (by omega) (by omega)).1]; exact c85_38
  have c86_39 : S39.1 (x + 86) = some (26, 5) := by rw [((ev39.sub (lo2 := x + 86) (hi2 := x + 86 + 1) (by omega) (by omega)) (x + 86) (by omega) (by omega)).1]; exact c86_38
  have c87_39 : S39.1 (x + 87) = some (20, 60) := by rw [((ev39.sub (lo2 := x + 87) (hi2 := x + 87 + 1) (by omega) (by omega)) (x + 87) (by omega) (by omega)).1]; exact c87_38
  have a85x0_39 : S39.2.1 (x + 85) 0 = .ref (x + 88) := by rw [((ev39.sub (lo2 := x + 85) (hi2 := x + 85 + 1) (by omega) (by omega)) (x + 85) (by omega) (by omega)).2.1]; exact a85x0_38
  have a85x1_39 : S39.2.1 (x + 85) 1 = .ref (x + 90) := by rw [((ev39.sub (lo2 := x + 85) (hi2 := x + 85 + 1) (by omega) (by omega)) (x + 85) (by omega) (by omega)).2.1]; exact a85x1_38
  have a85x2_39 : S39.2.1 (x + 85) 2 = .ref (x + 92) := by rw [((ev39.sub (lo2 := x + 85) (hi2 := x + 85 + 1) (by omega) (by omega)) (x + 85) (by omega) (by omega)).2.1]; exact a85x2_38
  have a85x3_39 : S39.2.1 (x + 85) 3 = .ref (x + 94) := by rw [((ev39.sub (lo2 := x + 85) (hi2 := x + 85 + 1) (by omega) (by omega)) (x + 85) (by omega) (by omega)).2.1]; exact a85x3_38
  have eB_39 : EqB 0 x S I S39 I39 := eB_38.tr (ev39.sub (lo2 := 0) (hi2 := x) (by omega) (by omega))
  clear lv0_38 iv0_38 g0_38 lv1_38 iv1_38 g1_38 v2_38 lp_38 g3_38 lt_38 it_38 i8_38 g4_38 lr_38 g5_38 g6_38 g7_38 g8_38 i87_38 g9_38 v10_38 ls0_38 is0_38 ls1_38 is1_38 ls2_38 is2_38 ls3_38 is3_38 h0_38 c84_38 c85_38 c86_38 c87_38 a85x0_38 a85x1_38 a85x2_38 a85x3_38 eB_38
  have z39 : S39.2.2 = x + 99 := zv39
  clear z37
  have ll0_39 : LaySl S39 (x + 96) := lv39
  have il0_39 : I39 (x + 96) 1 = 0 := iv39
  refine v_aO (n := 148) (t := 6) (j := 0) ⟨by decide, by decide⟩ c86_39 (ix_lit rfl rfl rfl) (ll0_39).s dX10_init_147 rfl (fun S40 p40 => ?_)
  have lv0_40 : LayV S40 (x + 1) := lv0_39.eb (p40.b (lo := x + 1) (hi := x + 1 + 11) (I := I39) (by omega))
  have iv0_40 : IniV S40 I39 (x + 1) := iv0_39.eb (p40.b (lo := x + 1) (hi := x + 1 + 11) (I := I39) (by omega))
  have g0_40 : S40.2.1 x 0 = .ref (x + 1) := by rw [((p40.b (lo := x) (hi := x + 1) (I := I39) (by omega)) (x) (by omega) (by omega)).2.1]; exact g0_39
  have lv1_40 : LayV S40 (x + 12) := lv1_39.eb (p40.b (lo := x + 12) (hi := x + 12 + 11) (I := I39) (by omega))
  have iv1_40 : IniV S40 I39 (x + 12) := iv1_39.eb (p40.b (lo := x + 12) (hi := x + 12 + 11) (I := I39) (by omega))
  have g1_40 : S40.2.1 x 1 = .ref (x + 12) := by rw [((p40.b (lo := x) (hi := x + 1) (I := I39) (by omega)) (x) (by omega) (by omega)).2.1]; exact g1_39
  have v2_40 : I39 x 2 = 0 := by rw [((p40.b (lo := x) (hi := x + 1) (I := I39) (by omega)) (x) (by omega) (by omega)).2.2]; exact v2_39
  have lp_40 : LayP S40 (x + 23) := lp_39.eb (p40.b (lo := x + 23) (hi := x + 23 + 57) (I := I39) (by omega))
  have g3_40 : S40.2.1 x 3 = .ref (x + 23) := by rw [((p40.b (lo := x) (hi := x + 1) (I := I39) (by omega)) (x) (by omega) (by omega)).2.1]; exact g3_39
  have lt_40 : LayT S40 (x + 80) := lt_39.eb (p40.b (lo := x + 80) (hi := x + 80 + 2) (I := I39) (by omega))
  have it_40 : ∀ j, I39 (x + 80 + 1) j = 0 := fun j => by rw [((p40.b (lo := x + 80 + 1) (hi := x + 80 + 1 + 1) (I := I39) (by omega)) (x + 80 + 1) (by omega) (by omega)).2.2]; exact it_39 j
  have i8_40 : I39 (x + 80) 1 = 0 := by rw [((p40.b (lo := x + 80) (hi := x + 80 + 1) (I := I39) (by omega)) (x + 80) (by omega) (by omega)).2.2]; exact i8_39
  have g4_40 : S40.2.1 x 4 = .ref (x + 80) := by rw [((p40.b (lo := x) (hi := x + 1) (I := I39) (by omega)) (x) (by omega) (by omega)).2.1]; exact g4_39
  have lr_40 : LayRd S40 (x + 82) := lr_39.eb (p40.b (lo := x + 82) (hi := x + 82 + 2) (I := I39) (by omega))
  have g5_40 : S40.2.1 x 5 = .ref (x + 82) := by rw [((p40.b (lo := x) (hi := x + 1) (I := I39) (by omega)) (x) (by omega) (by omega)).2.1]; exact g5_39
  have g6_40 : S40.2.1 x 6 = .ref (x + 84) := by rw [((p40.b (lo := x) (hi := x + 1) (I := I39) (by omega)) (x) (by omega) (by omega)).2.1]; exact g6_39
  have g7_40 : S40.2.1 x 7 = .ref (x + 85) := by rw [((p40.b (lo := x) (hi := x + 1) (I := I39) (by omega)) (x) (by omega) (by omega)).2.1]; exact g7_39
  have g8_40 : S40.2.1 x 8 = .ref (x + 86) := by rw [((p40.b (lo := x) (hi := x + 1) (I := I39) (by omega)) (x) (by omega) (by omega)).2.1]; exact g8_39
  have i87_40 : ∀ j, I39 (x + 87) j = 0 := fun j => by rw [((p40.b (lo := x + 87) (hi := x + 87 + 1) (I := I39) (by omega)) (x + 87) (by omega) (by omega)).2.2]; exact i87_39 j
  have g9_40 : S40.2.1 x 9 = .ref (x + 87) := by rw [((p40.b (lo := x) (hi := x + 1) (I := I39) (by omega)) (x) (by omega) (by omega)).2.1]; exact g9_39
  have v10_40 : I39 x 10 = 0 := by rw [((p40.b (lo := x) (hi := x + 1) (I := I39) (by omega)) (x) (by omega) (by omega)).2.2]; exact v10_39
  have ls0_40 : LaySh S40 (x + 88) := ls0_39.eb (p40.b (lo := x + 88) (hi := x + 88 + 2) (I := I39) (by omega))
  have is0_40 : IniSh I39 (x + 88) := is0_39.eb (p40.b (lo := x + 88) (hi := x + 88 + 2) (I := I39) (by omega))
  have ls1_40 : LaySh S40 (x + 90) := ls1_39.eb (p40.b (lo := x + 90) (hi := x + 90 + 2) (I := I39) (by omega))
  have is1_40 : IniSh I39 (x + 90) := is1_39.eb (p40.b (lo := x + 90) (hi := x + 90 + 2) (I := I39) (by omega))
  have ls2_40 : LaySh S40 (x + 92) := ls2_39.eb (p40.b (lo := x + 92) (hi := x + 92 + 2) (I := I39) (by omega))
  have is2_40 : IniSh I39 (x + 92) := is2_39.eb (p40.b (lo := x + 92) (hi := x + 92 + 2) (I := I39) (by omega))
  have ls3_40 : LaySh S40 (x + 94) := ls3_39.eb (p40.b (lo := x + 94) (hi := x + 94 + 2) (I := I39) (by omega))
  have is3_40 : IniSh I39 (x + 94) := is3_39.eb (p40.b (lo := x + 94) (hi := x + 94 + 2) (I := I39) (by omega))
  have a85x0_40 : S40.2.1 (x + 85) 0 = .ref (x + 88) := by rw [((p40.b (lo := x + 85) (hi := x + 85 + 1) (I := I39) (by omega)) (x + 85) (by omega) (by omega)).2.1]; exact a85x0_39
  have a85x1_40 : S40.2.1 (x + 85) 1 = .ref (x + 90) := by rw [((p40.b (lo := x + 85) (hi := x + 85 + 1) (I := I39) (by omega)) (x + 85) (by omega) (by omega)).2.1]; exact a85x1_39
  have a85x2_40 : S40.2.1 (x + 85) 2 = .ref (x + 92) := by rw [((p40.b (lo := x + 85) (hi := x + 85 + 1) (I := I39) (by omega)) (x + 85) (by omega) (by omega)).2.1]; exact a85x2_39
  have a85x3_40 : S40.2.1 (x + 85) 3 = .ref (x + 94) := by rw [((p40.b (lo := x + 85) (hi := x + 85 + 1) (I := I39) (by omega)) (x + 85) (by omega) (by omega)).2.1]; exact a85x3_39
  have ll0_40 : LaySl S40 (x + 96) := ll0_39.eb (p40.b (lo := x + 96) (hi := x + 96 + 3) (I := I39) (by omega))
  have il0_40 : I39 (x + 96) 1 = 0 := by rw [((p40.b (lo := x + 96) (hi := x + 96 + 1) (I := I39) (by omega)) (x + 96) (by omega) (by omega)).2.2]; exact il0_39
  have eB_40 : EqB 0 x S I S40 I39 := eB_39.tr (p40.b (lo := 0) (hi := x) (I := I39) (by omega))
  clear lv0_39 iv0_39 g0_39 lv1_39 iv1_39 g1_39 v2_39 lp_39 g3_39 lt_39 it_39 i8_39 g4_39 lr_39 g5_39 g6_39 g7_39 g8_39 i87_39 g9_39 v10_39 ls0_39 is0_39 ls1_39 is1_39 ls2_39 is2_39 ls3_39 is3_39 a85x0_39 a85x1_39 a85x2_39 a85x3_39 ll0_39 il0_39 eB_39
  have h0_40 : S40.1 (x) = some (9, 0) := by rw [p40.1]; exact h0_39
  have c84_40 : S40.1 (x + 84) = some (24, 14) := by rw [p40.1]; exact c84_39
  have c85_40 : S40.1 (x + 85) = some (25, 4) := by rw [p40.1]; exact c85_39
  have c86_40 : S40.1 (x + 86) = some (26, 5) := by rw [p40.1]; exact c86_39
  have c87_40 : S40.1 (x + 87) = some (20, 60) := by rw [p40.1]; exact c87_39
  clear h0_39 c84_39 c85_39 c86_39 c87_39
  have z40 : S40.2.2 = x + 99 := by rw [p40.2.1]; exact z39
  clear z39
  have a86x0_40 : S40.2.1 (x + 86) 0 = .ref (x + 96) := p40.2.2.1
  refine v_iinc (n := 151) (v := 1) (al' := [.ref x, .int 1]) dX10_init_148 rfl (by decide) rfl rfl rfl ?_
  refine v_goto (tgt := 130) dX10_init_151 (by decide) ?_
  refine v_iload_n (n := 131) dX10_init_130 rfl rfl rfl ?_
  refine v_iconst (n := 132) (v := 5) dX10_init_131 c_5 rfl ?_
  refine v_icmp_ge (n := 135) (tgt := 154) dX10_init_132 (by decide) rfl (fun z => absurd z (by decide)) (fun _ => ?_)
  refine v_aload_n (n := 136) dX10_init_135 rfl rfl rfl ?_
  refine v_getR (n := 139) f_X10_58 rfl h0_40 g8_40 dX10_init_136 rfl ?_
  refine v_iload_n (n := 140) dX10_init_139 rfl rfl rfl ?_
  refine v_nO (n := 143) (ci := 6) (N := 6) (e := x + 99) z40 (by decide) rfl cl_X10_56 in_X7 ini_X7 ⟨l8 rfl, l8 rfl⟩ dX10_init_140 rfl (fun S41 I41 w41 => ?_)
  have lv0_41 : LayV S41 (x + 1) := lv0_40.eb (w41.b (lo := x + 1) (hi := x + 1 + 11) (by omega))
  have iv0_41 : IniV S41 I41 (x + 1) := iv0_40.eb (w41.b (lo := x + 1) (hi := x + 1 + 11) (by omega))
  have g0_41 : S41.2.1 x 0 = .ref (x + 1) := by rw [((w41.b (lo := x) (hi := x + 1) (by omega)) (x) (by omega) (by omega)).2.1]; exact g0_40
  have lv1_41 : LayV S41 (x + 12) := lv1_40.eb (w41.b (lo := x + 12) (hi := x + 12 + 11) (by omega))
  have iv1_41 : IniV S41 I41 (x + 12) := iv1_40.eb (w41.b (lo := x + 12) (hi := x + 12 + 11) (by omega))
  have g1_41 : S41.2.1 x 1 = .ref (x + 12) := by rw [((w41.b (lo := x) (hi := x + 1) (by omega)) (x) (by omega) (by omega)).2.1]; exact g1_40
  have v2_41 : I41 x 2 = 0 := by rw [((w41.b (lo := x) (hi := x + 1) (by omega)) (x) (by omega) (by omega)).2.2]; exact v2_40
  have lp_41 : LayP S41 (x + 23) := lp_40.eb (w41.b (lo := x + 23) (hi := x + 23 + 57) (by omega))
  have g3_41 : S41.2.1 x 3 = .ref (x + 23) := by rw [((w41.b (lo := x) (hi := x + 1) (by omega)) (x) (by omega) (by omega)).2.1]; exact g3_40
  have lt_41 : LayT S41 (x + 80) := lt_40.eb (w41.b (lo := x + 80) (hi := x + 80 + 2) (by omega))
  have it_41 : ∀ j, I41 (x + 80 + 1) j = 0 := fun j => by rw [((w41.b (lo := x + 80 + 1) (hi := x + 80 + 1 + 1) (by omega)) (x + 80 + 1) (by omega) (by omega)).2.2]; exact it_40 j
  have i8_41 : I41 (x + 80) 1 = 0 := by rw [((w41.b (lo := x + 80) (hi := x + 80 + 1) (by omega)) (x + 80) (by omega) (by omega)).2.2]; exact i8_40
  have g4_41 : S41.2.1 x 4 = .ref (x + 80) := by rw [((w41.b (lo := x) (hi := x + 1) (by omega)) (x) (by omega) (by omega)).2.1]; exact g4_40
  have lr_41 : LayRd S41 (x + 82) := lr_40.eb (w41.b (lo := x + 82) (hi := x + 82 + 2) (by omega))
  have g5_41 : S41.2.1 x 5 = .ref (x + 82) := by rw [((w41.b (lo := x) (hi := x + 1) (by omega)) (x) (by omega) (by omega)).2.1]; exact g5_40
  have g6_41 : S41.2.1 x 6 = .ref (x + 84) := by rw [((w41.b (lo := x) (hi := x + 1) (by omega)) (x) (by omega) (by omega)).2.1]; exact g6_40
  have g7_41 : S41.2.1 x 7 = .ref (x + 85) := by rw [((w41.b (lo := x) (hi := x + 1) (by omega)) (x) (by omega) (by omega)).2.1]; exact g7_40
  have g8_41 : S41.2.1 x 8 = .ref (x + 86) := by rw [((w41.b (lo := x) (hi := x + 1) (by omega)) (x) (by omega) (by omega)).2.1]; exact g8_40
  have i87_41 : ∀ j, I41 (x + 87) j = 0 := fun j => by rw [((w41.b (lo := x + 87) (hi := x + 87 + 1) (by omega)) (x + 87) (by omega) (by omega)).2.2]; exact i87_40 j
  have g9_41 : S41.2.1 x 9 = .ref (x + 87) := by rw [((w41.b (lo := x) (hi := x + 1) (by omega)) (x) (by omega) (by omega)).2.1]; exact g9_40
  have v10_41 : I41 x 10 = 0 := by rw [((w41.b (lo := x) (hi := x + 1) (by omega)) (x) (by omega) (by omega)).2.2]; exact v10_40
  have ls0_41 : LaySh S41 (x + 88) := ls0_40.eb (w41.b (lo := x + 88) (hi := x + 88 + 2) (by omega))
  have is0_41 : IniSh I41 (x + 88) := is0_40.eb (w41.b (lo := x + 88) (hi := x + 88 + 2) (by omega))
  have ls1_41 : LaySh S41 (x + 90) := ls1_40.eb (w41.b (lo := x + 90) (hi := x + 90 + 2) (by omega))
  have is1_41 : IniSh I41 (x + 90) := is1_40.eb (w41.b (lo := x + 90) (hi := x + 90 + 2) (by omega))
  have ls2_41 : LaySh S41 (x + 92) := ls2_40.eb (w41.b (lo := x + 92) (hi := x + 92 + 2) (by omega))
  have is2_41 : IniSh I41 (x + 92) := is2_40.eb (w41.b (lo := x + 92) (hi := x + 92 + 2) (by omega))
  have ls3_41 : LaySh S41 (x + 94) := ls3_40.eb (w41.b (lo := x + 94) (hi := x + 94 + 2) (by omega))
  have is3_41 : IniSh I41 (x + 94) := is3_40.eb (w41.b (lo := x + 94) (hi := x + 94 + 2) (by omega))
  have a85x0_41 : S41.2.1 (x + 85) 0 = .ref (x + 88) := by rw [((w41.b (lo := x + 85) (hi := x + 85 + 1) (by omega)) (x + 85) (by omega) (by omega)).2.1]; exact a85x0_40
  have a85x1_41 : S41.2.1 (x + 85) 1 = .ref (x + 90) := by rw [((w41.b (lo := x + 85) (hi := x + 85 + 1) (by omega)) (x + 85) (by omega) (by omega)).2.1]; exact a85x1_40
  have a85x2_41 : S41.2.1 (x + 85) 2 = .ref (x + 92) := by rw [((w41.b (lo := x + 85) (hi := x + 85 + 1) (by omega)) (x + 85) (by omega) (by omega)).2.1]; exact a85x2_40
  have a85x3_41 : S41.2.1 (x + 85) 3 = .ref (x + 94) := by rw [((w41.b (lo := x + 85) (hi := x + 85 + 1) (by omega)) (x + 85) (by omega) (by omega)).2.1]; exact a85x3_40
  have ll0_41 : LaySl S41 (x + 96) := ll0_40.eb (w41.b (lo := x + 96) (hi := x + 96 + 3) (by omega))
  have il0_41 : I41 (x + 96) 1 = 0 := by rw [((w41.b (lo := x + 96) (hi := x + 96 + 1) (by omega)) (x + 96) (by omega) (by omega)).2.2]; exact il0_40
  have h0_41 : S41.1 (x) = some (9, 0) := by rw [((w41.b (lo := x) (hi := x + 1) (by omega)) (x) (by omega) (by omega)).1]; exact h0_40
  have c84_41 : S41.1 (x + 84) = some (24, 14) := by rw [((w41.b (lo := x + 84) (hi := x + 84 + 1) (by omega)) (x + 84) (by omega) (by omega)).1]; exact c84_40
  have c85_41 : S41.1 (x + 85) = some (25, 4) := by rw [((w41.b (lo := x + 85) (hi := x + 85 + 1) (by omega)) (x + 85) (by omega) (by omega)).1]; exact c85_40
  have c86_41 : S41.1 (x + 86) = some (26, 5) := by rw [((w41.b (lo := x + 86) (hi := x + 86 + 1) (by omega)) (x + 86) (by omega) (by omega)).1]; exact c86_40
  have c87_41 : S41.1 (x + 87) = some (20, 60) := by rw [((w41.b (lo := x + 87) (hi := x + 87 + 1) (by omega)) (x + 87) (by omega) (by omega)).1]; exact c87_40
  have a86x0_41 : S41.2.1 (x + 86) 0 = .ref (x + 96) := by rw [((w41.b (lo := x + 86) (hi := x + 86 + 1) (by omega)) (x + 86) (by omega) (by omega)).2.1]; exact a86x0_40
  have eB_41 : EqB 0 x S I S41 I41 := eB_40.tr (w41.b (lo := 0) (hi := x) (by omega))
  clear lv0_40 iv0_40 g0_40 lv1_40 iv1_40 g1_40 v2_40 lp_40 g3_40 lt_40 it_40 i8_40 g4_40 lr_40 g5_40 g6_40 g7_40 g8_40 i87_40 g9_40 v10_40 ls0_40 is0_40 ls1_40 is1_40 ls2_40 is2_40 ls3_40 is3_40 a85x0_40 a85x1_40 a85x2_40 a85x3_40 ll0_40 il0_40 h0_40 c84_40 c85_40 c86_40 c87_40 a86x0_40 eB_40
  refine v_dup (n := 144) dX10_init_143 rfl rfl ?_
  refine v_callIN (n := 147) (host := "SnowOwed") mc_X7_init (by decide) iv_X7_init rfl (k_X7_init (ro := ro) w41.1 w41.2.1) ⟨rfl, rfl⟩ (l8 rfl) ⟨l8 rfl, l8 rfl⟩ rfl rfl (l8 rfl) dX10_init_144 rfl ?_
  rintro _ S42 I42 ⟨rfl, lv42, iv42, zv42, ev42, fv42⟩
  have lv0_42 : LayV S42 (x + 1) := lv0_41.eb (ev42.sub (lo2 := x + 1) (hi2 := x + 1 + 11) (by omega) (by omega))
  have iv0_42 : IniV S42 I42 (x + 1) := iv0_41.eb (ev42.sub (lo2 := x + 1) (hi2 := x + 1 + 11) (by omega) (by omega))
  have g0_42 : S42.2.1 x 0 = .ref (x + 1) := by rw [((ev42.sub (lo2 := x) (hi2 := x + 1) (by omega) (by omega)) (x) (by omega) (by omega)).2.1]; exact g0_41
  have lv1_42 : LayV S42 (x + 12) := lv1_41.eb (ev42.sub (lo2 := x + 12) (hi2 := x + 12 + 11) (by omega) (by omega))
  have iv1_42 : IniV S42 I42 (x + 12) := iv1_41.eb (ev42.sub (lo2 := x + 12) (hi2 := x + 12 + 11) (by omega) (by omega))
  have g1_42 : S42.2.1 x 1 = .ref (x + 12) := by rw [((ev42.sub (lo2 := x) (hi2 := x + 1) (by omega) (by omega)) (x) (by omega) (by omega)).2.1]; exact g1_41
  have v2_42 : I42 x 2 = 0 := by rw [((ev42.sub (lo2 := x) (hi2 := x + 1) (by omega) (by omega)) (x) (by omega) (by omega)).2.2]; exact v2_41
  have lp_42 : LayP S42 (x + 23) := lp_41.eb (ev42.sub (lo2 := x + 23) (hi2 := x + 23 + 57) (by omega) (by omega))
  have g3_42 : S42.2.1 x 3 = .ref (x + 23) := by rw [((ev42.sub (lo2 := x) (hi2 := x + 1) (by omega) (by omega)) (x) (by omega) (by omega)).2.1]; exact g3_41
  have lt_42 : LayT S42 (x + 80) := lt_41.eb (ev42.sub (lo2 := x + 80) (hi2 := x + 80 + 2) (by omega) (by omega))
  have it_42 : ∀ j, I42 (x + 80 + 1) j = 0 := fun j => by rw [((ev42.sub (lo2 := x + 80 + 1) (hi2 := x + 80 + 1 + 1) (by omega) (by omega)) (x + 80 + 1) (by omega) (by omega)).2.2]; exact it_41 j
  have i8_42 : I42 (x + 80) 1 = 0 := by rw [((ev42.sub (lo2 := x + 80) (hi2 := x + 80 + 1) (by omega) (by omega)) (x + 80) (by omega) (by omega)).2.2]; exact i8_41
  have g4_42 : S42.2.1 x 4 = .ref (x + 80) := by rw [((ev42.sub (lo2 := x) (hi2 := x + 1) (by omega) (by omega)) (x) (by omega) (by omega)).2.1]; exact g4_41
  have lr_42 : LayRd S42 (x + 82) := lr_41.eb (ev42.sub (lo2 := x + 82) (hi2 := x + 82 + 2) (by omega) (by omega))
  have g5_42 : S42.2.1 x 5 = .ref (x + 82) := by rw [((ev42.sub (lo2 := x) (hi2 := x + 1) (by omega) (by omega)) (x) (by omega) (by omega)).2.1]; exact g5_41
  have g6_42 : S42.2.1 x 6 = .ref (x + 84) := by rw [((ev42.sub (lo2 := x) (hi2 := x + 1) (by omega) (by omega)) (x) (by omega) (by omega)).2.1]; exact g6_41
  have g7_42 : S42.2.1 x 7 = .ref (x + 85) := by rw [((ev42.sub (lo2 := x) (hi2 := x + 1) (by omega) (by omega)) (x) (by omega) (by omega)).2.1]; exact g7_41
  have g8_42 : S42.2.1 x 8 = .ref (x + 86) := by rw [((ev42.sub (lo2 := x) (hi2 := x + 1) (by omega) (by omega)) (x) (by omega) (by omega)).2.1]; exact g8_41
  have i87_42 : ∀ j, I42 (x + 87) j = 0 := fun j => by rw [((ev42.sub (lo2 := x + 87) (hi2 := x + 87 + 1) (by omega) (by omega)) (x + 87) (by omega) (by omega)).2.2]; exact i87_41 j
  have g9_42 : S42.2.1 x 9 = .ref (x + 87) := by rw [((ev42.sub (lo2 := x) (hi2 := x + 1) (by omega) (by omega)) (x) (by omega) (by omega)).2.1]; exact g9_41
  have v10_42 : I42 x 10 = 0 := by rw [((ev42.sub (lo2 := x) (hi2 := x + 1) (by omega) (by omega)) (x) (by omega) (by omega)).2.2]; exact v10_41
  have ls0_42 : LaySh S42 (x + 88) := ls0_41.eb (ev42.sub (lo2 := x + 88) (hi2 := x + 88 + 2) (by omega) (by omega))
  have is0_42 : IniSh I42 (x + 88) := is0_41.eb (ev42.sub (lo2 := x + 88) (hi2 := x + 88 + 2) (by omega) (by omega))
  have ls1_42 : LaySh S42 (x + 90) := ls1_41.eb (ev42.sub (lo2 := x + 90) (hi2 := x + 90 + 2) (by omega) (by omega))
  have is1_42 : IniSh I42 (x + 90) := is1_41.eb (ev42.sub (lo2 := x + 90) (hi2 := x + 90 + 2) (by omega) (by omega))
  have ls2_42 : LaySh S42 (x + 92) := ls2_41.eb (ev42.sub (lo2 := x + 92) (hi2 := x + 92 + 2) (by omega) (by omega))
  have is2_42 : IniSh I42 (x + 92) := is2_41.eb (ev42.sub (lo2 := x + 92) (hi2 := x + 92 + 2) (by omega) (by omega))
  have ls3_42 : LaySh S42 (x + 94) := ls3_41.eb (ev42.sub (lo2 := x + 94) (hi2 := x + 94 + 2) (by omega) (by omega))
  have is3_42 : IniSh I42 (x + 94) := is3_41.eb (ev42.sub (lo2 := x + 94) (hi2 := x + 94 + 2) (by omega) (by omega))
  have a85x0_42 : S42.2.1 (x + 85) 0 = .ref (x + 88) := by rw [((ev42.sub (lo2 := x + 85) (hi2 := x + 85 + 1) (by omega) (by omega)) (x + 85) (by omega) (by omega)).2.1]; exact a85x0_41
  have a85x1_42 : S42.2.1 (x + 85) 1 = .ref (x + 90) := by rw [((ev42.sub (lo2 := x + 85) (hi2 := x + 85 + 1) (by omega) (by omega)) (x + 85) (by omega) (by omega)).2.1]; exact a85x1_41
  have a85x2_42 : S42.2.1 (x + 85) 2 = .ref (x + 92) := by rw [((ev42.sub (lo2 := x + 85) (hi2 := x + 85 + 1) (by omega) (by omega)) (x + 85) (by omega) (by omega)).2.1]; exact a85x2_41
  have a85x3_42 : S42.2.1 (x + 85) 3 = .ref (x + 94) := by rw [((ev42.sub (lo2 := x + 85) (hi2 := x + 85 + 1) (by omega) (by omega)) (x + 85) (by omega) (by omega)).2.1]; exact a85x3_41
  have ll0_42 : LaySl S42 (x + 96) := ll0_41.eb (ev42.sub (lo2 := x + 96) (hi2 := x + 96 + 3) (by omega) (by omega))
  have il0_42 : I42 (x + 96) 1 = 0 := by rw [((ev42.sub (lo2 := x + 96) (hi2 := x + 96 + 1) (by omega) (by omega)) (x + 96) (by omega) (by omega)).2.2]; exact il0_41
  have h0_42 : S42.1 (x) = some (9, 0) := by rw [((ev42.sub (lo2 := x) (hi2 := x + 1) (by omega) (by omega)) (x) (by omega) (by omega)).1]; exact h0_41
  have c84_42 : S42.1 (x + 84) = some (24, 14) := by rw [((ev42.sub (lo2 := x + 84) (hi2 := x + 84 + 1) (by omega) (by omega)) (x + 84) (by omega) (by omega)).1]; exact c84_41
  have c85_42 : S42.1 (x + 85) = some (25, 4) := by rw [((ev42.sub (lo2 := x + 85) (hi2 := x + 85 + 1) (by omega) (by omega)) (x + 85) (by omega) (by omega)).1]; exact c85_41
  have c86_42 : S42.1 (x + 86) = some (26, 5) := by rw [((ev42.sub (lo2 := x + 86) (hi2 := x + 86 + 1) (by omega) (by omega)) (x + 86) (by omega) (by omega)).1]; exact c86_41
  have c87_42 : S42.1 (x + 87) = some (20, 60) := by rw [((ev42.sub (lo2 := x + 87) (hi2 := x + 87 + 1) (by omega) (by omega)) (x + 87) (by omega) (by omega)).1]; exact c87_41
  have a86x0_42 : S42.2.1 (x + 86) 0 = .ref (x + 96) := by rw [((ev42.sub (lo2 := x + 86) (hi2 := x + 86 + 1) (by omega) (by omega)) (x + 86) (by omega) (by omega)).2.1]; exact a86x0_41
  have eB_42 : EqB 0 x S I S42 I42 := eB_41.tr (ev42.sub (lo2 := 0) (hi2 := x) (by omega) (by omega))
  clear lv0_41 iv0_41 g0_41 lv1_41 iv1_41 g1_41 v2_41 lp_41 g3_41 lt_41 it_41 i8_41 g4_41 lr_41 g5_41 g6_41 g7_41 g8_41 i87_41 g9_41 v10_41 ls0_41 is0_41 ls1_41 is1_41 ls2_41 is2_41 ls3_41 is3_41 a85x0_41 a85x1_41 a85x2_41 a85x3_41 ll0_41 il0_41 h0_41 c84_41 c85_41 c86_41 c87_41 a86x0_41 eB_41
  have z42 : S42.2.2 = x + 102 := zv42
  clear z40
  have ll1_42 : LaySl S42 (x + 99) := lv42
  have il1_42 : I42 (x + 99) 1 = 0 := iv42
  refine v_aO (n := 148) (t := 6) (j := 1) ⟨by decide, by decide⟩ c86_42 (ix_lit rfl rfl rfl) (ll1_42).s dX10_init_147 rfl (fun S43 p43 => ?_)
  have lv0_43 : LayV S43 (x + 1) := lv0_42.eb (p43.b (lo := x + 1) (hi := x + 1 + 11) (I := I42) (by omega))
  have iv0_43 : IniV S43 I42 (x + 1) := iv0_42.eb (p43.b (lo := x + 1) (hi := x + 1 + 11) (I := I42) (by omega))
  have g0_43 : S43.2.1 x 0 = .ref (x + 1) := by rw [((p43.b (lo := x) (hi := x + 1) (I := I42) (by omega)) (x) (by omega) (by omega)).2.1]; exact g0_42
  have lv1_43 : LayV S43 (x + 12) := lv1_42.eb (p43.b (lo := x + 12) (hi := x + 12 + 11) (I := I42) (by omega))
  have iv1_43 : IniV S43 I42 (x + 12) := iv1_42.eb (p43.b (lo := x + 12) (hi := x + 12 + 11) (I := I42) (by omega))
  have g1_43 : S43.2.1 x 1 = .ref (x + 12) := by rw [((p43.b (lo := x) (hi := x + 1) (I := I42) (by omega)) (x) (by omega) (by omega)).2.1]; exact g1_42
  have v2_43 : I42 x 2 = 0 := by rw [((p43.b (lo := x) (hi := x + 1) (I := I42) (by omega)) (x) (by omega) (by omega)).2.2]; exact v2_42
  have lp_43 : LayP S43 (x + 23) := lp_42.eb (p43.b (lo := x + 23) (hi := x + 23 + 57) (I := I42) (by omega))
  have g3_43 : S43.2.1 x 3 = .ref (x + 23) := by rw [((p43.b (lo := x) (hi := x + 1) (I := I42) (by omega)) (x) (by omega) (by omega)).2.1]; exact g3_42
  have lt_43 : LayT S43 (x + 80) := lt_42.eb (p43.b (lo := x + 80) (hi := x + 80 + 2) (I := I42) (by omega))
  have it_43 : ∀ j, I42 (x + 80 + 1) j = 0 := fun j => by rw [((p43.b (lo := x + 80 + 1) (hi := x + 80 + 1 + 1) (I := I42) (by omega)) (x + 80 + 1) (by omega) (by omega)).2.2]; exact it_42 j
  have i8_43 : I42 (x + 80) 1 = 0 := by rw [((p43.b (lo := x + 80) (hi := x + 80 + 1) (I := I42) (by omega)) (x + 80) (by omega) (by omega)).2.2]; exact i8_42
  have g4_43 : S43.2.1 x 4 = .ref (x + 80) := by rw [((p43.b (lo := x) (hi := x + 1) (I := I42) (by omega)) (x) (by omega) (by omega)).2.1]; exact g4_42
  have lr_43 : LayRd S43 (x + 82) := lr_42.eb (p43.b (lo := x + 82) (hi := x + 82 + 2) (I := I42) (by omega))
  have g5_43 : S43.2.1 x 5 = .ref (x + 82) := by rw [((p43.b (lo := x) (hi := x + 1) (I := I42) (by omega)) (x) (by omega) (by omega)).2.1]; exact g5_42
  have g6_43 : S43.2.1 x 6 = .ref (x + 84) := by rw [((p43.b (lo := x) (hi := x + 1) (I := I42) (by omega)) (x) (by omega) (by omega)).2.1]; exact g6_42
  have g7_43 : S43.2.1 x 7 = .ref (x + 85) := by rw [((p43.b (lo := x) (hi := x + 1) (I := I42) (by omega)) (x) (by omega) (by omega)).2.1]; exact g7_42
  have g8_43 : S43.2.1 x 8 = .ref (x + 86) := by rw [((p43.b (lo := x) (hi := x + 1) (I := I42) (by omega)) (x) (by omega) (by omega)).2.1]; exact g8_42
  have i87_43 : ∀ j, I42 (x + 87) j = 0 := fun j => by rw [((p43.b (lo := x + 87) (hi := x + 87 + 1) (I := I42) (by omega)) (x + 87) (by omega) (by omega)).2.2]; exact i87_42 j
  have g9_43 : S43.2.1 x 9 = .ref (x + 87) := by rw [((p43.b (lo := x) (hi := x + 1) (I := I42) (by omega)) (x) (by omega) (by omega)).2.1]; exact g9_42
  have v10_43 : I42 x 10 = 0 := by rw [((p43.b (lo := x) (hi := x + 1) (I := I42) (by omega)) (x) (by omega) (by omega)).2.2]; exact v10_42
  have ls0_43 : LaySh S43 (x + 88) := ls0_42.eb (p43.b (lo := x + 88) (hi := x + 88 + 2) (I := I42) (by omega))
  have is0_43 : IniSh I42 (x + 88) := is0_42.eb (p43.b (lo := x + 88) (hi := x + 88 + 2) (I := I42) (by omega))
  have ls1_43 : LaySh S43 (x + 90) := ls1_42.eb (p43.b (lo := x + 90) (hi := x + 90 + 2) (I := I42) (by omega))
  have is1_43 : IniSh I42 (x + 90) := is1_42.eb (p43.b (lo := x + 90) (hi := x + 90 + 2) (I := I42) (by omega))
  have ls2_43 : LaySh S43 (x + 92) := ls2_42.eb (p43.b (lo := x + 92) (hi := x + 92 + 2) (I := I42) (by omega))
  have is2_43 : IniSh I42 (x + 92) := is2_42.eb (p43.b (lo := x + 92) (hi := x + 92 + 2) (I := I42) (by omega))
  have ls3_43 : LaySh S43 (x + 94) := ls3_42.eb (p43.b (lo := x + 94) (hi := x + 94 + 2) (I := I42) (by omega))
  have is3_43 : IniSh I42 (x + 94) := is3_42.eb (p43.b (lo := x + 94) (hi := x + 94 + 2) (I := I42) (by omega))
  have a85x0_43 : S43.2.1 (x + 85) 0 = .ref (x + 88) := by rw [((p43.b (lo := x + 85) (hi := x + 85 + 1) (I := I42) (by omega)) (x + 85) (by omega) (by omega)).2.1]; exact a85x0_42
  have a85x1_43 : S43.2.1 (x + 85) 1 = .ref (x + 90) := by rw [((p43.b (lo := x + 85) (hi := x + 85 + 1) (I := I42) (by omega)) (x + 85) (by omega) (by omega)).2.1]; exact a85x1_42
  have a85x2_43 : S43.2.1 (x + 85) 2 = .ref (x + 92) := by rw [((p43.b (lo := x + 85) (hi := x + 85 + 1) (I := I42) (by omega)) (x + 85) (by omega) (by omega)).2.1]; exact a85x2_42
  have a85x3_43 : S43.2.1 (x + 85) 3 = .ref (x + 94) := by rw [((p43.b (lo := x + 85) (hi := x + 85 + 1) (I := I42) (by omega)) (x + 85) (by omega) (by omega)).2.1]; exact a85x3_42
  have ll0_43 : LaySl S43 (x + 96) := ll0_42.eb (p43.b (lo := x + 96) (hi := x + 96 + 3) (I := I42) (by omega))
  have il0_43 : I42 (x + 96) 1 = 0 := by rw [((p43.b (lo := x + 96) (hi := x + 96 + 1) (I := I42) (by omega)) (x + 96) (by omega) (by omega)).2.2]; exact il0_42
  have ll1_43 : LaySl S43 (x + 99) := ll1_42.eb (p43.b (lo := x + 99) (hi := x + 99 + 3) (I := I42) (by omega))
  have il1_43 : I42 (x + 99) 1 = 0 := by rw [((p43.b (lo := x + 99) (hi := x + 99 + 1) (I := I42) (by omega)) (x + 99) (by omega) (by omega)).2.2]; exact il1_42
  have eB_43 : EqB 0 x S I S43 I42 := eB_42.tr (p43.b (lo := 0) (hi := x) (I := I42) (by omega))
  clear lv0_42 iv0_42 g0_42 lv1_42 iv1_42 g1_42 v2_42 lp_42 g3_42 lt_42 it_42 i8_42 g4_42 lr_42 g5_42 g6_42 g7_42 g8_42 i87_42 g9_42 v10_42 ls0_42 is0_42 ls1_42 is1_42 ls2_42 is2_42 ls3_42 is3_42 a85x0_42 a85x1_42 a85x2_42 a85x3_42 ll0_42 il0_42 ll1_42 il1_42 eB_42
  have h0_43 : S43.1 (x) = some (9, 0) := by rw [p43.1]; exact h0_42
  have c84_43 : S43.1 (x + 84) = some (24, 14) := by rw [p43.1]; exact c84_42
  have c85_43 : S43.1 (x + 85) = some (25, 4) := by rw [p43.1]; exact c85_42
  have c86_43 : S43.1 (x + 86) = some (26, 5) := by rw [p43.1]; exact c86_42
  have c87_43 : S43.1 (x + 87) = some (20, 60) := by rw [p43.1]; exact c87_42
  have a86x0_43 : S43.2.1 (x + 86) 0 = .ref (x + 96) := by rw [p43.2.2.2.1 0 (by decide)]; exact a86x0_42
  clear h0_42 c84_42 c85_42 c86_42 c87_42 a86x0_42
  have z43 : S43.2.2 = x + 102 := by rw [p43.2.1]; exact z42
  clear z42
  have a86x1_43 : S43.2.1 (x + 86) 1 = .ref (x + 99) := p43.2.2.1
  refine v_iinc (n := 151) (v := 2) (al' := [.ref x, .int 2]) dX10_init_148 rfl (by decide) rfl rfl rfl ?_
  refine v_goto (tgt := 130) dX10_init_151 (by decide) ?_
  refine v_iload_n (n := 131) dX10_init_130 rfl rfl rfl ?_
  refine v_iconst (n := 132) (v := 5) dX10_init_131 c_5 rfl ?_
  refine v_icmp_ge (n := 135) (tgt := 154) dX10_init_132 (by decide) rfl (fun z => absurd z (by decide)) (fun _ => ?_)
  refine v_aload_n (n := 136) dX10_init_135 rfl rfl rfl ?_
  refine v_getR (n := 139) f_X10_58 rfl h0_43 g8_43 dX10_init_136 rfl ?_
  refine v_iload_n (n := 140) dX10_init_139 rfl rfl rfl ?_
  refine v_nO (n := 143) (ci := 6) (N := 6) (e := x + 102) z43 (by decide) rfl cl_X10_56 in_X7 ini_X7 ⟨l8 rfl, l8 rfl⟩ dX10_init_140 rfl (fun S44 I44 w44 => ?_)
  have lv0_44 : LayV S44 (x + 1) := lv0_43.eb (w44.b (lo := x + 1) (hi := x + 1 + 11) (by omega))
  have iv0_44 : IniV S44 I44 (x + 1) := iv0_43.eb (w44.b (lo := x + 1) (hi := x + 1 + 11) (by omega))
  have g0_44 : S44.2.1 x 0 = .ref (x + 1) := by rw [((w44.b (lo := x) (hi := x + 1) (by omega)) (x) (by omega) (by omega)).2.1]; exact g0_43
  have lv1_44 : LayV S44 (x + 12) := lv1_43.eb (w44.b (lo := x + 12) (hi := x + 12 + 11) (by omega))
  have iv1_44 : IniV S44 I44 (x + 12) := iv1_43.eb (w44.b (lo := x + 12) (hi := x + 12 + 11) (by omega))
  have g1_44 : S44.2.1 x 1 = .ref (x + 12) := by rw [((w44.b (lo := x) (hi := x + 1) (by omega)) (x) (by omega) (by omega)).2.1]; exact g1_43
  have v2_44 : I44 x 2 = 0 := by rw [((w44.b (lo := x) (hi := x + 1) (by omega)) (x) (by omega) (by omega)).2.2]; exact v2_43
  have lp_44 : LayP S44 (x + 23) := lp_43.eb (w44.b (lo := x + 23) (hi := x + 23 + 57) (by omega))
  have g3_44 : S44.2.1 x 3 = .ref (x + 23) := by rw [((w44.b (lo := x) (hi := x + 1) (by omega)) (x) (by omega) (by omega)).2.1]; exact g3_43
  have lt_44 : LayT S44 (x + 80) := lt_43.eb (w44.b (lo := x + 80) (hi := x + 80 + 2) (by omega))
  have it_44 : ∀ j, I44 (x + 80 + 1) j = 0 := fun j => by rw [((w44.b (lo := x + 80 + 1) (hi := x + 80 + 1 + 1) (by omega)) (x + 80 + 1) (by omega) (by omega)).2.2]; exact it_43 j
  have i8_44 : I44 (x + 80) 1 = 0 := by rw [((w44.b (lo := x + 80) (hi := x + 80 + 1) (by omega)) (x + 80) (by omega) (by omega)).2.2]; exact i8_43
  have g4_44 : S44.2.1 x 4 = .ref (x + 80) := by rw [((w44.b (lo := x) (hi := x + 1) (by omega)) (x) (by omega) (by omega)).2.1]; exact g4_43
  have lr_44 : LayRd S44 (x + 82) := lr_43.eb (w44.b (lo := x + 82) (hi := x + 82 + 2) (by omega))
  have g5_44 : S44.2.1 x 5 = .ref (x + 82) := by rw [((w44.b (lo := x) (hi := x + 1) (by omega)) (x) (by omega) (by omega)).2.1]; exact g5_43
  have g6_44 : S44.2.1 x 6 = .ref (x + 84) := by rw [((w44.b (lo := x) (hi := x + 1) (by omega)) (x) (by omega) (by omega)).2.1]; exact g6_43
  have g7_44 : S44.2.1 x 7 = .ref (x + 85) := by rw [((w44.b (lo := x) (hi := x + 1) (by omega)) (x) (by omega) (by omega)).2.1]; exact g7_43
  have g8_44 : S44.2.1 x 8 = .ref (x + 86) := by rw [((w44.b (lo := x) (hi := x + 1) (by omega)) (x) (by omega) (by omega)).2.1]; exact g8_43
  have i87_44 : ∀ j, I44 (x + 87) j = 0 := fun j => by rw [((w44.b (lo := x + 87) (hi := x + 87 + 1) (by omega)) (x + 87) (by omega) (by omega)).2.2]; exact i87_43 j
  have g9_44 : S44.2.1 x 9 = .ref (x + 87) := by rw [((w44.b (lo := x) (hi := x + 1) (by omega)) (x) (by omega) (by omega)).2.1]; exact g9_43
  have v10_44 : I44 x 10 = 0 := by rw [((w44.b (lo := x) (hi := x + 1) (by omega)) (x) (by omega) (by omega)).2.2]; exact v10_43
  have ls0_44 : LaySh S44 (x + 88) := ls0_43.eb (w44.b (lo := x + 88) (hi := x + 88 + 2) (by omega))
  have is0_44 : IniSh I44 (x + 88) := is0_43.eb (w44.b (lo := x + 88) (hi := x + 88 + 2) (by omega))
  have ls1_44 : LaySh S44 (x + 90) := ls1_43.eb (w44.b (lo := x + 90) (hi := x + 90 + 2) (by omega))
  have is1_44 : IniSh I44 (x + 90) := is1_43.eb (w44.b (lo := x + 90) (hi := x + 90 + 2) (by omega))
  have ls2_44 : LaySh S44 (x + 92) := ls2_43.eb (w44.b (lo := x + 92) (hi := x + 92 + 2) (by omega))
  have is2_44 : IniSh I44 (x + 92) := is2_43.eb (w44.b (lo := x + 92) (hi := x + 92 + 2) (by omega))
  have ls3_44 : LaySh S44 (x + 94) := ls3_43.eb (w44.b (lo := x + 94) (hi := x + 94 + 2) (by omega))
  have is3_44 : IniSh I44 (x + 94) := is3_43.eb (w44.b (lo := x + 94) (hi := x + 94 + 2) (by omega))
  have a85x0_44 : S44.2.1 (x + 85) 0 = .ref (x + 88) := by rw [((w44.b (lo := x + 85) (hi := x + 85 + 1) (by omega)) (x + 85) (by omega) (by omega)).2.1]; exact a85x0_43
  have a85x1_44 : S44.2.1 (x + 85) 1 = .ref (x + 90) := by rw [((w44.b (lo := x + 85) (hi := x + 85 + 1) (by omega)) (x + 85) (by omega) (by omega)).2.1]; exact a85x1_43
  have a85x2_44 : S44.2.1 (x + 85) 2 = .ref (x + 92) := by rw [((w44.b (lo := x + 85) (hi := x + 85 + 1) (by omega)) (x + 85) (by omega) (by omega)).2.1]; exact a85x2_43
  have a85x3_44 : S44.2.1 (x + 85) 3 = .ref (x + 94) := by rw [((w44.b (lo := x + 85) (hi := x + 85 + 1) (by omega)) (x + 85) (by omega) (by omega)).2.1]; exact a85x3_43
  have ll0_44 : LaySl S44 (x + 96) := ll0_43.eb (w44.b (lo := x + 96) (hi := x + 96 + 3) (by omega))
  have il0_44 : I44 (x + 96) 1 = 0 := by rw [((w44.b (lo := x + 96) (hi := x + 96 + 1) (by omega)) (x + 96) (by omega) (by omega)).2.2]; exact il0_43
  have ll1_44 : LaySl S44 (x + 99) := ll1_43.eb (w44.b (lo := x + 99) (hi := x + 99 + 3) (by omega))
  have il1_44 : I44 (x + 99) 1 = 0 := by rw [((w44.b (lo := x + 99) (hi := x + 99 + 1) (by omega)) (x + 99) (by omega) (by omega)).2.2]; exact il1_43
  have h0_44 : S44.1 (x) = some (9, 0) := by rw [((w44.b (lo := x) (hi := x + 1) (by omega)) (x) (by omega) (by omega)).1]; exact h0_43
  have c84_44 : S44.1 (x + 84) = some (24, 14) := by rw [((w44.b (lo := x + 84) (hi := x + 84 + 1) (by omega)) (x + 84) (by omega) (by omega)).1]; exact c84_43
  have c85_44 : S44.1 (x + 85) = some (25, 4) := by rw [((w44.b (lo := x + 85) (hi := x + 85 + 1) (by omega)) (x + 85) (by omega) (by omega)).1]; exact c85_43
  have c86_44 : S44.1 (x + 86) = some (26, 5) := by rw [((w44.b (lo := x + 86) (hi := x + 86 + 1) (by omega)) (x + 86) (by omega) (by omega)).1]; exact c86_43
  have c87_44 : S44.1 (x + 87) = some (20, 60) := by rw [((w44.b (lo := x + 87) (hi := x + 87 + 1) (by omega)) (x + 87) (by omega) (by omega)).1]; exact c87_43
  have a86x0_44 : S44.2.1 (x + 86) 0 = .ref (x + 96) := by rw [((w44.b (lo := x + 86) (hi := x + 86 + 1) (by omega)) (x + 86) (by omega) (by omega)).2.1]; exact a86x0_43
  have a86x1_44 : S44.2.1 (x + 86) 1 = .ref (x + 99) := by rw [((w44.b (lo := x + 86) (hi := x + 86 + 1) (by omega)) (x + 86) (by omega) (by omega)).2.1]; exact a86x1_43
  have eB_44 : EqB 0 x S I S44 I44 := eB_43.tr (w44.b (lo := 0) (hi := x) (by omega))
  clear lv0_43 iv0_43 g0_43 lv1_43 iv1_43 g1_43 v2_43 lp_43 g3_43 lt_43 it_43 i8_43 g4_43 lr_43 g5_43 g6_43 g7_43 g8_43 i87_43 g9_43 v10_43 ls0_43 is0_43 ls1_43 is1_43 ls2_43 is2_43 ls3_43 is3_43 a85x0_43 a85x1_43 a85x2_43 a85x3_43 ll0_43 il0_43 ll1_43 il1_43 h0_43 c84_43 c85_43 c86_43 c87_43 a86x0_43 a86x1_43 eB_43
  refine v_dup (n := 144) dX10_init_143 rfl rfl ?_
  refine v_callIN (n := 147) (host := "SnowOwed") mc_X7_init (by decide) iv_X7_init rfl (k_X7_init (ro := ro) w44.1 w44.2.1) ⟨rfl, rfl⟩ (l8 rfl) ⟨l8 rfl, l8 rfl⟩ rfl rfl (l8 rfl) dX10_init_144 rfl ?_
  rintro _ S45 I45 ⟨rfl, lv45, iv45, zv45, ev45, fv45⟩
  have lv0_45 : LayV S45 (x + 1) := lv0_44.eb (ev45.sub (lo2 := x + 1) (hi2 := x + 1 + 11) (by omega) (by omega))
  have iv0_45 : IniV S45 I45 (x + 1) := iv0_44.eb (ev45.sub (lo2 := x + 1) (hi2 := x + 1 + 11) (by omega) (by omega))
  have g0_45 : S45.2.1 x 0 = .ref (x + 1) := by rw [((ev45.sub (lo2 := x) (hi2 := x + 1) (by omega) (by omega)) (x) (by omega) (by omega)).2.1]; exact g0_44
  have lv1_45 : LayV S45 (x + 12) := lv1_44.eb (ev45.sub (lo2 := x + 12) (hi2 := x + 12 + 11) (by omega) (by omega))
  have iv1_45 : IniV S45 I45 (x + 12) := iv1_44.eb (ev45.sub (lo2 := x + 12) (hi2 := x + 12 + 11) (by omega) (by omega))
  have g1_45 : S45.2.1 x 1 = .ref (x + 12) := by rw [((ev45.sub (lo2 := x) (hi2 := x + 1) (by omega) (by omega)) (x) (by omega) (by omega)).2.1]; exact g1_44
  have v2_45 : I45 x 2 = 0 := by rw [((ev45.sub (lo2 := x) (hi2 := x + 1) (by omega) (by omega)) (x) (by omega) (by omega)).2.2]; exact v2_44
  have lp_45 : LayP S45 (x + 23) := lp_44.eb (ev45.sub (lo2 := x + 23) (hi2 := x + 23 + 57) (by omega) (by omega))
  have g3_45 : S45.2.1 x 3 = .ref (x + 23) := by rw [((ev45.sub (lo2 := x) (hi2 := x + 1) (by omega) (by omega)) (x) (by omega) (by omega)).2.1]; exact g3_44
  have lt_45 : LayT S45 (x + 80) := lt_44.eb (ev45.sub (lo2 := x + 80) (hi2 := x + 80 + 2) (by omega) (by omega))
  have it_45 : ∀ j, I45 (x + 80 + 1) j = 0 := fun j => by rw [((ev45.sub (lo2 := x + 80 + 1) (hi2 := x + 80 + 1 + 1) (by omega) (by omega)) (x + 80 + 1) (by omega) (by omega)).2.2]; exact it_44 j
  have i8_45 : I45 (x + 80) 1 = 0 := by rw [((ev45.sub (lo2 := x + 80) (hi2 := x + 80 + 1) (by omega) (by omega)) (x + 80) (by omega) (by omega)).2.2]; exact i8_44
  have g4_45 : S45.2.1 x 4 = .ref (x + 80) := by rw [((ev45.sub (lo2 := x) (hi2 := x + 1) (by omega) (by omega)) (x) (by omega) (by omega)).2.1]; exact g4_44
  have lr_45 : LayRd S45 (x + 82) := lr_44.eb (ev45.sub (lo2 := x + 82) (hi2 := x + 82 + 2) (by omega) (by omega))
  have g5_45 : S45.2.1 x 5 = .ref (x + 82) := by rw [((ev45.sub (lo2 := x) (hi2 := x + 1) (by omega) (by omega)) (x) (by omega) (by omega)).2.1]; exact g5_44
  have g6_45 : S45.2.1 x 6 = .ref (x + 84) := by rw [((ev45.sub (lo2 := x) (hi2 := x + 1) (by omega) (by omega)) (x) (by omega) (by omega)).2.1]; exact g6_44
  have g7_45 : S45.2.1 x 7 = .ref (x + 85) := by rw [((ev45.sub (lo2 := x) (hi2 := x + 1) (by omega) (by omega)) (x) (by omega) (by omega)).2.1]; exact g7_44
  have g8_45 : S45.2.1 x 8 = .ref (x + 86) := by rw [((ev45.sub (lo2 := x) (hi2 := x + 1) (by omega) (by omega)) (x) (by omega) (by omega)).2.1]; exact g8_44
  have i87_45 : ∀ j, I45 (x + 87) j = 0 := fun j => by rw [((ev45.sub (lo2 := x + 87) (hi2 := x + 87 + 1) (by omega) (by omega)) (x + 87) (by omega) (by omega)).2.2]; exact i87_44 j
  have g9_45 : S45.2.1 x 9 = .ref (x + 87) := by rw [((ev45.sub (lo2 := x) (hi2 := x + 1) (by omega) (by omega)) (x) (by omega) (by omega)).2.1]; exact g9_44
  have v10_45 : I45 x 10 = 0 := by rw [((ev45.sub (lo2 := x) (hi2 := x + 1) (by omega) (by omega)) (x) (by omega) (by omega)).2.2]; exact v10_44
  have ls0_45 : LaySh S45 (x + 88) := ls0_44.eb (ev45.sub (lo2 := x + 88) (hi2 := x + 88 + 2) (by omega) (by omega))
  have is0_45 : IniSh I45 (x + 88) := is0_44.eb (ev45.sub (lo2 := x + 88) (hi2 := x + 88 + 2) (by omega) (by omega))
  have ls1_45 : LaySh S45 (x + 90) := ls1_44.eb (ev45.sub (lo2 := x + 90) (hi2 := x + 90 + 2) (by omega) (by omega))
  have is1_45 : IniSh I45 (x + 90) := is1_44.eb (ev45.sub (lo2 := x + 90) (hi2 := x + 90 + 2) (by omega) (by omega))
  have ls2_45 : LaySh S45 (x + 92) := ls2_44.eb (ev45.sub (lo2 := x + 92) (hi2 := x + 92 + 2) (by omega) (by omega))
  have is2_45 : IniSh I45 (x + 92) := is2_44.eb (ev45.sub (lo2 := x + 92) (hi2 := x + 92 + 2) (by omega) (by omega))
  have ls3_45 : LaySh S45 (x + 94) := ls3_44.eb (ev45.sub (lo2 := x + 94) (hi2 := x + 94 + 2) (by omega) (by omega))
  have is3_45 : IniSh I45 (x + 94) := is3_44.eb (ev45.sub (lo2 := x + 94) (hi2 := x + 94 + 2) (by omega) (by omega))
  have a85x0_45 : S45.2.1 (x + 85) 0 = .ref (x + 88) := by rw [((ev45.sub (lo2 := x + 85) (hi2 := x + 85 + 1) (by omega) (by omega)) (x + 85) (by omega) (by omega)).2.1]; exact a85x0_44
  have a85x1_45 : S45.2.1 (x + 85) 1 = .ref (x + 90) := by rw [((ev45.sub (lo2 := x + 85) (hi2 := x + 85 + 1) (by omega) (by omega)) (x + 85) (by omega) (by omega)).2.1]; exact a85x1_44
  have a85x2_45 : S45.2.1 (x + 85) 2 = .ref (x + 92) := by rw [((ev45.sub (lo2 := x + 85) (hi2 := x + 85 + 1) (by omega) (by omega)) (x + 85) (by omega) (by omega)).2.1]; exact a85x2_44
  have a85x3_45 : S45.2.1 (x + 85) 3 = .ref (x + 94) := by rw [((ev45.sub (lo2 := x + 85) (hi2 := x + 85 + 1) (by omega) (by omega)) (x + 85) (by omega) (by omega)).2.1]; exact a85x3_44
  have ll0_45 : LaySl S45 (x + 96) := ll0_44.eb (ev45.sub (lo2 := x + 96) (hi2 := x + 96 + 3) (by omega) (by omega))
  have il0_45 : I45 (x + 96) 1 = 0 := by rw [((ev45.sub (lo2 := x + 96) (hi2 := x + 96 + 1) (by omega) (by omega)) (x + 96) (by omega) (by omega)).2.2]; exact il0_44
  have ll1_45 : LaySl S45 (x + 99) := ll1_44.eb (ev45.sub (lo2 := x + 99) (hi2 := x + 99 + 3) (by omega) (by omega))
  have il1_45 : I45 (x + 99) 1 = 0 := by rw [((ev45.sub (lo2 := x + 99) (hi2 := x + 99 + 1) (by omega) (by omega)) (x + 99) (by omega) (by omega)).2.2]; exact il1_44
  have h0_45 : S45.1 (x) = some (9, 0) := by rw [((ev45.sub (lo2 := x) (hi2 := x + 1) (by omega) (by omega)) (x) (by omega) (by omega)).1]; exact h0_44
  have c84_45 : S45.1 (x + 84) = some (24, 14) := by rw [((ev45.sub (lo2 := x + 84) (hi2 := x + 84 + 1) (by omega) (by omega)) (x + 84) (by omega) (by omega)).1]; exact c84_44
  have c85_45 : S45.1 (x + 85) = some (25, 4) := by rw [((ev45.sub (lo2 := x + 85) (hi2 := x + 85 + 1) (by omega) (by omega)) (x + 85) (by omega) (by omega)).1]; exact c85_44
  have c86_45 : S45.1 (x + 86) = some (26, 5) := by rw [((ev45.sub (lo2 := x + 86) (hi2 := x + 86 + 1) (by omega) (by omega)) (x + 86) (by omega) (by omega)).1]; exact c86_44
  have c87_45 : S45.1 (x + 87) = some (20, 60) := by rw [((ev45.sub (lo2 := x + 87) (hi2 := x + 87 + 1) (by omega) (by omega)) (x + 87) (by omega) (by omega)).1]; exact c87_44
  have a86x0_45 : S45.2.1 (x + 86) 0 = .ref (x + 96) := by rw [((ev45.sub (lo2 := x + 86) (hi2 := x + 86 + 1) (by omega) (by omega)) (x + 86) (by omega) (by omega)).2.1]; exact a86x0_44
  have a86x1_45 : S45.2.1 (x + 86) 1 = .ref (x + 99) := by rw [((ev45.sub (lo2 := x + 86) (hi2 := x + 86 + 1) (by omega) (by omega)) (x + 86) (by omega) (by omega)).2.1]; exact a86x1_44
  have eB_45 : EqB 0 x S I S45 I45 := eB_44.tr (ev45.sub (lo2 := 0) (hi2 := x) (by omega) (by omega))
  clear lv0_44 iv0_44 g0_44 lv1_44 iv1_44 g1_44 v2_44 lp_44 g3_44 lt_44 it_44 i8_44 g4_44 lr_44 g5_44 g6_44 g7_44 g8_44 i87_44 g9_44 v10_44 ls0_44 is0_44 ls1_44 is1_44 ls2_44 is2_44 ls3_44 is3_44 a85x0_44 a85x1_44 a85x2_44 a85x3_44 ll0_44 il0_44 ll1_44 il1_44 h0_44 c84_44 c85_44 c86_44 c87_44 a86x0_44 a86x1_44 eB_44
  have z45 : S45.2.2 = x + 105 := zv45
  clear z43
  have ll2_45 : LaySl S45 (x + 102) := lv45
  have il2_45 : I45 (x + 102) 1 = 0 := iv45
  refine v_aO (n := 148) (t := 6) (j := 2) ⟨by decide, by decide⟩ c86_45 (ix_lit rfl rfl rfl) (ll2_45).s dX10_init_147 rfl (fun S46 p46 => ?_)
  have lv0_46 : LayV S46 (x + 1) := lv0_45.eb (p46.b (lo := x + 1) (hi := x + 1 + 11) (I := I45) (by omega))
  have iv0_46 : IniV S46 I45 (x + 1) := iv0_45.eb (p46.b (lo := x + 1) (hi := x + 1 + 11) (I := I45) (by omega))
  have g0_46 : S46.2.1 x 0 = .ref (x + 1) := by rw [((p46.b (lo := x) (hi := x + 1) (I := I45) (by omega)) (x) (by omega) (by omega)).2.1]; exact g0_45
  have lv1_46 : LayV S46 (x + 12) := lv1_45.eb (p46.b (lo := x + 12) (hi := x + 12 + 11) (I := I45) (by omega))
  have iv1_46 : IniV S46 I45 (x + 12) := iv1_45.eb (p46.b (lo := x + 12) (hi := x + 12 + 11) (I := I45) (by omega))
  have g1_46 : S46.2.1 x 1 = .ref (x + 12) := by rw [((p46.b (lo := x) (hi := x + 1) (I := I45) (by omega)) (x) (by omega) (by omega)).2.1]; exact g1_45
  have v2_46 : I45 x 2 = 0 := by rw [((p46.b (lo := x) (hi := x + 1) (I := I45) (by omega)) (x) (by omega) (by omega)).2.2]; exact v2_45
  have lp_46 : LayP S46 (x + 23) := lp_45.eb (p46.b (lo := x + 23) (hi := x + 23 + 57) (I := I45) (by omega))
  have g3_46 : S46.2.1 x 3 = .ref (x + 23) := by rw [((p46.b (lo := x) (hi := x + 1) (I := I45) (by omega)) (x) (by omega) (by omega)).2.1]; exact g3_45
  have lt_46 : LayT S46 (x + 80) := lt_45.eb (p46.b (lo := x + 80) (hi := x + 80 + 2) (I := I45) (by omega))
  have it_46 : ∀ j, I45 (x + 80 + 1) j = 0 := fun j => by rw [((p46.b (lo := x + 80 + 1) (hi := x + 80 + 1 + 1) (I := I45) (by omega)) (x + 80 + 1) (by omega) (by omega)).2.2]; exact it_45 j
  have i8_46 : I45 (x + 80) 1 = 0 := by rw [((p46.b (lo := x + 80) (hi := x + 80 + 1) (I := I45) (by omega)) (x + 80) (by omega) (by omega)).2.2]; exact i8_45
  have g4_46 : S46.2.1 x 4 = .ref (x + 80) := by rw [((p46.b (lo := x) (hi := x + 1) (I := I45) (by omega)) (x) (by omega) (by omega)).2.1]; exact g4_45
  have lr_46 : LayRd S46 (x + 82) := lr_45.eb (p46.b (lo := x + 82) (hi := x + 82 + 2) (I := I45) (by omega))
  have g5_46 : S46.2.1 x 5 = .ref (x + 82) := by rw [((p46.b (lo := x) (hi := x + 1) (I := I45) (by omega)) (x) (by omega) (by omega)).2.1]; exact g5_45
  have g6_46 : S46.2.1 x 6 = .ref (x + 84) := by rw [((p46.b (lo := x) (hi := x + 1) (I := I45) (by omega)) (x) (by omega) (by omega)).2.1]; exact g6_45
  have g7_46 : S46.2.1 x 7 = .ref (x + 85) := by rw [((p46.b (lo := x) (hi := x + 1) (I := I45) (by omega)) (x) (by omega) (by omega)).2.1]; exact g7_45
  have g8_46 : S46.2.1 x 8 = .ref (x + 86) := by rw [((p46.b (lo := x) (hi := x + 1) (I := I45) (by omega)) (x) (by omega) (by omega)).2.1]; exact g8_45
  have i87_46 : ∀ j, I45 (x + 87) j = 0 := fun j => by rw [((p46.b (lo := x + 87) (hi := x + 87 + 1) (I := I45) (by omega)) (x + 87) (by omega) (by omega)).2.2]; exact i87_45 j
  have g9_46 : S46.2.1 x 9 = .ref (x + 87) := by rw [((p46.b (lo := x) (hi := x + 1) (I := I45) (by omega)) (x) (by omega) (by omega)).2.1]; exact g9_45
  have v10_46 : I45 x 10 = 0 := by rw [((p46.b (lo := x) (hi := x + 1) (I := I45) (by omega)) (x) (by omega) (by omega)).2.2]; exact v10_45
  have ls0_46 : LaySh S46 (x + 88) := ls0_45.eb (p46.b (lo := x + 88) (hi := x + 88 + 2) (I := I45) (by omega))
  have is0_46 : IniSh I45 (x + 88) := is0_45.eb (p46.b (lo := x + 88) (hi := x + 88 + 2) (I := I45) (by omega))
  have ls1_46 : LaySh S46 (x + 90) := ls1_45.eb (p46.b (lo := x + 90) (hi := x + 90 + 2) (I := I45) (by omega))
  have is1_46 : IniSh I45 (x + 90) := is1_45.eb (p46.b (lo := x + 90) (hi := x + 90 + 2) (I := I45) (by omega))
  have ls2_46 : LaySh S46 (x + 92) := ls2_45.eb (p46.b (lo := x + 92) (hi := x + 92 + 2) (I := I45) (by omega))
  have is2_46 : IniSh I45 (x + 92) := is2_45.eb (p46.b (lo := x + 92) (hi := x + 92 + 2) (I := I45) (by omega))
  have ls3_46 : LaySh S46 (x + 94) := ls3_45.eb (p46.b (lo := x + 94) (hi := x + 94 + 2) (I := I45) (by omega))
  have is3_46 : IniSh I45 (x + 94) := is3_45.eb (p46.b (lo := x + 94) (hi := x + 94 + 2) (I := I45) (by omega))
  have a85x0_46 : S46.2.1 (x + 85) 0 = .ref (x + 88) := by rw [((p46.b (lo := x + 85) (hi := x + 85 + 1) (I := I45) (by omega)) (x + 85) (by omega) (by omega)).2.1]; exact a85x0_45
  have a85x1_46 : S46.2.1 (x + 85) 1 = .ref (x + 90) := by rw [((p46.b (lo := x + 85) (hi := x + 85 + 1) (I := I45) (by omega)) (x + 85) (by omega) (by omega)).2.1]; exact a85x1_45
  have a85x2_46 : S46.2.1 (x + 85) 2 = .ref (x + 92) := by rw [((p46.b (lo := x + 85) (hi := x + 85 + 1) (I := I45) (by omega)) (x + 85) (by omega) (by omega)).2.1]; exact a85x2_45
  have a85x3_46 : S46.2.1 (x + 85) 3 = .ref (x + 94) := by rw [((p46.b (lo := x + 85) (hi := x + 85 + 1) (I := I45) (by omega)) (x + 85) (by omega) (by omega)).2.1]; exact a85x3_45
  have ll0_46 : LaySl S46 (x + 96) := ll0_45.eb (p46.b (lo := x + 96) (hi := x + 96 + 3) (I := I45) (by omega))
  have il0_46 : I45 (x + 96) 1 = 0 := by rw [((p46.b (lo := x + 96) (hi := x + 96 + 1) (I := I45) (by omega)) (x + 96) (by omega) (by omega)).2.2]; exact il0_45
  have ll1_46 : LaySl S46 (x + 99) := ll1_45.eb (p46.b (lo := x + 99) (hi := x + 99 + 3) (I := I45) (by omega))
  have il1_46 : I45 (x + 99) 1 = 0 := by rw [((p46.b (lo := x + 99) (hi := x + 99 + 1) (I := I45) (by omega)) (x + 99) (by omega) (by omega)).2.2]; exact il1_45
  have ll2_46 : LaySl S46 (x + 102) := ll2_45.eb (p46.b (lo := x + 102) (hi := x + 102 + 3) (I := I45) (by omega))
  have il2_46 : I45 (x + 102) 1 = 0 := by rw [((p46.b (lo := x + 102) (hi := x + 102 + 1) (I := I45) (by omega)) (x + 102) (by omega) (by omega)).2.2]; exact il2_45
  have eB_46 : EqB 0 x S I S46 I45 := eB_45.tr (p46.b (lo := 0) (hi := x) (I := I45) (by omega))
  clear lv0_45 iv0_45 g0_45 lv1_45 iv1_45 g1_45 v2_45 lp_45 g3_45 lt_45 it_45 i8_45 g4_45 lr_45 g5_45 g6_45 g7_45 g8_45 i87_45 g9_45 v10_45 ls0_45 is0_45 ls1_45 is1_45 ls2_45 is2_45 ls3_45 is3_45 a85x0_45 a85x1_45 a85x2_45 a85x3_45 ll0_45 il0_45 ll1_45 il1_45 ll2_45 il2_45 eB_45
  have h0_46 : S46.1 (x) = some (9, 0) := by rw [p46.1]; exact h0_45
  have c84_46 : S46.1 (x + 84) = some (24, 14) := by rw [p46.1]; exact c84_45
  have c85_46 : S46.1 (x + 85) = some (25, 4) := by rw [p46.1]; exact c85_45
  have c86_46 : S46.1 (x + 86) = some (26, 5) := by rw [p46.1]; exact c86_45
  have c87_46 : S46.1 (x + 87) = some (20, 60) := by rw [p46.1]; exact c87_45
  have a86x0_46 : S46.2.1 (x + 86) 0 = .ref (x + 96) := by rw [p46.2.2.2.1 0 (by decide)]; exact a86x0_45
  have a86x1_46 : S46.2.1 (x + 86) 1 = .ref (x + 99) := by rw [p46.2.2.2.1 1 (by decide)]; exact a86x1_45
  clear h0_45 c84_45 c85_45 c86_45 c87_45 a86x0_45 a86x1_45
  have z46 : S46.2.2 = x + 105 := by rw [p46.2.1]; exact z45
  clear z45
  have a86x2_46 : S46.2.1 (x + 86) 2 = .ref (x + 102) := p46.2.2.1
  refine v_iinc (n := 151) (v := 3) (al' := [.ref x, .int 3]) dX10_init_148 rfl (by decide) rfl rfl rfl ?_
  refine v_goto (tgt := 130) dX10_init_151 (by decide) ?_
  refine v_iload_n (n := 131) dX10_init_130 rfl rfl rfl ?_
  refine v_iconst (n := 132) (v := 5) dX10_init_131 c_5 rfl ?_
  refine v_icmp_ge (n := 135) (tgt := 154) dX10_init_132 (by decide) rfl (fun z => absurd z (by decide)) (fun _ => ?_)
  refine v_aload_n (n := 136) dX10_init_135 rfl rfl rfl ?_
  refine v_getR (n := 139) f_X10_58 rfl h0_46 g8_46 dX10_init_136 rfl ?_
  refine v_iload_n (n := 140) dX10_init_139 rfl rfl rfl ?_
  refine v_nO (n := 143) (ci := 6) (N := 6) (e := x + 105) z46 (by decide) rfl cl_X10_56 in_X7 ini_X7 ⟨l8 rfl, l8 rfl⟩ dX10_init_140 rfl (fun S47 I47 w47 => ?_)
  have lv0_47 : LayV S47 (x + 1) := lv0_46.eb (w47.b (lo := x + 1) (hi := x + 1 + 11) (by omega))
  have iv0_47 : IniV S47 I47 (x + 1) := iv0_46.eb (w47.b (lo := x + 1) (hi := x + 1 + 11) (by omega))
  have g0_47 : S47.2.1 x 0 = .ref (x + 1) := by rw [((w47.b (lo := x) (hi := x + 1) (by omega)) (x) (by omega) (by omega)).2.1]; exact g0_46
  have lv1_47 : LayV S47 (x + 12) := lv1_46.eb (w47.b (lo := x + 12) (hi := x + 12 + 11) (by omega))
  have iv1_47 : IniV S47 I47 (x + 12) := iv1_46.eb (w47.b (lo := x + 12) (hi := x + 12 + 11) (by omega))
  have g1_47 : S47.2.1 x 1 = .ref (x + 12) := by rw [((w47.b (lo := x) (hi := x + 1) (by omega)) (x) (by omega) (by omega)).2.1]; exact g1_46
  have v2_47 : I47 x 2 = 0 := by rw [((w47.b (lo := x) (hi := x + 1) (by omega)) (x) (by omega) (by omega)).2.2]; exact v2_46
  have lp_47 : LayP S47 (x + 23) := lp_46.eb (w47.b (lo := x + 23) (hi := x + 23 + 57) (by omega))
  have g3_47 : S47.2.1 x 3 = .ref (x + 23) := by rw [((w47.b (lo := x) (hi := x + 1) (by omega)) (x) (by omega) (by omega)).2.1]; exact g3_46
  have lt_47 : LayT S47 (x + 80) := lt_46.eb (w47.b (lo := x + 80) (hi := x + 80 + 2) (by omega))
  have it_47 : ∀ j, I47 (x + 80 + 1) j = 0 := fun j => by rw [((w47.b (lo := x + 80 + 1) (hi := x + 80 + 1 + 1) (by omega)) (x + 80 + 1) (by omega) (by omega)).2.2]; exact it_46 j
  have i8_47 : I47 (x + 80) 1 = 0 := by rw [((w47.b (lo := x + 80) (hi := x + 80 + 1) (by omega)) (x + 80) (by omega) (by omega)).2.2]; exact i8_46
  have g4_47 : S47.2.1 x 4 = .ref (x + 80) := by rw [((w47.b (lo := x) (hi := x + 1) (by omega)) (x) (by omega) (by omega)).2.1]; exact g4_46
  have lr_47 : LayRd S47 (x + 82) := lr_46.eb (w47.b (lo := x + 82) (hi := x + 82 + 2) (by omega))
  have g5_47 : S47.2.1 x 5 = .ref (x + 82) := by rw [((w47.b (lo := x) (hi := x + 1) (by omega)) (x) (by omega) (by omega)).2.1]; exact g5_46
  have g6_47 : S47.2.1 x 6 = .ref (x + 84) := by rw [((w47.b (lo := x) (hi := x + 1) (by omega)) (x) (by omega) (by omega)).2.1]; exact g6_46
  have g7_47 : S47.2.1 x 7 = .ref (x + 85) := by rw [((w47.b (lo := x) (hi := x + 1) (by omega)) (x) (by omega) (by omega)).2.1]; exact g7_46
  have g8_47 : S47.2.1 x 8 = .ref (x + 86) := by rw [((w47.b (lo := x) (hi := x + 1) (by omega)) (x) (by omega) (by omega)).2.1]; exact g8_46
  have i87_47 : ∀ j, I47 (x + 87) j = 0 := fun j => by rw [((w47.b (lo := x + 87) (hi := x + 87 + 1) (by omega)) (x + 87) (by omega) (by omega)).2.2]; exact i87_46 j
  have g9_47 : S47.2.1 x 9 = .ref (x + 87) := by rw [((w47.b (lo := x) (hi := x + 1) (by omega)) (x) (by omega) (by omega)).2.1]; exact g9_46
  have v10_47 : I47 x 10 = 0 := by rw [((w47.b (lo := x) (hi := x + 1) (by omega)) (x) (by omega) (by omega)).2.2]; exact v10_46
  have ls0_47 : LaySh S47 (x + 88) := ls0_46.eb (w47.b (lo := x + 88) (hi := x + 88 + 2) (by omega))
  have is0_47 : IniSh I47 (x + 88) := is0_46.eb (w47.b (lo := x + 88) (hi := x + 88 + 2) (by omega))
  have ls1_47 : LaySh S47 (x + 90) := ls1_46.eb (w47.b (lo := x + 90) (hi := x + 90 + 2) (by omega))
  have is1_47 : IniSh I47 (x + 90) := is1_46.eb (w47.b (lo := x + 90) (hi := x + 90 + 2) (by omega))
  have ls2_47 : LaySh S47 (x + 92) := ls2_46.eb (w47.b (lo := x + 92) (hi := x + 92 + 2) (by omega))
  have is2_47 : IniSh I47 (x + 92) := is2_46.eb (w47.b (lo := x + 92) (hi := x + 92 + 2) (by omega))
  have ls3_47 : LaySh S47 (x + 94) := ls3_46.eb (w47.b (lo := x + 94) (hi := x + 94 + 2) (by omega))
  have is3_47 : IniSh I47 (x + 94) := is3_46.eb (w47.b (lo := x + 94) (hi := x + 94 + 2) (by omega))
  have a85x0_47 : S47.2.1 (x + 85) 0 = .ref (x + 88) := by rw [((w47.b (lo := x + 85) (hi := x + 85 + 1) (by omega)) (x + 85) (by omega) (by omega)).2.1]; exact a85x0_46
  have a85x1_47 : S47.2.1 (x + 85) 1 = .ref (x + 90) := by rw [((w47.b (lo := x + 85) (hi := x + 85 + 1) (by omega)) (x + 85) (by omega) (by omega)).2.1]; exact a85x1_46
  have a85x2_47 : S47.2.1 (x + 85) 2 = .ref (x + 92) := by rw [((w47.b (lo := x + 85) (hi := x + 85 + 1) (by omega)) (x + 85) (by omega) (by omega)).2.1]; exact a85x2_46
  have a85x3_47 : S47.2.1 (x + 85) 3 = .ref (x + 94) := by rw [((w47.b (lo := x + 85) (hi := x + 85 + 1) (by omega)) (x + 85) (by omega) (by omega)).2.1]; exact a85x3_46
  have ll0_47 : LaySl S47 (x + 96) := ll0_46.eb (w47.b (lo := x + 96) (hi := x + 96 + 3) (by omega))
  have il0_47 : I47 (x + 96) 1 = 0 := by rw [((w47.b (lo := x + 96) (hi := x + 96 + 1) (by omega)) (x + 96) (by omega) (by omega)).2.2]; exact il0_46
  have ll1_47 : LaySl S47 (x + 99) := ll1_46.eb (w47.b (lo := x + 99) (hi := x + 99 + 3) (by omega))
  have il1_47 : I47 (x + 99) 1 = 0 := by rw [((w47.b (lo := x + 99) (hi := x + 99 + 1) (by omega)) (x + 99) (by omega) (by omega)).2.2]; exact il1_46
  have ll2_47 : LaySl S47 (x + 102) := ll2_46.eb (w47.b (lo := x + 102) (hi := x + 102 + 3) (by omega))
  have il2_47 : I47 (x + 102) 1 = 0 := by rw [((w47.b (lo := x + 102) (hi := x + 102 + 1) (by omega)) (x + 102) (by omega) (by omega)).2.2]; exact il2_46
  have h0_47 : S47.1 (x) = some (9, 0) := by rw [((w47.b (lo := x) (hi := x + 1) (by omega)) (x) (by omega) (by omega)).1]; exact h0_46
  have c84_47 : S47.1 (x + 84) = some (24, 14) := by rw [((w47.b (lo := x + 84) (hi := x + 84 + 1) (by omega)) (x + 84) (by omega) (by omega)).1]; exact c84_46
  have c85_47 : S47.1 (x + 85) = some (25, 4) := by rw [((w47.b (lo := x + 85) (hi := x + 85 + 1) (by omega)) (x + 85) (by omega) (by omega)).1]; exact c85_46
  have c86_47 : S47.1 (x + 86) = some (26, 5) := by rw [((w47.b (lo := x + 86) (hi := x + 86 + 1) (by omega)) (x + 86) (by omega) (by omega)).1]; exact c86_46
  have c87_47 : S47.1 (x + 87) = some (20, 60) := by rw [((w47.b (lo := x + 87) (hi := x + 87 + 1) (by omega)) (x + 87) (by omega) (by omega)).1]; exact c87_46
  have a86x0_47 : S47.2.1 (x + 86) 0 = .ref (x + 96) := by rw [((w47.b (lo := x + 86) (hi := x + 86 + 1) (by omega)) (x + 86) (by omega) (by omega)).2.1]; exact a86x0_46
  have a86x1_47 : S47.2.1 (x + 86) 1 = .ref (x + 99) := by rw [((w47.b (lo := x + 86) (hi := x + 86 + 1) (by omega)) (x + 86) (by omega) (by omega)).2.1]; exact a86x1_46
  have a86x2_47 : S47.2.1 (x + 86) 2 = .ref (x + 102) := by rw [((w47.b (lo := x + 86) (hi := x + 86 + 1) (by omega)) (x + 86) (by omega) (by omega)).2.1]; exact a86x2_46
  have eB_47 : EqB 0 x S I S47 I47 := eB_46.tr (w47.b (lo := 0) (hi := x) (by omega))
  clear lv0_46 iv0_46 g0_46 lv1_46 iv1_46 g1_46 v2_46 lp_46 g3_46 lt_46 it_46 i8_46 g4_46 lr_46 g5_46 g6_46 g7_46 g8_46 i87_46 g9_46 v10_46 ls0_46 is0_46 ls1_46 is1_46 ls2_46 is2_46 ls3_46 is3_46 a85x0_46 a85x1_46 a85x2_46 a85x3_46 ll0_46 il0_46 ll1_46 il1_46 ll2_46 il2_46 h0_46 c84_46 c85_46 c86_46 c87_46 a86x0_46 a86x1_46 a86x2_46 eB_46
  refine v_dup (n := 144) dX10_init_143 rfl rfl ?_
  refine v_callIN (n := 147) (host := "SnowOwed") mc_X7_init (by decide) iv_X7_init rfl (k_X7_init (ro := ro) w47.1 w47.2.1) ⟨rfl, rfl⟩ (l8 rfl) ⟨l8 rfl, l8 rfl⟩ rfl rfl (l8 rfl) dX10_init_144 rfl ?_
  rintro _ S48 I48 ⟨rfl, lv48, iv48, zv48, ev48, fv48⟩
  have lv0_48 : LayV S48 (x + 1) := lv0_47.eb (ev48.sub (lo2 := x + 1) (hi2 := x + 1 + 11) (by omega) (by omega))
  have iv0_48 : IniV S48 I48 (x + 1) := iv0_47.eb (ev48.sub (lo2 := x + 1) (hi2 := x + 1 + 11) (by omega) (by omega))
  have g0_48 : S48.2.1 x 0 = .ref (x + 1) := by rw [((ev48.sub (lo2 := x) (hi2 := x + 1) (by omega) (by omega)) (x) (by omega) (by omega)).2.1]; exact g0_47
  have lv1_48 : LayV S48 (x + 12) := lv1_47.eb (ev48.sub (lo2 := x + 12) (hi2 := x + 12 + 11) (by omega) (by omega))
  have iv1_48 : IniV S48 I48 (x + 12) := iv1_47.eb (ev48.sub (lo2 := x + 12) (hi2 := x + 12 + 11) (by omega) (by omega))
  have g1_48 : S48.2.1 x 1 = .ref (x + 12) := by rw [((ev48.sub (lo2 := x) (hi2 := x + 1) (by omega) (by omega)) (x) (by omega) (by omega)).2.1]; exact g1_47
  have v2_48 : I48 x 2 = 0 := by rw [((ev48.sub (lo2 := x) (hi2 := x + 1) (by omega) (by omega)) (x) (by omega) (by omega)).2.2]; exact v2_47
  have lp_48 : LayP S48 (x + 23) := lp_47.eb (ev48.sub (lo2 := x + 23) (hi2 := x + 23 + 57) (by omega) (by omega))
  have g3_48 : S48.2.1 x 3 = .ref (x + 23) := by rw [((ev48.sub (lo2 := x) (hi2 := x + 1) (by omega) (by omega)) (x) (by omega) (by omega)).2.1]; exact g3_47
  have lt_48 : LayT S48 (x + 80) := lt_47.eb (ev48.sub (lo2 := x + 80) (hi2 := x + 80 + 2) (by omega) (by omega))
  have it_48 : ∀ j, I48 (x + 80 + 1) j = 0 := fun j => by rw [((ev48.sub (lo2 := x + 80 + 1) (hi2 := x + 80 + 1 + 1) (by omega) (by omega)) (x + 80 + 1) (by omega) (by omega)).2.2]; exact it_47 j
  have i8_48 : I48 (x + 80) 1 = 0 := by rw [((ev48.sub (lo2 := x + 80) (hi2 := x + 80 + 1) (by omega) (by omega)) (x + 80) (by omega) (by omega)).2.2]; exact i8_47
  have g4_48 : S48.2.1 x 4 = .ref (x + 80) := by rw [((ev48.sub (lo2 := x) (hi2 := x + 1) (by omega) (by omega)) (x) (by omega) (by omega)).2.1]; exact g4_47
  have lr_48 : LayRd S48 (x + 82) := lr_47.eb (ev48.sub (lo2 := x + 82) (hi2 := x + 82 + 2) (by omega) (by omega))
  have g5_48 : S48.2.1 x 5 = .ref (x + 82) := by rw [((ev48.sub (lo2 := x) (hi2 := x + 1) (by omega) (by omega)) (x) (by omega) (by omega)).2.1]; exact g5_47
  have g6_48 : S48.2.1 x 6 = .ref (x + 84) := by rw [((ev48.sub (lo2 := x) (hi2 := x + 1) (by omega) (by omega)) (x) (by omega) (by omega)).2.1]; exact g6_47
  have g7_48 : S48.2.1 x 7 = .ref (x + 85) := by rw [((ev48.sub (lo2 := x) (hi2 := x + 1) (by omega) (by omega)) (x) (by omega) (by omega)).2.1]; exact g7_47
  have g8_48 : S48.2.1 x 8 = .ref (x + 86) := by rw [((ev48.sub (lo2 := x) (hi2 := x + 1) (by omega) (by omega)) (x) (by omega) (by omega)).2.1]; exact g8_47
  have i87_48 : ∀ j, I48 (x + 87) j = 0 := fun j => by rw [((ev48.sub (lo2 := x + 87) (hi2 := x + 87 + 1) (by omega) (by omega)) (x + 87) (by omega) (by omega)).2.2]; exact i87_47 j
  have g9_48 : S48.2.1 x 9 = .ref (x + 87) := by rw [((ev48.sub (lo2 := x) (hi2 := x + 1) (by omega) (by omega)) (x) (by omega) (by omega)).2.1]; exact g9_47
  have v10_48 : I48 x 10 = 0 := by rw [((ev48.sub (lo2 := x) (hi2 := x + 1) (by omega) (by omega)) (x) (by omega) (by omega)).2.2]; exact v10_47
  have ls0_48 : LaySh S48 (x + 88) := ls0_47.eb (ev48.sub (lo2 := x + 88) (hi2 := x + 88 + 2) (by omega) (by omega))
  have is0_48 : IniSh I48 (x + 88) := is0_47.eb (ev48.sub (lo2 := x + 88) (hi2 := x + 88 + 2) (by omega) (by omega))
  have ls1_48 : LaySh S48 (x + 90) := ls1_47.eb (ev48.sub (lo2 := x + 90) (hi2 := x + 90 + 2) (by omega) (by omega))
  have is1_48 : IniSh I48 (x + 90) := is1_47.eb (ev48.sub (lo2 := x + 90) (hi2 := x + 90 + 2) (by omega) (by omega))
  have ls2_48 : LaySh S48 (x + 92) := ls2_47.eb (ev48.sub (lo2 := x + 92) (hi2 := x + 92 + 2) (by omega) (by omega))
  have is2_48 : IniSh I48 (x + 92) := is2_47.eb (ev48.sub (lo2 := x + 92) (hi2 := x + 92 + 2) (by omega) (by omega))
  have ls3_48 : LaySh S48 (x + 94) := ls3_47.eb (ev48.sub (lo2 := x + 94) (hi2 := x + 94 + 2) (by omega) (by omega))
  have is3_48 : IniSh I48 (x + 94) := is3_47.eb (ev48.sub (lo2 := x + 94) (hi2 := x + 94 + 2) (by omega) (by omega))
  have a85x0_48 : S48.2.1 (x + 85) 0 = .ref (x + 88) := by rw [((ev48.sub (lo2 := x + 85) (hi2 := x + 85 + 1) (by omega) (by omega)) (x + 85) (by omega) (by omega)).2.1]; exact a85x0_47
  have a85x1_48 : S48.2.1 (x + 85) 1 = .ref (x + 90) := by rw [((ev48.sub (lo2 := x + 85) (hi2 := x + 85 + 1) (by omega) (by omega)) (x + 85) (by omega) (by omega)).2.1]; exact a85x1_47
  have a85x2_48 : S48.2.1 (x + 85) 2 = .ref (x + 92) := by rw [((ev48.sub (lo2 := x + 85) (hi2 := x + 85 + 1) (by omega) (by omega)) (x + 85) (by omega) (by omega)).2.1]; exact a85x2_47
  have a85x3_48 : S48.2.1 (x + 85) 3 = .ref (x + 94) := by rw [((ev48.sub (lo2 := x + 85) (hi2 := x + 85 + 1) (by omega) (by omega)) (x + 85) (by omega) (by omega)).2.1]; exact a85x3_47
  have ll0_48 : LaySl S48 (x + 96) := ll0_47.eb (ev48.sub (lo2 := x + 96) (hi2 := x + 96 + 3) (by omega) (by omega))
  have il0_48 : I48 (x + 96) 1 = 0 := by rw [((ev48.sub (lo2 := x + 96) (hi2 := x + 96 + 1) (by omega) (by omega)) (x + 96) (by omega) (by omega)).2.2]; exact il0_47
  have ll1_48 : LaySl S48 (x + 99) := ll1_47.eb (ev48.sub (lo2 := x + 99) (hi2 := x + 99 + 3) (by omega) (by omega))
  have il1_48 : I48 (x + 99) 1 = 0 := by rw [((ev48.sub (lo2 := x + 99) (hi2 := x + 99 + 1) (by omega) (by omega)) (x + 99) (by omega) (by omega)).2.2]; exact il1_47
  have ll2_48 : LaySl S48 (x + 102) := ll2_47.eb (ev48.sub (lo2 := x + 102) (hi2 := x + 102 + 3) (by omega) (by omega))
  have il2_48 : I48 (x + 102) 1 = 0 := by rw [((ev48.sub (lo2 := x + 102) (hi2 := x + 102 + 1) (by omega) (by omega)) (x + 102) (by omega) (by omega)).2.2]; exact il2_47
  have h0_48 : S48.1 (x) = some (9, 0) := by rw [((ev48.sub (lo2 := x) (hi2 := x + 1) (by omega) (by omega)) (x) (by omega) (by omega)).1]; exact h0_47
  have c84_48 : S48.1 (x + 84) = some (24, 14) := by rw [((ev48.sub (lo2 := x + 84) (hi2 := x + 84 + 1) (by omega) (by omega)) (x + 84) (by omega) (by omega)).1]; exact c84_47
  have c85_48 : S48.1 (x + 85) = some (25, 4) := by rw [((ev48.sub (lo2 := x + 85) (hi2 := x + 85 + 1) (by omega) (by omega)) (x + 85) (by omega) (by omega)).1]; exact c85_47
  have c86_48 : S48.1 (x + 86) = some (26, 5) := by rw [((ev48.sub (lo2 := x + 86) (hi2 := x + 86 + 1) (by omega) (by omega)) (x + 86) (by omega) (by omega)).1]; exact c86_47
  have c87_48 : S48.1 (x + 87) = some (20, 60) := by rw [((ev48.sub (lo2 := x + 87) (hi2 := x + 87 + 1) (by omega) (by omega)) (x + 87) (by omega) (by omega)).1]; exact c87_47
  have a86x0_48 : S48.2.1 (x + 86) 0 = .ref (x + 96) := by rw [((ev48.sub (lo2 := x + 86) (hi2 := x + 86 + 1) (by omega) (by omega)) (x + 86) (by omega) (by omega)).2.1]; exact a86x0_47
  have a86x1_48 : S48.2.1 (x + 86) 1 = .ref (x + 99) := by rw [((ev48.sub (lo2 := x + 86) (hi2 := x + 86 + 1) (by omega) (by omega)) (x + 86) (by omega) (by omega)).2.1]; exact a86x1_47
  have a86x2_48 : S48.2.1 (x + 86) 2 = .ref (x + 102) := by rw [((ev48.sub (lo2 := x + 86) (hi2 := x + 86 + 1) (by omega) (by omega)) (x + 86) (by omega) (by omega)).2.1]; exact a86x2_47
  have eB_48 : EqB 0 x S I S48 I48 := eB_47.tr (ev48.sub (lo2 := 0) (hi2 := x) (by omega) (by omega))
  clear lv0_47 iv0_47 g0_47 lv1_47 iv1_47 g1_47 v2_47 lp_47 g3_47 lt_47 it_47 i8_47 g4_47 lr_47 g5_47 g6_47 g7_47 g8_47 i87_47 g9_47 v10_47 ls0_47 is0_47 ls1_47 is1_47 ls2_47 is2_47 ls3_47 is3_47 a85x0_47 a85x1_47 a85x2_47 a85x3_47 ll0_47 il0_47 ll1_47 il1_47 ll2_47 il2_47 h0_47 c84_47 c85_47 c86_47 c87_47 a86x0_47 a86x1_47 a86x2_47 eB_47
  have z48 : S48.2.2 = x + 108 := zv48
  clear z46
  have ll3_48 : LaySl S48 (x + 105) := lv48
  have il3_48 : I48 (x + 105) 1 = 0 := iv48
  refine v_aO (n := 148) (t := 6) (j := 3) ⟨by decide, by decide⟩ c86_48 (ix_lit rfl rfl rfl) (ll3_48).s dX10_init_147 rfl (fun S49 p49 => ?_)
  have lv0_49 : LayV S49 (x + 1) := lv0_48.eb (p49.b (lo := x + 1) (hi := x + 1 + 11) (I := I48) (by omega))
  have iv0_49 : IniV S49 I48 (x + 1) := iv0_48.eb (p49.b (lo := x + 1) (hi := x + 1 + 11) (I := I48) (by omega))
  have g0_49 : S49.2.1 x 0 = .ref (x + 1) := by rw [((p49.b (lo := x) (hi := x + 1) (I := I48) (by omega)) (x) (by omega) (by omega)).2.1]; exact g0_48
  have lv1_49 : LayV S49 (x + 12) := lv1_48.eb (p49.b (lo := x + 12) (hi := x + 12 + 11) (I := I48) (by omega))
  have iv1_49 : IniV S49 I48 (x + 12) := iv1_48.eb (p49.b (lo := x + 12) (hi := x + 12 + 11) (I := I48) (by omega))
  have g1_49 : S49.2.1 x 1 = .ref (x + 12) := by rw [((p49.b (lo := x) (hi := x + 1) (I := I48) (by omega)) (x) (by omega) (by omega)).2.1]; exact g1_48
  have v2_49 : I48 x 2 = 0 := by rw [((p49.b (lo := x) (hi := x + 1) (I := I48) (by omega)) (x) (by omega) (by omega)).2.2]; exact v2_48
  have lp_49 : LayP S49 (x + 23) := lp_48.eb (p49.b (lo := x + 23) (hi := x + 23 + 57) (I := I48) (by omega))
  have g3_49 : S49.2.1 x 3 = .ref (x + 23) := by rw [((p49.b (lo := x) (hi := x + 1) (I := I48) (by omega)) (x) (by omega) (by omega)).2.1]; exact g3_48
  have lt_49 : LayT S49 (x + 80) := lt_48.eb (p49.b (lo := x + 80) (hi := x + 80 + 2) (I := I48) (by omega))
  have it_49 : ∀ j, I48 (x + 80 + 1) j = 0 := fun j => by rw [((p49.b (lo := x + 80 + 1) (hi := x + 80 + 1 + 1) (I := I48) (by omega)) (x + 80 + 1) (by omega) (by omega)).2.2]; exact it_48 j
  have i8_49 : I48 (x + 80) 1 = 0 := by rw [((p49.b (lo := x + 80) (hi := x + 80 + 1) (I := I48) (by omega)) (x + 80) (by omega) (by omega)).2.2]; exact i8_48
  have g4_49 : S49.2.1 x 4 = .ref (x + 80) := by rw [((p49.b (lo := x) (hi := x + 1) (I := I48) (by omega)) (x) (by omega) (by omega)).2.1]; exact g4_48
  have lr_49 : LayRd S49 (x + 82) := lr_48.eb (p49.b (lo := x + 82) (hi := x + 82 + 2) (I := I48) (by omega))
  have g5_49 : S49.2.1 x 5 = .ref (x + 82) := by rw [((p49.b (lo := x) (hi := x + 1) (I := I48) (by omega)) (x) (by omega) (by omega)).2.1]; exact g5_48
  have g6_49 : S49.2.1 x 6 = .ref (x + 84) := by rw [((p49.b (lo := x) (hi := x + 1) (I := I48) (by omega)) (x) (by omega) (by omega)).2.1]; exact g6_48
  have g7_49 : S49.2.1 x 7 = .ref (x + 85) := by rw [((p49.b (lo := x) (hi := x + 1) (I := I48) (by omega)) (x) (by omega) (by omega)).2.1]; exact g7_48
  have g8_49 : S49.2.1 x 8 = .ref (x + 86) := by rw [((p49.b (lo := x) (hi := x + 1) (I := I48) (by omega)) (x) (by omega) (by omega)).2.1]; exact g8_48
  have i87_49 : ∀ j, I48 (x + 87) j = 0 := fun j => by rw [((p49.b (lo := x + 87) (hi := x + 87 + 1) (I := I48) (by omega)) (x + 87) (by omega) (by omega)).2.2]; exact i87_48 j
  have g9_49 : S49.2.1 x 9 = .ref (x + 87) := by rw [((p49.b (lo := x) (hi := x + 1) (I := I48) (by omega)) (x) (by omega) (by omega)).2.1]; exact g9_48
  have v10_49 : I48 x 10 = 0 := by rw [((p49.b (lo := x) (hi := x + 1) (I := I48) (by omega)) (x) (by omega) (by omega)).2.2]; exact v10_48
  have ls0_49 : LaySh S49 (x + 88) := ls0_48.eb (p49.b (lo := x + 88) (hi := x + 88 + 2) (I := I48) (by omega))
  have is0_49 : IniSh I48 (x + 88) := is0_48.eb (p49.b (lo := x + 88) (hi := x + 88 + 2) (I := I48) (by omega))
  have ls1_49 : LaySh S49 (x + 90) := ls1_48.eb (p49.b (lo := x + 90) (hi := x + 90 + 2) (I := I48) (by omega))
  have is1_49 : IniSh I48 (x + 90) := is1_48.eb (p49.b (lo := x + 90) (hi := x + 90 + 2) (I := I48) (by omega))
  have ls2_49 : LaySh S49 (x + 92) := ls2_48.eb (p49.b (lo := x + 92) (hi := x + 92 + 2) (I := I48) (by omega))
  have is2_49 : IniSh I48 (x + 92) := is2_48.eb (p49.b (lo := x + 92) (hi := x + 92 + 2) (I := I48) (by omega))
  have ls3_49 : LaySh S49 (x + 94) := ls3_48.eb (p49.b (lo := x + 94) (hi := x + 94 + 2) (I := I48) (by omega))
  have is3_49 : IniSh I48 (x + 94) := is3_48.eb (p49.b (lo := x + 94) (hi := x + 94 + 2) (I := I48) (by omega))
  have a85x0_49 : S49.2.1 (x + 85) 0 = .ref (x + 88) := by rw [((p49.b (lo := x + 85) (hi := x + 85 + 1) (I := I48) (by omega)) (x + 85) (by omega) (by omega)).2.1]; exact a85x0_48
  have a85x1_49 : S49.2.1 (x + 85) 1 = .ref (x + 90) := by rw [((p49.b (lo := x + 85) (hi := x + 85 + 1) (I := I48) (by omega)) (x + 85) (by omega) (by omega)).2.1]; exact a85x1_48
  have a85x2_49 : S49.2.1 (x + 85) 2 = .ref (x + 92) := by rw [((p49.b (lo := x + 85) (hi := x + 85 + 1) (I := I48) (by omega)) (x + 85) (by omega) (by omega)).2.1]; exact a85x2_48
  have a85x3_49 : S49.2.1 (x + 85) 3 = .ref (x + 94) := by rw [((p49.b (lo := x + 85) (hi := x + 85 + 1) (I := I48) (by omega)) (x + 85) (by omega) (by omega)).2.1]; exact a85x3_48
  have ll0_49 : LaySl S49 (x + 96) := ll0_48.eb (p49.b (lo := x + 96) (hi := x + 96 + 3) (I := I48) (by omega))
  have il0_49 : I48 (x + 96) 1 = 0 := by rw [((p49.b (lo := x + 96) (hi := x + 96 + 1) (I := I48) (by omega)) (x + 96) (by omega) (by omega)).2.2]; exact il0_48
  have ll1_49 : LaySl S49 (x + 99) := ll1_48.eb (p49.b (lo := x + 99) (hi := x + 99 + 3) (I := I48) (by omega))
  have il1_49 : I48 (x + 99) 1 = 0 := by rw [((p49.b (lo := x + 99) (hi := x + 99 + 1) (I := I48) (by omega)) (x + 99) (by omega) (by omega)).2.2]; exact il1_48
  have ll2_49 : LaySl S49 (x + 102) := ll2_48.eb (p49.b (lo := x + 102) (hi := x + 102 + 3) (I := I48) (by omega))
  have il2_49 : I48 (x + 102) 1 = 0 := by rw [((p49.b (lo := x + 102) (hi := x + 102 + 1) (I := I48) (by omega)) (x + 102) (by omega) (by omega)).2.2]; exact il2_48
  have ll3_49 : LaySl S49 (x + 105) := ll3_48.eb (p49.b (lo := x + 105) (hi := x + 105 + 3) (I := I48) (by omega))
  have il3_49 : I48 (x + 105) 1 = 0 := by rw [((p49.b (lo := x + 105) (hi := x + 105 + 1) (I := I48) (by omega)) (x + 105) (by omega) (by omega)).2.2]; exact il3_48
  have eB_49 : EqB 0 x S I S49 I48 := eB_48.tr (p49.b (lo := 0) (hi := x) (I := I48) (by omega))
  clear lv0_48 iv0_48 g0_48 lv1_48 iv1_48 g1_48 v2_48 lp_48 g3_48 lt_48 it_48 i8_48 g4_48 lr_48 g5_48 g6_48 g7_48 g8_48 i87_48 g9_48 v10_48 ls0_48 is0_48 ls1_48 is1_48 ls2_48 is2_48 ls3_48 is3_48 a85x0_48 a85x1_48 a85x2_48 a85x3_48 ll0_48 il0_48 ll1_48 il1_48 ll2_48 il2_48 ll3_48 il3_48 eB_48
  have h0_49 : S49.1 (x) = some (9, 0) := by rw [p49.1]; exact h0_48
  have c84_49 : S49.1 (x + 84) = some (24, 14) := by rw [p49.1]; exact c84_48
  have c85_49 : S49.1 (x + 85) = some (25, 4) := by rw [p49.1]; exact c85_48
  have c86_49 : S49.1 (x + 86) = some (26, 5) := by rw [p49.1]; exact c86_48
  have c87_49 : S49.1 (x + 87) = some (20, 60) := by rw [p49.1]; exact c87_48
  have a86x0_49 : S49.2.1 (x + 86) 0 = .ref (x + 96) := by rw [p49.2.2.2.1 0 (by decide)]; exact a86x0_48
  have a86x1_49 : S49.2.1 (x + 86) 1 = .ref (x + 99) := by rw [p49.2.2.2.1 1 (by decide)]; exact a86x1_48
  have a86x2_49 : S49.2.1 (x + 86) 2 = .ref (x + 102) := by rw [p49.2.2.2.1 2 (by decide)]; exact a86x2_48
  clear h0_48 c84_48 c85_48 c86_48 c87_48 a86x0_48 a86x1_48 a86x2_48
  have z49 : S49.2.2 = x + 108 := by rw [p49.2.1]; exact z48
  clear z48
  have a86x3_49 : S49.2.1 (x + 86) 3 = .ref (x + 105) := p49.2.2.1
  refine v_iinc (n := 151) (v := 4) (al' := [.ref x, .int 4]) dX10_init_148 rfl (by decide) rfl rfl rfl ?_
  refine v_goto (tgt := 130) dX10_init_151 (by decide) ?_
  refine v_iload_n (n := 131) dX10_init_130 rfl rfl rfl ?_
  refine v_iconst (n := 132) (v := 5) dX10_init_131 c_5 rfl ?_
  refine v_icmp_ge (n := 135) (tgt := 154) dX10_init_132 (by decide) rfl (fun z => absurd z (by decide)) (fun _ => ?_)
  refine v_aload_n (n := 136) dX10_init_135 rfl rfl rfl ?_
  refine v_getR (n := 139) f_X10_58 rfl h0_49 g8_49 dX10_init_136 rfl ?_
  refine v_iload_n (n := 140) dX10_init_139 rfl rfl rfl ?_
  refine v_nO (n := 143) (ci := 6) (N := 6) (e := x + 108) z49 (by decide) rfl cl_X10_56 in_X7 ini_X7 ⟨l8 rfl, l8 rfl⟩ dX10_init_140 rfl (fun S50 I50 w50 => ?_)
  have lv0_50 : LayV S50 (x + 1) := lv0_49.eb (w50.b (lo := x + 1) (hi := x + 1 + 11) (by omega))
  have iv0_50 : IniV S50 I50 (x + 1) := iv0_49.eb (w50.b (lo := x + 1) (hi := x + 1 + 11) (by omega))
  have g0_50 : S50.2.1 x 0 = .ref (x + 1) := by rw [((w50.b (lo := x) (hi := x + 1) (by omega)) (x) (by omega) (by omega)).2.1]; exact g0_49
  have lv1_50 : LayV S50 (x + 12) := lv1_49.eb (w50.b (lo := x + 12) (hi := x + 12 + 11) (by omega))
  have iv1_50 : IniV S50 I50 (x + 12) := iv1_49.eb (w50.b (lo := x + 12) (hi := x + 12 + 11) (by omega))
  have g1_50 : S50.2.1 x 1 = .ref (x + 12) := by rw [((w50.b (lo := x) (hi := x + 1) (by omega)) (x) (by omega) (by omega)).2.1]; exact g1_49
  have v2_50 : I50 x 2 = 0 := by rw [((w50.b (lo := x) (hi := x + 1) (by omega)) (x) (by omega) (by omega)).2.2]; exact v2_49
  have lp_50 : LayP S50 (x + 23) := lp_49.eb (w50.b (lo := x + 23) (hi := x + 23 + 57) (by omega))
  have g3_50 : S50.2.1 x 3 = .ref (x + 23) := by rw [((w50.b (lo := x) (hi := x + 1) (by omega)) (x) (by omega) (by omega)).2.1]; exact g3_49
  have lt_50 : LayT S50 (x + 80) := lt_49.eb (w50.b (lo := x + 80) (hi := x + 80 + 2) (by omega))
  have it_50 : ∀ j, I50 (x + 80 + 1) j = 0 := fun j => by rw [((w50.b (lo := x + 80 + 1) (hi := x + 80 + 1 + 1) (by omega)) (x + 80 + 1) (by omega) (by omega)).2.2]; exact it_49 j
  have i8_50 : I50 (x + 80) 1 = 0 := by rw [((w50.b (lo := x + 80) (hi := x + 80 + 1) (by omega)) (x + 80) (by omega) (by omega)).2.2]; exact i8_49
  have g4_50 : S50.2.1 x 4 = .ref (x + 80) := by rw [((w50.b (lo := x) (hi := x + 1) (by omega)) (x) (by omega) (by omega)).2.1]; exact g4_49
  have lr_50 : LayRd S50 (x + 82) := lr_49.eb (w50.b (lo := x + 82) (hi := x + 82 + 2) (by omega))
  have g5_50 : S50.2.1 x 5 = .ref (x + 82) := by rw [((w50.b (lo := x) (hi := x + 1) (by omega)) (x) (by omega) (by omega)).2.1]; exact g5_49
  have g6_50 : S50.2.1 x 6 = .ref (x + 84) := by rw [((w50.b (lo := x) (hi := x + 1) (by omega)) (x) (by omega) (by omega)).2.1]; exact g6_49
  have g7_50 : S50.2.1 x 7 = .ref (x + 85) := by rw [((w50.b (lo := x) (hi := x + 1) (by omega)) (x) (by omega) (by omega)).2.1]; exact g7_49
  have g8_50 : S50.2.1 x 8 = .ref (x + 86) := by rw [((w50.b (lo := x) (hi := x + 1) (by omega)) (x) (by omega) (by omega)).2.1]; exact g8_49
  have i87_50 : ∀ j, I50 (x + 87) j = 0 := fun j => by rw [((w50.b (lo := x + 87) (hi := x + 87 + 1) (by omega)) (x + 87) (by omega) (by omega)).2.2]; exact i87_49 j
  have g9_50 : S50.2.1 x 9 = .ref (x + 87) := by rw [((w50.b (lo := x) (hi := x + 1) (by omega)) (x) (by omega) (by omega)).2.1]; exact g9_49
  have v10_50 : I50 x 10 = 0 := by rw [((w50.b (lo := x) (hi := x + 1) (by omega)) (x) (by omega) (by omega)).2.2]; exact v10_49
  have ls0_50 : LaySh S50 (x + 88) := ls0_49.eb (w50.b (lo := x + 88) (hi := x + 88 + 2) (by omega))
  have is0_50 : IniSh I50 (x + 88) := is0_49.eb (w50.b (lo := x + 88) (hi := x + 88 + 2) (by omega))
  have ls1_50 : LaySh S50 (x + 90) := ls1_49.eb (w50.b (lo := x + 90) (hi := x + 90 + 2) (by omega))
  have is1_50 : IniSh I50 (x + 90) := is1_49.eb (w50.b (lo := x + 90) (hi := x + 90 + 2) (by omega))
  have ls2_50 : LaySh S50 (x + 92) := ls2_49.eb (w50.b (lo := x + 92) (hi := x + 92 + 2) (by omega))
  have is2_50 : IniSh I50 (x + 92) := is2_49.eb (w50.b (lo := x + 92) (hi := x + 92 + 2) (by omega))
  have ls3_50 : LaySh S50 (x + 94) := ls3_49.eb (w50.b (lo := x + 94) (hi := x + 94 + 2) (by omega))
  have is3_50 : IniSh I50 (x + 94) := is3_49.eb (w50.b (lo := x + 94) (hi := x + 94 + 2) (by omega))
  have a85x0_50 : S50.2.1 (x + 85) 0 = .ref (x + 88) := by rw [((w50.b (lo := x + 85) (hi := x + 85 + 1) (by omega)) (x + 85) (by omega) (by omega)).2.1]; exact a85x0_49
  have a85x1_50 : S50.2.1 (x + 85) 1 = .ref (x + 90) := by rw [((w50.b (lo := x + 85) (hi := x + 85 + 1) (by omega)) (x + 85) (by omega) (by omega)).2.1]; exact a85x1_49
  have a85x2_50 : S50.2.1 (x + 85) 2 = .ref (x + 92) := by rw [((w50.b (lo := x + 85) (hi := x + 85 + 1) (by omega)) (x + 85) (by omega) (by omega)).2.1]; exact a85x2_49
  have a85x3_50 : S50.2.1 (x + 85) 3 = .ref (x + 94) := by rw [((w50.b (lo := x + 85) (hi := x + 85 + 1) (by omega)) (x + 85) (by omega) (by omega)).2.1]; exact a85x3_49
  have ll0_50 : LaySl S50 (x + 96) := ll0_49.eb (w50.b (lo := x + 96) (hi := x + 96 + 3) (by omega))
  have il0_50 : I50 (x + 96) 1 = 0 := by rw [((w50.b (lo := x + 96) (hi := x + 96 + 1) (by omega)) (x + 96) (by omega) (by omega)).2.2]; exact il0_49
  have ll1_50 : LaySl S50 (x + 99) := ll1_49.eb (w50.b (lo := x + 99) (hi := x + 99 + 3) (by omega))
  have il1_50 : I50 (x + 99) 1 = 0 := by rw [((w50.b (lo := x + 99) (hi := x + 99 + 1) (by omega)) (x + 99) (by omega) (by omega)).2.2]; exact il1_49
  have ll2_50 : LaySl S50 (x + 102) := ll2_49.eb (w50.b (lo := x + 102) (hi := x + 102 + 3) (by omega))
  have il2_50 : I50 (x + 102) 1 = 0 := by rw [((w50.b (lo := x + 102) (hi := x + 102 + 1) (by omega)) (x + 102) (by omega) (by omega)).2.2]; exact il2_49
  have ll3_50 : LaySl S50 (x + 105) := ll3_49.eb (w50.b (lo := x + 105) (hi := x + 105 + 3) (by omega))
  have il3_50 : I50 (x + 105) 1 = 0 := by rw [((w50.b (lo := x + 105) (hi := x + 105 + 1) (by omega)) (x + 105) (by omega) (by omega)).2.2]; exact il3_49
  have h0_50 : S50.1 (x) = some (9, 0) := by rw [((w50.b (lo := x) (hi := x + 1) (by omega)) (x) (by omega) (by omega)).1]; exact h0_49
  have c84_50 : S50.1 (x + 84) = some (24, 14) := by rw [((w50.b (lo := x + 84) (hi := x + 84 + 1) (by omega)) (x + 84) (by omega) (by omega)).1]; exact c84_49
  have c85_50 : S50.1 (x + 85) = some (25, 4) := by rw [((w50.b (lo := x + 85) (hi := x + 85 + 1) (by omega)) (x + 85) (by omega) (by omega)).1]; exact c85_49
  have c86_50 : S50.1 (x + 86) = some (26, 5) := by rw [((w50.b (lo := x + 86) (hi := x + 86 + 1) (by omega)) (x + 86) (by omega) (by omega)).1]; exact c86_49
  have c87_50 : S50.1 (x + 87) = some (20, 60) := by rw [((w50.b (lo := x + 87) (hi := x + 87 + 1) (by omega)) (x + 87) (by omega) (by omega)).1]; exact c87_49
  have a86x0_50 : S50.2.1 (x + 86) 0 = .ref (x + 96) := by rw [((w50.b (lo := x + 86) (hi := x + 86 + 1) (by omega)) (x + 86) (by omega) (by omega)).2.1]; exact a86x0_49
  have a86x1_50 : S50.2.1 (x + 86) 1 = .ref (x + 99) := by rw [((w50.b (lo := x + 86) (hi := x + 86 + 1) (by omega)) (x + 86) (by omega) (by omega)).2.1]; exact a86x1_49
  have a86x2_50 : S50.2.1 (x + 86) 2 = .ref (x + 102) := by rw [((w50.b (lo := x + 86) (hi := x + 86 + 1) (by omega)) (x + 86) (by omega) (by omega)).2.1]; exact a86x2_49
  have a86x3_50 : S50.2.1 (x + 86) 3 = .ref (x + 105) := by rw [((w50.b (lo := x + 86) (hi := x + 86 + 1) (by omega)) (x + 86) (by omega) (by omega)).2.1]; exact a86x3_49
  have eB_50 : EqB 0 x S I S50 I50 := eB_49.tr (w50.b (lo := 0) (hi := x) (by omega))
  clear lv0_49 iv0_49 g0_49 lv1_49 iv1_49 g1_49 v2_49 lp_49 g3_49 lt_49 it_49 i8_49 g4_49 lr_49 g5_49 g6_49 g7_49 g8_49 i87_49 g9_49 v10_49 ls0_49 is0_49 ls1_49 is1_49 ls2_49 is2_49 ls3_49 is3_49 a85x0_49 a85x1_49 a85x2_49 a85x3_49 ll0_49 il0_49 ll1_49 il1_49 ll2_49 il2_49 ll3_49 il3_49 h0_49 c84_49 c85_49 c86_49 c87_49 a86x0_49 a86x1_49 a86x2_49 a86x3_49 eB_49
  refine v_dup (n := 144) dX10_init_143 rfl rfl ?_
  refine v_callIN (n := 147) (host := "SnowOwed") mc_X7_init (by decide) iv_X7_init rfl (k_X7_init (ro := ro) w50.1 w50.2.1) ⟨rfl, rfl⟩ (l8 rfl) ⟨l8 rfl, l8 rfl⟩ rfl rfl (l8 rfl) dX10_init_144 rfl ?_
  rintro _ S51 I51 ⟨rfl, lv51, iv51, zv51, ev51, fv51⟩
  have lv0_51 : LayV S51 (x + 1) := lv0_50.eb (ev51.sub (lo2 := x + 1) (hi2 := x + 1 + 11) (by omega) (by omega))
  have iv0_51 : IniV S51 I51 (x + 1) := iv0_50.eb (ev51.sub (lo2 := x + 1) (hi2 := x + 1 + 11) (by omega) (by omega))
  have g0_51 : S51.2.1 x 0 = .ref (x + 1) := by rw [((ev51.sub (lo2 := x) (hi2 := x + 1) (by omega) (by omega)) (x) (by omega) (by omega)).2.1]; exact g0_50
  have lv1_51 : LayV S51 (x + 12) := lv1_50.eb (ev51.sub (lo2 := x + 12) (hi2 := x + 12 + 11) (by omega) (by omega))
  have iv1_51 : IniV S51 I51 (x + 12) := iv1_50.eb (ev51.sub (lo2 := x + 12) (hi2 := x + 12 + 11) (by omega) (by omega))
  have g1_51 : S51.2.1 x 1 = .ref (x + 12) := by rw [((ev51.sub (lo2 := x) (hi2 := x + 1) (by omega) (by omega)) (x) (by omega) (by omega)).2.1]; exact g1_50
  have v2_51 : I51 x 2 = 0 := by rw [((ev51.sub (lo2 := x) (hi2 := x + 1) (by omega) (by omega)) (x) (by omega) (by omega)).2.2]; exact v2_50
  have lp_51 : LayP S51 (x + 23) := lp_50.eb (ev51.sub (lo2 := x + 23) (hi2 := x + 23 + 57) (by omega) (by omega))
  have g3_51 : S51.2.1 x 3 = .ref (x + 23) := by rw [((ev51.sub (lo2 := x) (hi2 := x + 1) (by omega) (by omega)) (x) (by omega) (by omega)).2.1]; exact g3_50
  have lt_51 : LayT S51 (x + 80) := lt_50.eb (ev51.sub (lo2 := x + 80) (hi2 := x + 80 + 2) (by omega) (by omega))
  have it_51 : ∀ j, I51 (x + 80 + 1) j = 0 := fun j => by rw [((ev51.sub (lo2 := x + 80 + 1) (hi2 := x + 80 + 1 + 1) (by omega) (by omega)) (x + 80 + 1) (by omega) (by omega)).2.2]; exact it_50 j
  have i8_51 : I51 (x + 80) 1 = 0 := by rw [((ev51.sub (lo2 := x + 80) (hi2 := x + 80 + 1) (by omega) (by omega)) (x + 80) (by omega) (by omega)).2.2]; exact i8_50
  have g4_51 : S51.2.1 x 4 = .ref (x + 80) := by rw [((ev51.sub (lo2 := x) (hi2 := x + 1) (by omega) (by omega)) (x) (by omega) (by omega)).2.1]; exact g4_50
  have lr_51 : LayRd S51 (x + 82) := lr_50.eb (ev51.sub (lo2 := x + 82) (hi2 := x + 82 + 2) (by omega) (by omega))
  have g5_51 : S51.2.1 x 5 = .ref (x + 82) := by rw [((ev51.sub (lo2 := x) (hi2 := x + 1) (by omega) (by omega)) (x) (by omega) (by omega)).2.1]; exact g5_50
  have g6_51 : S51.2.1 x 6 = .ref (x + 84) := by rw [((ev51.sub (lo2 := x) (hi2 := x + 1) (by omega) (by omega)) (x) (by omega) (by omega)).2.1]; exact g6_50
  have g7_51 : S51.2.1 x 7 = .ref (x + 85) := by rw [((ev51.sub (lo2 := x) (hi2 := x + 1) (by omega) (by omega)) (x) (by omega) (by omega)).2.1]; exact g7_50
  have g8_51 : S51.2.1 x 8 = .ref (x + 86) := by rw [((ev51.sub (lo2 := x) (hi2 := x + 1) (by omega) (by omega)) (x) (by omega) (by omega)).2.1]; exact g8_50
  have i87_51 : ∀ j, I51 (x + 87) j = 0 := fun j => by rw [((ev51.sub (lo2 := x + 87) (hi2 := x + 87 + 1) (by omega) (by omega)) (x + 87) (by omega) (by omega)).2.2]; exact i87_50 j
  have g9_51 : S51.2.1 x 9 = .ref (x + 87) := by rw [((ev51.sub (lo2 := x) (hi2 := x + 1) (by omega) (by omega)) (x) (by omega) (by omega)).2.1]; exact g9_50
  have v10_51 : I51 x 10 = 0 := by rw [((ev51.sub (lo2 := x) (hi2 := x + 1) (by omega) (by omega)) (x) (by omega) (by omega)).2.2]; exact v10_50
  have ls0_51 : LaySh S51 (x + 88) := ls0_50.eb (ev51.sub (lo2 := x + 88) (hi2 := x + 88 + 2) (by omega) (by omega))
  have is0_51 : IniSh I51 (x + 88) := is0_50.eb (ev51.sub (lo2 := x + 88) (hi2 := x + 88 + 2) (by omega) (by omega))
  have ls1_51 : LaySh S51 (x + 90) := ls1_50.eb (ev51.sub (lo2 := x + 90) (hi2 := x + 90 + 2) (by omega) (by omega))
  have is1_51 : IniSh I51 (x + 90) := is1_50.eb (ev51.sub (lo2 := x + 90) (hi2 := x + 90 + 2) (by omega) (by omega))
  have ls2_51 : LaySh S51 (x + 92) := ls2_50.eb (ev51.sub (lo2 := x + 92) (hi2 := x + 92 + 2) (by omega) (by omega))
  have is2_51 : IniSh I51 (x + 92) := is2_50.eb (ev51.sub (lo2 := x + 92) (hi2 := x + 92 + 2) (by omega) (by omega))
  have ls3_51 : LaySh S51 (x + 94) := ls3_50.eb (ev51.sub (lo2 := x + 94) (hi2 := x + 94 + 2) (by omega) (by omega))
  have is3_51 : IniSh I51 (x + 94) := is3_50.eb (ev51.sub (lo2 := x + 94) (hi2 := x + 94 + 2) (by omega) (by omega))
  have a85x0_51 : S51.2.1 (x + 85) 0 = .ref (x + 88) := by rw [((ev51.sub (lo2 := x + 85) (hi2 := x + 85 + 1) (by omega) (by omega)) (x + 85) (by omega) (by omega)).2.1]; exact a85x0_50
  have a85x1_51 : S51.2.1 (x + 85) 1 = .ref (x + 90) := by rw [((ev51.sub (lo2 := x + 85) (hi2 := x + 85 + 1) (by omega) (by omega)) (x + 85) (by omega) (by omega)).2.1]; exact a85x1_50
  have a85x2_51 : S51.2.1 (x + 85) 2 = .ref (x + 92) := by rw [((ev51.sub (lo2 := x + 85) (hi2 := x + 85 + 1) (by omega) (by omega)) (x + 85) (by omega) (by omega)).2.1]; exact a85x2_50
  have a85x3_51 : S51.2.1 (x + 85) 3 = .ref (x + 94) := by rw [((ev51.sub (lo2 := x + 85) (hi2 := x + 85 + 1) (by omega) (by omega)) (x + 85) (by omega) (by omega)).2.1]; exact a85x3_50
  have ll0_51 : LaySl S51 (x + 96) := ll0_50.eb (ev51.sub (lo2 := x + 96) (hi2 := x + 96 + 3) (by omega) (by omega))
  have il0_51 : I51 (x + 96) 1 = 0 := by rw [((ev51.sub (lo2 := x + 96) (hi2 := x + 96 + 1) (by omega) (by omega)) (x + 96) (by omega) (by omega)).2.2]; exact il0_50
  have ll1_51 : LaySl S51 (x + 99) := ll1_50.eb (ev51.sub (lo2 := x + 99) (hi2 := x + 99 + 3) (by omega) (by omega))
  have il1_51 : I51 (x + 99) 1 = 0 := by rw [((ev51.sub (lo2 := x + 99) (hi2 := x + 99 + 1) (by omega) (by omega)) (x + 99) (by omega) (by omega)).2.2]; exact il1_50
  have ll2_51 : LaySl S51 (x + 102) := ll2_50.eb (ev51.sub (lo2 := x + 102) (hi2 := x + 102 + 3) (by omega) (by omega))
  have il2_51 : I51 (x + 102) 1 = 0 := by rw [((ev51.sub (lo2 := x + 102) (hi2 := x + 102 + 1) (by omega) (by omega)) (x + 102) (by omega) (by omega)).2.2]; exact il2_50
  have ll3_51 : LaySl S51 (x + 105) := ll3_50.eb (ev51.sub (lo2 := x + 105) (hi2 := x + 105 + 3) (by omega) (by omega))
  have il3_51 : I51 (x + 105) 1 = 0 := by rw [((ev51.sub (lo2 := x + 105) (hi2 := x + 105 + 1) (by omega) (by omega)) (x + 105) (by omega) (by omega)).2.2]; exact il3_50
  have h0_51 : S51.1 (x) = some (9, 0) := by rw [((ev51.sub (lo2 := x) (hi2 := x + 1) (by omega) (by omega)) (x) (by omega) (by omega)).1]; exact h0_50
  have c84_51 : S51.1 (x + 84) = some (24, 14) := by rw [((ev51.sub (lo2 := x + 84) (hi2 := x + 84 + 1) (by omega) (by omega)) (x + 84) (by omega) (by omega)).1]; exact c84_50
  have c85_51 : S51.1 (x + 85) = some (25, 4) := by rw [((ev51.sub (lo2 := x + 85) (hi2 := x + 85 + 1) (by omega) (by omega)) (x + 85) (by omega) (by omega)).1]; exact c85_50
  have c86_51 : S51.1 (x + 86) = some (26, 5) := by rw [((ev51.sub (lo2 := x + 86) (hi2 := x + 86 + 1) (by omega) (by omega)) (x + 86) (by omega) (by omega)).1]; exact c86_50
  have c87_51 : S51.1 (x + 87) = some (20, 60) := by rw [((ev51.sub (lo2 := x + 87) (hi2 := x + 87 + 1) (by omega) (by omega)) (x + 87) (by omega) (by omega)).1]; exact c87_50
  have a86x0_51 : S51.2.1 (x + 86) 0 = .ref (x + 96) := by rw [((ev51.sub (lo2 := x + 86) (hi2 := x + 86 + 1) (by omega) (by omega)) (x + 86) (by omega) (by omega)).2.1]; exact a86x0_50
  have a86x1_51 : S51.2.1 (x + 86) 1 = .ref (x + 99) := by rw [((ev51.sub (lo2 := x + 86) (hi2 := x + 86 + 1) (by omega) (by omega)) (x + 86) (by omega) (by omega)).2.1]; exact a86x1_50
  have a86x2_51 : S51.2.1 (x + 86) 2 = .ref (x + 102) := by rw [((ev51.sub (lo2 := x + 86) (hi2 := x + 86 + 1) (by omega) (by omega)) (x + 86) (by omega) (by omega)).2.1]; exact a86x2_50
  have a86x3_51 : S51.2.1 (x + 86) 3 = .ref (x + 105) := by rw [((ev51.sub (lo2 := x + 86) (hi2 := x + 86 + 1) (by omega) (by omega)) (x + 86) (by omega) (by omega)).2.1]; exact a86x3_50
  have eB_51 : EqB 0 x S I S51 I51 := eB_50.tr (ev51.sub (lo2 := 0) (hi2 := x) (by omega) (by omega))
  clear lv0_50 iv0_50 g0_50 lv1_50 iv1_50 g1_50 v2_50 lp_50 g3_50 lt_50 it_50 i8_50 g4_50 lr_50 g5_50 g6_50 g7_50 g8_50 i87_50 g9_50 v10_50 ls0_50 is0_50 ls1_50 is1_50 ls2_50 is2_50 ls3_50 is3_50 a85x0_50 a85x1_50 a85x2_50 a85x3_50 ll0_50 il0_50 ll1_50 il1_50 ll2_50 il2_50 ll3_50 il3_50 h0_50 c84_50 c85_50 c86_50 c87_50 a86x0_50 a86x1_50 a86x2_50 a86x3_50 eB_50
  have z51 : S51.2.2 = x + 111 := zv51
  clear z49
  have ll4_51 : LaySl S51 (x + 108) := lv51
  have il4_51 : I51 (x + 108) 1 = 0 := iv51
  refine v_aO (n := 148) (t := 6) (j := 4) ⟨by decide, by decide⟩ c86_51 (ix_lit rfl rfl rfl) (ll4_51).s dX10_init_147 rfl (fun S52 p52 => ?_)
  have lv0_52 : LayV S52 (x + 1) := lv0_51.eb (p52.b (lo := x + 1) (hi := x + 1 + 11) (I := I51) (by omega))
  have iv0_52 : IniV S52 I51 (x + 1) := iv0_51.eb (p52.b (lo := x + 1) (hi := x + 1 + 11) (I := I51) (by omega))
  have g0_52 : S52.2.1 x 0 = .ref (x + 1) := by rw [((p52.b (lo := x) (hi := x + 1) (I := I51) (by omega)) (x) (by omega) (by omega)).2.1]; exact g0_51
  have lv1_52 : LayV S52 (x + 12) := lv1_51.eb (p52.b (lo := x + 12) (hi := x + 12 + 11) (I := I51) (by omega))
  have iv1_52 : IniV S52 I51 (x + 12) := iv1_51.eb (p52.b (lo := x + 12) (hi := x + 12 + 11) (I := I51) (by omega))
  have g1_52 : S52.2.1 x 1 = .ref (x + 12) := by rw [((p52.b (lo := x) (hi := x + 1) (I := I51) (by omega)) (x) (by omega) (by omega)).2.1]; exact g1_51
  have v2_52 : I51 x 2 = 0 := by rw [((p52.b (lo := x) (hi := x + 1) (I := I51) (by omega)) (x) (by omega) (by omega)).2.2]; exact v2_51
  have lp_52 : LayP S52 (x + 23) := lp_51.eb (p52.b (lo := x + 23) (hi := x + 23 + 57) (I := I51) (by omega))
  have g3_52 : S52.2.1 x 3 = .ref (x + 23) := by rw [((p52.b (lo := x) (hi := x + 1) (I := I51) (by omega)) (x) (by omega) (by omega)).2.1]; exact g3_51
  have lt_52 : LayT S52 (x + 80) := lt_51.eb (p52.b (lo := x + 80) (hi := x + 80 + 2) (I := I51) (by omega))
  have it_52 : ∀ j, I51 (x + 80 + 1) j = 0 := fun j => by rw [((p52.b (lo := x + 80 + 1) (hi := x + 80 + 1 + 1) (I := I51) (by omega)) (x + 80 + 1) (by omega) (by omega)).2.2]; exact it_51 j
  have i8_52 : I51 (x + 80) 1 = 0 := by rw [((p52.b (lo := x + 80) (hi := x + 80 + 1) (I := I51) (by omega)) (x + 80) (by omega) (by omega)).2.2]; exact i8_51
  have g4_52 : S52.2.1 x 4 = .ref (x + 80) := by rw [((p52.b (lo := x) (hi := x + 1) (I := I51) (by omega)) (x) (by omega) (by omega)).2.1]; exact g4_51
  have lr_52 : LayRd S52 (x + 82) := lr_51.eb (p52.b (lo := x + 82) (hi := x + 82 + 2) (I := I51) (by omega))
  have g5_52 : S52.2.1 x 5 = .ref (x + 82) := by rw [((p52.b (lo := x) (hi := x + 1) (I := I51) (by omega)) (x) (by omega) (by omega)).2.1]; exact g5_51
  have g6_52 : S52.2.1 x 6 = .ref (x + 84) := by rw [((p52.b (lo := x) (hi := x + 1) (I := I51) (by omega)) (x) (by omega) (by omega)).2.1]; exact g6_51
  have g7_52 : S52.2.1 x 7 = .ref (x + 85) := by rw [((p52.b (lo := x) (hi := x + 1) (I := I51) (by omega)) (x) (by omega) (by omega)).2.1]; exact g7_51
  have g8_52 : S52.2.1 x 8 = .ref (x + 86) := by rw [((p52.b (lo := x) (hi := x + 1) (I := I51) (by omega)) (x) (by omega) (by omega)).2.1]; exact g8_51
  have i87_52 : ∀ j, I51 (x + 87) j = 0 := fun j => by rw [((p52.b (lo := x + 87) (hi := x + 87 + 1) (I := I51) (by omega)) (x + 87) (by omega) (by omega)).2.2]; exact i87_51 j
  have g9_52 : S52.2.1 x 9 = .ref (x + 87) := by rw [((p52.b (lo := x) (hi := x + 1) (I := I51) (by omega)) (x) (by omega) (by omega)).2.1]; exact g9_51
  have v10_52 : I51 x 10 = 0 := by rw [((p52.b (lo := x) (hi := x + 1) (I := I51) (by omega)) (x) (by omega) (by omega)).2.2]; exact v10_51
  have ls0_52 : LaySh S52 (x + 88) := ls0_51.eb (p52.b (lo := x + 88) (hi := x + 88 + 2) (I := I51) (by omega))
  have is0_52 : IniSh I51 (x + 88) := is0_51.eb (p52.b (lo := x + 88) (hi := x + 88 + 2) (I := I51) (by omega))
  have ls1_52 : LaySh S52 (x + 90) := ls1_51.eb (p52.b (lo := x + 90) (hi := x + 90 + 2) (I := I51) (by omega))
  have is1_52 : IniSh I51 (x + 90) := is1_51.eb (p52.b (lo := x + 90) (hi := x + 90 + 2) (I := I51) (by omega))
  have ls2_52 : LaySh S52 (x + 92) := ls2_51.eb (p52.b (lo := x + 92) (hi := x + 92 + 2) (I := I51) (by omega))
  have is2_52 : IniSh I51 (x + 92) := is2_51.eb (p52.b (lo := x + 92) (hi := x + 92 + 2) (I := I51) (by omega))
  have ls3_52 : LaySh S52 (x + 94) := ls3_51.eb (p52.b (lo := x + 94) (hi := x + 94 + 2) (I := I51) (by omega))
  have is3_52 : IniSh I51 (x + 94) := is3_51.eb (p52.b (lo := x + 94) (hi := x + 94 + 2) (I := I51) (by omega))
  have a85x0_52 : S52.2.1 (x + 85) 0 = .ref (x + 88) := by rw [((p52.b (lo := x + 85) (hi := x + 85 + 1) (I := I51) (by omega)) (x + 85) (by omega) (by omega)).2.1]; exact a85x0_51
  have a85x1_52 : S52.2.1 (x + 85) 1 = .ref (x + 90) := by rw [((p52.b (lo := x + 85) (hi := x + 85 + 1) (I := I51) (by omega)) (x + 85) (by omega) (by omega)).2.1]; exact a85x1_51
  have a85x2_52 : S52.2.1 (x + 85) 2 = .ref (x + 92) := by rw [((p52.b (lo := x + 85) (hi := x + 85 + 1) (I := I51) (by omega)) (x + 85) (by omega) (by omega)).2.1]; exact a85x2_51
  have a85x3_52 : S52.2.1 (x + 85) 3 = .ref (x + 94) := by rw [((p52.b (lo := x + 85) (hi := x + 85 + 1) (I := I51) (by omega)) (x + 85) (by omega) (by omega)).2.1]; exact a85x3_51
  have ll0_52 : LaySl S52 (x + 96) := ll0_51.eb (p52.b (lo := x + 96) (hi := x + 96 + 3) (I := I51) (by omega))
  have il0_52 : I51 (x + 96) 1 = 0 := by rw [((p52.b (lo := x + 96) (hi := x + 96 + 1) (I := I51) (by omega)) (x + 96) (by omega) (by omega)).2.2]; exact il0_51
  have ll1_52 : LaySl S52 (x + 99) := ll1_51.eb (p52.b (lo := x + 99) (hi := x + 99 + 3) (I := I51) (by omega))
  have il1_52 : I51 (x + 99) 1 = 0 := by rw [((p52.b (lo := x + 99) (hi := x + 99 + 1) (I := I51) (by omega)) (x + 99) (by omega) (by omega)).2.2]; exact il1_51
  have ll2_52 : LaySl S52 (x + 102) := ll2_51.eb (p52.b (lo := x + 102) (hi := x + 102 + 3) (I := I51) (by omega))
  have il2_52 : I51 (x + 102) 1 = 0 := by rw [((p52.b (lo := x + 102) (hi := x + 102 + 1) (I := I51) (by omega)) (x + 102) (by omega) (by omega)).2.2]; exact il2_51
  have ll3_52 : LaySl S52 (x + 105) := ll3_51.eb (p52.b (lo := x + 105) (hi := x + 105 + 3) (I := I51) (by omega))
  have il3_52 : I51 (x + 105) 1 = 0 := by rw [((p52.b (lo := x + 105) (hi := x + 105 + 1) (I := I51) (by omega)) (x + 105) (by omega) (by omega)).2.2]; exact il3_51
  have ll4_52 : LaySl S52 (x + 108) := ll4_51.eb (p52.b (lo := x + 108) (hi := x + 108 + 3) (I := I51) (by omega))
  have il4_52 : I51 (x + 108) 1 = 0 := by rw [((p52.b (lo := x + 108) (hi := x + 108 + 1) (I := I51) (by omega)) (x + 108) (by omega) (by omega)).2.2]; exact il4_51
  have eB_52 : EqB 0 x S I S52 I51 := eB_51.tr (p52.b (lo := 0) (hi := x) (I := I51) (by omega))
  clear lv0_51 iv0_51 g0_51 lv1_51 iv1_51 g1_51 v2_51 lp_51 g3_51 lt_51 it_51 i8_51 g4_51 lr_51 g5_51 g6_51 g7_51 g8_51 i87_51 g9_51 v10_51 ls0_51 is0_51 ls1_51 is1_51 ls2_51 is2_51 ls3_51 is3_51 a85x0_51 a85x1_51 a85x2_51 a85x3_51 ll0_51 il0_51 ll1_51 il1_51 ll2_51 il2_51 ll3_51 il3_51 ll4_51 il4_51 eB_51
  have h0_52 : S52.1 (x) = some (9, 0) := by rw [p52.1]; exact h0_51
  have c84_52 : S52.1 (x + 84) = some (24, 14) := by rw [p52.1]; exact c84_51
  have c85_52 : S52.1 (x + 85) = some (25, 4) := by rw [p52.1]; exact c85_51
  have c86_52 : S52.1 (x + 86) = some (26, 5) := by rw [p52.1]; exact c86_51
  have c87_52 : S52.1 (x + 87) = some (20, 60) := by rw [p52.1]; exact c87_51
  have a86x0_52 : S52.2.1 (x + 86) 0 = .ref (x + 96) := by rw [p52.2.2.2.1 0 (by decide)]; exact a86x0_51
  have a86x1_52 : S52.2.1 (x + 86) 1 = .ref (x + 99) := by rw [p52.2.2.2.1 1 (by decide)]; exact a86x1_51
  have a86x2_52 : S52.2.1 (x + 86) 2 = .ref (x + 102) := by rw [p52.2.2.2.1 2 (by decide)]; exact a86x2_51
  have a86x3_52 : S52.2.1 (x + 86) 3 = .ref (x + 105) := by rw [p52.2.2.2.1 3 (by decide)]; exact a86x3_51
  clear h0_51 c84_51 c85_51 c86_51 c87_51 a86x0_51 a86x1_51 a86x2_51 a86x3_51
  have z52 : S52.2.2 = x + 111 := by rw [p52.2.1]; exact z51
  clear z51
  have a86x4_52 : S52.2.1 (x + 86) 4 = .ref (x + 108) := p52.2.2.1
  refine v_iinc (n := 151) (v := 5) (al' := [.ref x, .int 5]) dX10_init_148 rfl (by decide) rfl rfl rfl ?_
  refine v_goto (tgt := 130) dX10_init_151 (by decide) ?_
  refine v_iload_n (n := 131) dX10_init_130 rfl rfl rfl ?_
  refine v_iconst (n := 132) (v := 5) dX10_init_131 c_5 rfl ?_
  refine v_icmp_ge (n := 135) (tgt := 154) dX10_init_132 (by decide) rfl (fun _ => ?_) (fun z => absurd (by decide) z)
  have hLX : LayX S52 x := by
    refine ⟨h0_52, ⟨g0_52, g1_52, g3_52, g4_52, g5_52, g6_52, g7_52, g8_52, g9_52⟩, ⟨lv0_52, lv1_52, lp_52, lt_52, lr_52⟩, ⟨c84_52, c85_52, c86_52, c87_52⟩, fun i hi => ?_, fun i hi => ?_⟩
    · rcases (show i = 0 ∨ i = 1 ∨ i = 2 ∨ i = 3 by omega) with rfl | rfl | rfl | rfl
      · exact ⟨a85x0_52, ls0_52⟩
      · exact ⟨a85x1_52, ls1_52⟩
      · exact ⟨a85x2_52, ls2_52⟩
      · exact ⟨a85x3_52, ls3_52⟩
    · rcases (show i = 0 ∨ i = 1 ∨ i = 2 ∨ i = 3 ∨ i = 4 by omega) with rfl | rfl | rfl | rfl | rfl
      · exact ⟨a86x0_52, ll0_52⟩
      · exact ⟨a86x1_52, ll1_52⟩
      · exact ⟨a86x2_52, ll2_52⟩
      · exact ⟨a86x3_52, ll3_52⟩
      · exact ⟨a86x4_52, ll4_52⟩
  have hIX : IniX S52 I51 x := by
    refine ⟨iv0_52, v2_52, v10_52, fun i hi => ?_, fun i hi => ?_, i8_52, it_52, i87_52⟩
    · rcases (show i = 0 ∨ i = 1 ∨ i = 2 ∨ i = 3 by omega) with rfl | rfl | rfl | rfl
      · exact is0_52
      · exact is1_52
      · exact is2_52
      · exact is3_52
    · rcases (show i = 0 ∨ i = 1 ∨ i = 2 ∨ i = 3 ∨ i = 4 by omega) with rfl | rfl | rfl | rfl | rfl
      · exact il0_52
      · exact il1_52
      · exact il2_52
      · exact il3_52
      · exact il4_52
  exact v_vret rfl ⟨rfl, hLX, hIX, z52, eB_52, fun hf => (p52.f (fv51 (w50.2.2.2.2.2 (p49.f (fv48 (w47.2.2.2.2.2 (p46.f (fv45 (w44.2.2.2.2.2 (p43.f (fv42 (w41.2.2.2.2.2 (p40.f (fv39 (w38.2.2.2.2.2 (p37.f (m36.fr (w35.2.2.2.2.2 (p34.f (m33.fr (w32.2.2.2.2.2 (p31.f (m30.fr (w29.2.2.2.2.2 (p28.f (m27.fr (w26.2.2.2.2.2 (p24.f (w23.2.2.2.2.2 (p22.f (w21.2.2.2.2.2 (p20.f (w19.2.2.2.2.2 (p18.f (w17.2.2.2.2.2 (p16.f (m15.fr (w14.2.2.2.2.2 (p13.f (m12.fr (w11.2.2.2.2.2 (p10.f (fv9 (w8.2.2.2.2.2 (p6.f (fv5 (w4.2.2.2.2.2 (p3.f (fv2 (w1.2.2.2.2.2 hf))))))))))))))))))))))))))))))))))))))))))))))))))⟩ ⟨l8 rfl, l8 rfl⟩ dX10_init_154

