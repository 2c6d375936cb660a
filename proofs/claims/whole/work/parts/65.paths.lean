/-! ===== what is made: Paths ===== -/
set_option maxRecDepth 100000 in
set_option maxHeartbeats 1000000 in
theorem k_X3_init {ro : Ro} {S : St} {I : In} {q : Nat} (hz : S.2.2 = q + 1) (h0 : S.1 q = some (2, 0)) : Ok mX3_init ro 3 56 655 [.ref q] S I (fun rr S' I' => rr = none ∧ LayP S' q ∧ S'.2.2 = q + 57 ∧ EqB 0 q S I S' I' ∧ (Fre S → Fre S')) := by
  refine ok_of (al := [.ref q, JJ]) (by decide) (l8 rfl) rfl ?_
  refine v_aload_n (n := 1) dX3_init_0 rfl rfl rfl ?_
  refine v_objInit (n := 4) l_X3_3 oi_iv oi_code ⟨rfl, rfl⟩ (l8 rfl) dX3_init_1 rfl ?_
  refine v_aload_n (n := 5) dX3_init_4 rfl rfl rfl ?_
  refine v_iconst (n := 6) (v := 5) dX3_init_5 c_5 rfl ?_
  refine v_nR (n := 9) (t := 3) (N := 5) (e := q + 1) hz ⟨by decide, by decide⟩ cl_X3_9 ⟨by decide, rfl, by decide⟩ ⟨l8 rfl, l8 rfl⟩ dX3_init_6 rfl (fun S1 I1 w1 => ?_)
  have h0_1 : S1.1 (q) = some (2, 0) := by rw [((w1.b (lo := q) (hi := q + 1) (by omega)) (q) (by omega) (by omega)).1]; exact h0
  have eB_1 : EqB 0 q S I S1 I1 := (w1.b (lo := 0) (hi := q) (by omega))
  clear h0
  have z1 : S1.2.2 = q + 2 := w1.1
  clear hz
  have c1_1 : S1.1 (q + 1) = some (23, 5) := w1.2.1
  refine v_pO (n := 12) f_X3_11 rfl (Or.inr ⟨rfl, rfl, rfl⟩) h0_1 dX3_init_9 rfl (fun S2 p2 => ?_)
  have h0_2 : S2.1 (q) = some (2, 0) := by rw [p2.1]; exact h0_1
  have c1_2 : S2.1 (q + 1) = some (23, 5) := by rw [p2.1]; exact c1_1
  have eB_2 : EqB 0 q S I S2 I1 := eB_1.tr (p2.b (lo := 0) (hi := q) (I := I1) (by omega))
  clear h0_1 c1_1 eB_1
  have z2 : S2.2.2 = q + 2 := by rw [p2.2.1]; exact z1
  clear z1
  have g0_2 : S2.2.1 q 0 = .ref (q + 1) := p2.2.2.1
  refine v_aload_n (n := 13) dX3_init_12 rfl rfl rfl ?_
  refine v_iconst (n := 14) (v := 0) dX3_init_13 c_0 rfl ?_
  refine v_putZ (n := 17) f_X3_17 rfl (Or.inl rfl) h0_2 (by decide) dX3_init_14 rfl ?_
  obtain ⟨I3, hI3⟩ : ∃ I9, I9 = setI I1 q 1 0 := ⟨_, rfl⟩
  rw [← hI3]
  have h0_3 : S2.1 (q) = some (2, 0) := h0_2
  have c1_3 : S2.1 (q + 1) = some (23, 5) := c1_2
  have g0_3 : S2.2.1 q 0 = .ref (q + 1) := g0_2
  have eB_3 : EqB 0 q S I S2 I3 := eB_2.tr (show EqB (0) (q) S2 I1 S2 I3 from by rw [hI3]; exact setI_b (by omega))
  clear h0_2 c1_2 g0_2 eB_2
  have v1_3 : I3 q 1 = 0 := by rw [hI3, sI_s]
  refine v_aload_n (n := 18) dX3_init_17 rfl rfl rfl ?_
  refine v_iconst (n := 19) (v := 0) dX3_init_18 c_0 rfl ?_
  refine v_putI (n := 22) f_X3_21 rfl (Or.inl rfl) h0_3 dX3_init_19 rfl ?_
  obtain ⟨I4, hI4⟩ : ∃ I9, I9 = setI I3 q 2 0 := ⟨_, rfl⟩
  rw [← hI4]
  have h0_4 : S2.1 (q) = some (2, 0) := h0_3
  have c1_4 : S2.1 (q + 1) = some (23, 5) := c1_3
  have g0_4 : S2.2.1 q 0 = .ref (q + 1) := g0_3
  have v1_4 : I4 q 1 = 0 := by rw [hI4, sI_k (by decide)]; exact v1_3
  have eB_4 : EqB 0 q S I S2 I4 := eB_3.tr (show EqB (0) (q) S2 I3 S2 I4 from by rw [hI4]; exact setI_b (by omega))
  clear h0_3 c1_3 g0_3 v1_3 eB_3
  have v2_4 : I4 q 2 = 0 := by rw [hI4, sI_s]
  refine v_aload_n (n := 23) dX3_init_22 rfl rfl rfl ?_
  refine v_iconst (n := 24) (v := 0) dX3_init_23 c_0 rfl ?_
  refine v_putI (n := 27) f_X3_25 rfl (Or.inl rfl) h0_4 dX3_init_24 rfl ?_
  obtain ⟨I5, hI5⟩ : ∃ I9, I9 = setI I4 q 3 0 := ⟨_, rfl⟩
  rw [← hI5]
  have h0_5 : S2.1 (q) = some (2, 0) := h0_4
  have c1_5 : S2.1 (q + 1) = some (23, 5) := c1_4
  have g0_5 : S2.2.1 q 0 = .ref (q + 1) := g0_4
  have v1_5 : I5 q 1 = 0 := by rw [hI5, sI_k (by decide)]; exact v1_4
  have v2_5 : I5 q 2 = 0 := by rw [hI5, sI_k (by decide)]; exact v2_4
  have eB_5 : EqB 0 q S I S2 I5 := eB_4.tr (show EqB (0) (q) S2 I4 S2 I5 from by rw [hI5]; exact setI_b (by omega))
  clear h0_4 c1_4 g0_4 v1_4 v2_4 eB_4
  have v3_5 : I5 q 3 = 0 := by rw [hI5, sI_s]
  refine v_aload_n (n := 28) dX3_init_27 rfl rfl rfl ?_
  refine v_iconst (n := 29) (v := 0) dX3_init_28 c_0 rfl ?_
  refine v_putI (n := 32) f_X3_28 rfl (Or.inl rfl) h0_5 dX3_init_29 rfl ?_
  obtain ⟨I6, hI6⟩ : ∃ I9, I9 = setI I5 q 4 0 := ⟨_, rfl⟩
  rw [← hI6]
  have h0_6 : S2.1 (q) = some (2, 0) := h0_5
  have c1_6 : S2.1 (q + 1) = some (23, 5) := c1_5
  have g0_6 : S2.2.1 q 0 = .ref (q + 1) := g0_5
  have v1_6 : I6 q 1 = 0 := by rw [hI6, sI_k (by decide)]; exact v1_5
  have v2_6 : I6 q 2 = 0 := by rw [hI6, sI_k (by decide)]; exact v2_5
  have v3_6 : I6 q 3 = 0 := by rw [hI6, sI_k (by decide)]; exact v3_5
  have eB_6 : EqB 0 q S I S2 I6 := eB_5.tr (show EqB (0) (q) S2 I5 S2 I6 from by rw [hI6]; exact setI_b (by omega))
  clear h0_5 c1_5 g0_5 v1_5 v2_5 v3_5 eB_5
  have v4_6 : I6 q 4 = 0 := by rw [hI6, sI_s]
  refine v_iconst (n := 33) (v := 0) dX3_init_32 c_0 rfl ?_
  refine v_istore_n (n := 34) (al' := [.ref q, .int 0]) dX3_init_33 rfl rfl rfl rfl ?_
  refine v_iload_n (n := 35) dX3_init_34 rfl rfl rfl ?_
  refine v_iconst (n := 36) (v := 5) dX3_init_35 c_5 rfl ?_
  refine v_icmp_ge (n := 39) (tgt := 58) dX3_init_36 (by decide) rfl (fun z => absurd z (by decide)) (fun _ => ?_)
  refine v_aload_n (n := 40) dX3_init_39 rfl rfl rfl ?_
  refine v_getR (n := 43) f_X3_11 rfl h0_6 g0_6 dX3_init_40 rfl ?_
  refine v_iload_n (n := 44) dX3_init_43 rfl rfl rfl ?_
  refine v_nO (n := 47) (ci := 8) (N := 9) (e := q + 2) z2 (by decide) rfl cl_X3_9 in_X9 ini_X9 ⟨l8 rfl, l8 rfl⟩ dX3_init_44 rfl (fun S7 I7 w7 => ?_)
  have h0_7 : S7.1 (q) = some (2, 0) := by rw [((w7.b (lo := q) (hi := q + 1) (by omega)) (q) (by omega) (by omega)).1]; exact h0_6
  have c1_7 : S7.1 (q + 1) = some (23, 5) := by rw [((w7.b (lo := q + 1) (hi := q + 1 + 1) (by omega)) (q + 1) (by omega) (by omega)).1]; exact c1_6
  have g0_7 : S7.2.1 q 0 = .ref (q + 1) := by rw [((w7.b (lo := q) (hi := q + 1) (by omega)) (q) (by omega) (by omega)).2.1]; exact g0_6
  have v1_7 : I7 q 1 = 0 := by rw [((w7.b (lo := q) (hi := q + 1) (by omega)) (q) (by omega) (by omega)).2.2]; exact v1_6
  have v2_7 : I7 q 2 = 0 := by rw [((w7.b (lo := q) (hi := q + 1) (by omega)) (q) (by omega) (by omega)).2.2]; exact v2_6
  have v3_7 : I7 q 3 = 0 := by rw [((w7.b (lo := q) (hi := q + 1) (by omega)) (q) (by omega) (by omega)).2.2]; exact v3_6
  have v4_7 : I7 q 4 = 0 := by rw [((w7.b (lo := q) (hi := q + 1) (by omega)) (q) (by omega) (by omega)).2.2]; exact v4_6
  have eB_7 : EqB 0 q S I S7 I7 := eB_6.tr (w7.b (lo := 0) (hi := q) (by omega))
  clear h0_6 c1_6 g0_6 v1_6 v2_6 v3_6 v4_6 eB_6
  refine v_dup (n := 48) dX3_init_47 rfl rfl ?_
  refine v_callIN (n := 51) (host := "SnowOwed") mc_X9_init (by decide) iv_X9_init rfl (k_X9_init (ro := ro) w7.1 w7.2.1) ⟨rfl, rfl⟩ (l8 rfl) ⟨l8 rfl, l8 rfl⟩ rfl rfl (l8 rfl) dX3_init_48 rfl ?_
  rintro _ S8 I8 ⟨rfl, lv8, iv8, zv8, ev8, fv8⟩
  have h0_8 : S8.1 (q) = some (2, 0) := by rw [((ev8.sub (lo2 := q) (hi2 := q + 1) (by omega) (by omega)) (q) (by omega) (by omega)).1]; exact h0_7
  have c1_8 : S8.1 (q + 1) = some (23, 5) := by rw [((ev8.sub (lo2 := q + 1) (hi2 := q + 1 + 1) (by omega) (by omega)) (q + 1) (by omega) (by omega)).1]; exact c1_7
  have g0_8 : S8.2.1 q 0 = .ref (q + 1) := by rw [((ev8.sub (lo2 := q) (hi2 := q + 1) (by omega) (by omega)) (q) (by omega) (by omega)).2.1]; exact g0_7
  have v1_8 : I8 q 1 = 0 := by rw [((ev8.sub (lo2 := q) (hi2 := q + 1) (by omega) (by omega)) (q) (by omega) (by omega)).2.2]; exact v1_7
  have v2_8 : I8 q 2 = 0 := by rw [((ev8.sub (lo2 := q) (hi2 := q + 1) (by omega) (by omega)) (q) (by omega) (by omega)).2.2]; exact v2_7
  have v3_8 : I8 q 3 = 0 := by rw [((ev8.sub (lo2 := q) (hi2 := q + 1) (by omega) (by omega)) (q) (by omega) (by omega)).2.2]; exact v3_7
  have v4_8 : I8 q 4 = 0 := by rw [((ev8.sub (lo2 := q) (hi2 := q + 1) (by omega) (by omega)) (q) (by omega) (by omega)).2.2]; exact v4_7
  have eB_8 : EqB 0 q S I S8 I8 := eB_7.tr (ev8.sub (lo2 := 0) (hi2 := q) (by omega) (by omega))
  clear h0_7 c1_7 g0_7 v1_7 v2_7 v3_7 v4_7 eB_7
  have z8 : S8.2.2 = q + 13 := zv8
  clear z2
  have lv0_8 : LayV S8 (q + 2) := lv8
  refine v_aO (n := 52) (t := 3) (j := 0) ⟨by decide, by decide⟩ c1_8 (ix_lit rfl rfl rfl) (lv0_8).s dX3_init_51 rfl (fun S9 p9 => ?_)
  have g0_9 : S9.2.1 q 0 = .ref (q + 1) := by rw [((p9.b (lo := q) (hi := q + 1) (I := I8) (by omega)) (q) (by omega) (by omega)).2.1]; exact g0_8
  have v1_9 : I8 q 1 = 0 := by rw [((p9.b (lo := q) (hi := q + 1) (I := I8) (by omega)) (q) (by omega) (by omega)).2.2]; exact v1_8
  have v2_9 : I8 q 2 = 0 := by rw [((p9.b (lo := q) (hi := q + 1) (I := I8) (by omega)) (q) (by omega) (by omega)).2.2]; exact v2_8
  have v3_9 : I8 q 3 = 0 := by rw [((p9.b (lo := q) (hi := q + 1) (I := I8) (by omega)) (q) (by omega) (by omega)).2.2]; exact v3_8
  have v4_9 : I8 q 4 = 0 := by rw [((p9.b (lo := q) (hi := q + 1) (I := I8) (by omega)) (q) (by omega) (by omega)).2.2]; exact v4_8
  have lv0_9 : LayV S9 (q + 2) := lv0_8.eb (p9.b (lo := q + 2) (hi := q + 2 + 11) (I := I8) (by omega))
  have eB_9 : EqB 0 q S I S9 I8 := eB_8.tr (p9.b (lo := 0) (hi := q) (I := I8) (by omega))
  clear g0_8 v1_8 v2_8 v3_8 v4_8 lv0_8 eB_8
  have h0_9 : S9.1 (q) = some (2, 0) := by rw [p9.1]; exact h0_8
  have c1_9 : S9.1 (q + 1) = some (23, 5) := by rw [p9.1]; exact c1_8
  clear h0_8 c1_8
  have z9 : S9.2.2 = q + 13 := by rw [p9.2.1]; exact z8
  clear z8
  have a1x0_9 : S9.2.1 (q + 1) 0 = .ref (q + 2) := p9.2.2.1
  refine v_iinc (n := 55) (v := 1) (al' := [.ref q, .int 1]) dX3_init_52 rfl (by decide) rfl rfl rfl ?_
  refine v_goto (tgt := 34) dX3_init_55 (by decide) ?_
  refine v_iload_n (n := 35) dX3_init_34 rfl rfl rfl ?_
  refine v_iconst (n := 36) (v := 5) dX3_init_35 c_5 rfl ?_
  refine v_icmp_ge (n := 39) (tgt := 58) dX3_init_36 (by decide) rfl (fun z => absurd z (by decide)) (fun _ => ?_)
  refine v_aload_n (n := 40) dX3_init_39 rfl rfl rfl ?_
  refine v_getR (n := 43) f_X3_11 rfl h0_9 g0_9 dX3_init_40 rfl ?_
  refine v_iload_n (n := 44) dX3_init_43 rfl rfl rfl ?_
  refine v_nO (n := 47) (ci := 8) (N := 9) (e := q + 13) z9 (by decide) rfl cl_X3_9 in_X9 ini_X9 ⟨l8 rfl, l8 rfl⟩ dX3_init_44 rfl (fun S10 I10 w10 => ?_)
  have g0_10 : S10.2.1 q 0 = .ref (q + 1) := by rw [((w10.b (lo := q) (hi := q + 1) (by omega)) (q) (by omega) (by omega)).2.1]; exact g0_9
  have v1_10 : I10 q 1 = 0 := by rw [((w10.b (lo := q) (hi := q + 1) (by omega)) (q) (by omega) (by omega)).2.2]; exact v1_9
  have v2_10 : I10 q 2 = 0 := by rw [((w10.b (lo := q) (hi := q + 1) (by omega)) (q) (by omega) (by omega)).2.2]; exact v2_9
  have v3_10 : I10 q 3 = 0 := by rw [((w10.b (lo := q) (hi := q + 1) (by omega)) (q) (by omega) (by omega)).2.2]; exact v3_9
  have v4_10 : I10 q 4 = 0 := by rw [((w10.b (lo := q) (hi := q + 1) (by omega)) (q) (by omega) (by omega)).2.2]; exact v4_9
  have lv0_10 : LayV S10 (q + 2) := lv0_9.eb (w10.b (lo := q + 2) (hi := q + 2 + 11) (by omega))
  have h0_10 : S10.1 (q) = some (2, 0) := by rw [((w10.b (lo := q) (hi := q + 1) (by omega)) (q) (by omega) (by omega)).1]; exact h0_9
  have c1_10 : S10.1 (q + 1) = some (23, 5) := by rw [((w10.b (lo := q + 1) (hi := q + 1 + 1) (by omega)) (q + 1) (by omega) (by omega)).1]; exact c1_9
  have a1x0_10 : S10.2.1 (q + 1) 0 = .ref (q + 2) := by rw [((w10.b (lo := q + 1) (hi := q + 1 + 1) (by omega)) (q + 1) (by omega) (by omega)).2.1]; exact a1x0_9
  have eB_10 : EqB 0 q S I S10 I10 := eB_9.tr (w10.b (lo := 0) (hi := q) (by omega))
  clear g0_9 v1_9 v2_9 v3_9 v4_9 lv0_9 h0_9 c1_9 a1x0_9 eB_9
  refine v_dup (n := 48) dX3_init_47 rfl rfl ?_
  refine v_callIN (n := 51) (host := "SnowOwed") mc_X9_init (by decide) iv_X9_init rfl (k_X9_init (ro := ro) w10.1 w10.2.1) ⟨rfl, rfl⟩ (l8 rfl) ⟨l8 rfl, l8 rfl⟩ rfl rfl (l8 rfl) dX3_init_48 rfl ?_
  rintro _ S11 I11 ⟨rfl, lv11, iv11, zv11, ev11, fv11⟩
  have g0_11 : S11.2.1 q 0 = .ref (q + 1) := by rw [((ev11.sub (lo2 := q) (hi2 := q + 1) (by omega) (by omega)) (q) (by omega) (by omega)).2.1]; exact g0_10
  have v1_11 : I11 q 1 = 0 := by rw [((ev11.sub (lo2 := q) (hi2 := q + 1) (by omega) (by omega)) (q) (by omega) (by omega)).2.2]; exact v1_10
  have v2_11 : I11 q 2 = 0 := by rw [((ev11.sub (lo2 := q) (hi2 := q + 1) (by omega) (by omega)) (q) (by omega) (by omega)).2.2]; exact v2_10
  have v3_11 : I11 q 3 = 0 := by rw [((ev11.sub (lo2 := q) (hi2 := q + 1) (by omega) (by omega)) (q) (by omega) (by omega)).2.2]; exact v3_10
  have v4_11 : I11 q 4 = 0 := by rw [((ev11.sub (lo2 := q) (hi2 := q + 1) (by omega) (by omega)) (q) (by omega) (by omega)).2.2]; exact v4_10
  have lv0_11 : LayV S11 (q + 2) := lv0_10.eb (ev11.sub (lo2 := q + 2) (hi2 := q + 2 + 11) (by omega) (by omega))
  have h0_11 : S11.1 (q) = some (2, 0) := by rw [((ev11.sub (lo2 := q) (hi2 := q + 1) (by omega) (by omega)) (q) (by omega) (by omega)).1]; exact h0_10
  have c1_11 : S11.1 (q + 1) = some (23, 5) := by rw [((ev11.sub (lo2 := q + 1) (hi2 := q + 1 + 1) (by omega) (by omega)) (q + 1) (by omega) (by omega)).1]; exact c1_10
  have a1x0_11 : S11.2.1 (q + 1) 0 = .ref (q + 2) := by rw [((ev11.sub (lo2 := q + 1) (hi2 := q + 1 + 1) (by omega) (by omega)) (q + 1) (by omega) (by omega)).2.1]; exact a1x0_10
  have eB_11 : EqB 0 q S I S11 I11 := eB_10.tr (ev11.sub (lo2 := 0) (hi2 := q) (by omega) (by omega))
  clear g0_10 v1_10 v2_10 v3_10 v4_10 lv0_10 h0_10 c1_10 a1x0_10 eB_10
  have z11 : S11.2.2 = q + 24 := zv11
  clear z9
  have lv1_11 : LayV S11 (q + 13) := lv11
  refine v_aO (n := 52) (t := 3) (j := 1) ⟨by decide, by decide⟩ c1_11 (ix_lit rfl rfl rfl) (lv1_11).s dX3_init_51 rfl (fun S12 p12 => ?_)
  have g0_12 : S12.2.1 q 0 = .ref (q + 1) := by rw [((p12.b (lo := q) (hi := q + 1) (I := I11) (by omega)) (q) (by omega) (by omega)).2.1]; exact g0_11
  have v1_12 : I11 q 1 = 0 := by rw [((p12.b (lo := q) (hi := q + 1) (I := I11) (by omega)) (q) (by omega) (by omega)).2.2]; exact v1_11
  have v2_12 : I11 q 2 = 0 := by rw [((p12.b (lo := q) (hi := q + 1) (I := I11) (by omega)) (q) (by omega) (by omega)).2.2]; exact v2_11
  have v3_12 : I11 q 3 = 0 := by rw [((p12.b (lo := q) (hi := q + 1) (I := I11) (by omega)) (q) (by omega) (by omega)).2.2]; exact v3_11
  have v4_12 : I11 q 4 = 0 := by rw [((p12.b (lo := q) (hi := q + 1) (I := I11) (by omega)) (q) (by omega) (by omega)).2.2]; exact v4_11
  have lv0_12 : LayV S12 (q + 2) := lv0_11.eb (p12.b (lo := q + 2) (hi := q + 2 + 11) (I := I11) (by omega))
  have lv1_12 : LayV S12 (q + 13) := lv1_11.eb (p12.b (lo := q + 13) (hi := q + 13 + 11) (I := I11) (by omega))
  have eB_12 : EqB 0 q S I S12 I11 := eB_11.tr (p12.b (lo := 0) (hi := q) (I := I11) (by omega))
  clear g0_11 v1_11 v2_11 v3_11 v4_11 lv0_11 lv1_11 eB_11
  have h0_12 : S12.1 (q) = some (2, 0) := by rw [p12.1]; exact h0_11
  have c1_12 : S12.1 (q + 1) = some (23, 5) := by rw [p12.1]; exact c1_11
  have a1x0_12 : S12.2.1 (q + 1) 0 = .ref (q + 2) := by rw [p12.2.2.2.1 0 (by decide)]; exact a1x0_11
  clear h0_11 c1_11 a1x0_11
  have z12 : S12.2.2 = q + 24 := by rw [p12.2.1]; exact z11
  clear z11
  have a1x1_12 : S12.2.1 (q + 1) 1 = .ref (q + 13) := p12.2.2.1
  refine v_iinc (n := 55) (v := 2) (al' := [.ref q, .int 2]) dX3_init_52 rfl (by decide) rfl rfl rfl ?_
  refine v_goto (tgt := 34) dX3_init_55 (by decide) ?_
  refine v_iload_n (n := 35) dX3_init_34 rfl rfl rfl ?_
  refine v_iconst (n := 36) (v := 5) dX3_init_35 c_5 rfl ?_
  refine v_icmp_ge (n := 39) (tgt := 58) dX3_init_36 (by decide) rfl (fun z => absurd z (by decide)) (fun _ => ?_)
  refine v_aload_n (n := 40) dX3_init_39 rfl rfl rfl ?_
  refine v_getR (n := 43) f_X3_11 rfl h0_12 g0_12 dX3_init_40 rfl ?_
  refine v_iload_n (n := 44) dX3_init_43 rfl rfl rfl ?_
  refine v_nO (n := 47) (ci := 8) (N := 9) (e := q + 24) z12 (by decide) rfl cl_X3_9 in_X9 ini_X9 ⟨l8 rfl, l8 rfl⟩ dX3_init_44 rfl (fun S13 I13 w13 => ?_)
  have g0_13 : S13.2.1 q 0 = .ref (q + 1) := by rw [((w13.b (lo := q) (hi := q + 1) (by omega)) (q) (by omega) (by omega)).2.1]; exact g0_12
  have v1_13 : I13 q 1 = 0 := by rw [((w13.b (lo := q) (hi := q + 1) (by omega)) (q) (by omega) (by omega)).2.2]; exact v1_12
  have v2_13 : I13 q 2 = 0 := by rw [((w13.b (lo := q) (hi := q + 1) (by omega)) (q) (by omega) (by omega)).2.2]; exact v2_12
  have v3_13 : I13 q 3 = 0 := by rw [((w13.b (lo := q) (hi := q + 1) (by omega)) (q) (by omega) (by omega)).2.2]; exact v3_12
  have v4_13 : I13 q 4 = 0 := by rw [((w13.b (lo := q) (hi := q + 1) (by omega)) (q) (by omega) (by omega)).2.2]; exact v4_12
  have lv0_13 : LayV S13 (q + 2) := lv0_12.eb (w13.b (lo := q + 2) (hi := q + 2 + 11) (by omega))
  have lv1_13 : LayV S13 (q + 13) := lv1_12.eb (w13.b (lo := q + 13) (hi := q + 13 + 11) (by omega))
  have h0_13 : S13.1 (q) = some (2, 0) := by rw [((w13.b (lo := q) (hi := q + 1) (by omega)) (q) (by omega) (by omega)).1]; exact h0_12
  have c1_13 : S13.1 (q + 1) = some (23, 5) := by rw [((w13.b (lo := q + 1) (hi := q + 1 + 1) (by omega)) (q + 1) (by omega) (by omega)).1]; exact c1_12
  have a1x0_13 : S13.2.1 (q + 1) 0 = .ref (q + 2) := by rw [((w13.b (lo := q + 1) (hi := q + 1 + 1) (by omega)) (q + 1) (by omega) (by omega)).2.1]; exact a1x0_12
  have a1x1_13 : S13.2.1 (q + 1) 1 = .ref (q + 13) := by rw [((w13.b (lo := q + 1) (hi := q + 1 + 1) (by omega)) (q + 1) (by omega) (by omega)).2.1]; exact a1x1_12
  have eB_13 : EqB 0 q S I S13 I13 := eB_12.tr (w13.b (lo := 0) (hi := q) (by omega))
  clear g0_12 v1_12 v2_12 v3_12 v4_12 lv0_12 lv1_12 h0_12 c1_12 a1x0_12 a1x1_12 eB_12
  refine v_dup (n := 48) dX3_init_47 rfl rfl ?_
  refine v_callIN (n := 51) (host := "SnowOwed") mc_X9_init (by decide) iv_X9_init rfl (k_X9_init (ro := ro) w13.1 w13.2.1) ⟨rfl, rfl⟩ (l8 rfl) ⟨l8 rfl, l8 rfl⟩ rfl rfl (l8 rfl) dX3_init_48 rfl ?_
  rintro _ S14 I14 ⟨rfl, lv14, iv14, zv14, ev14, fv14⟩
  have g0_14 : S14.2.1 q 0 = .ref (q + 1) := by rw [((ev14.sub (lo2 := q) (hi2 := q + 1) (by omega) (by omega)) (q) (by omega) (by omega)).2.1]; exact g0_13
  have v1_14 : I14 q 1 = 0 := by rw [((ev14.sub (lo2 := q) (hi2 := q + 1) (by omega) (by omega)) (q) (by omega) (by omega)).2.2]; exact v1_13
  have v2_14 : I14 q 2 = 0 := by rw [((ev14.sub (lo2 := q) (hi2 := q + 1) (by omega) (by omega)) (q) (by omega) (by omega)).2.2]; exact v2_13
  have v3_14 : I14 q 3 = 0 := by rw [((ev14.sub (lo2 := q) (hi2 := q + 1) (by omega) (by omega)) (q) (by omega) (by omega)).2.2]; exact v3_13
  have v4_14 : I14 q 4 = 0 := by rw [((ev14.sub (lo2 := q) (hi2 := q + 1) (by omega) (by omega)) (q) (by omega) (by omega)).2.2]; exact v4_13
  have lv0_14 : LayV S14 (q + 2) := lv0_13.eb (ev14.sub (lo2 := q + 2) (hi2 := q + 2 + 11) (by omega) (by omega))
  have lv1_14 : LayV S14 (q + 13) := lv1_13.eb (ev14.sub (lo2 := q + 13) (hi2 := q + 13 + 11) (by omega) (by omega))
  have h0_14 : S14.1 (q) = some (2, 0) := by rw [((ev14.sub (lo2 := q) (hi2 := q + 1) (by omega) (by omega)) (q) (by omega) (by omega)).1]; exact h0_13
  have c1_14 : S14.1 (q + 1) = some (23, 5) := by rw [((ev14.sub (lo2 := q + 1) (hi2 := q + 1 + 1) (by omega) (by omega)) (q + 1) (by omega) (by omega)).1]; exact c1_13
  have a1x0_14 : S14.2.1 (q + 1) 0 = .ref (q + 2) := by rw [((ev14.sub (lo2 := q + 1) (hi2 := q + 1 + 1) (by omega) (by omega)) (q + 1) (by omega) (by omega)).2.1]; exact a1x0_13
  have a1x1_14 : S14.2.1 (q + 1) 1 = .ref (q + 13) := by rw [((ev14.sub (lo2 := q + 1) (hi2 := q + 1 + 1) (by omega) (by omega)) (q + 1) (by omega) (by omega)).2.1]; exact a1x1_13
  have eB_14 : EqB 0 q S I S14 I14 := eB_13.tr (ev14.sub (lo2 := 0) (hi2 := q) (by omega) (by omega))
  clear g0_13 v1_13 v2_13 v3_13 v4_13 lv0_13 lv1_13 h0_13 c1_13 a1x0_13 a1x1_13 eB_13
  have z14 : S14.2.2 = q + 35 := zv14
  clear z12
  have lv2_14 : LayV S14 (q + 24) := lv14
  refine v_aO (n := 52) (t := 3) (j := 2) ⟨by decide, by decide⟩ c1_14 (ix_lit rfl rfl rfl) (lv2_14).s dX3_init_51 rfl (fun S15 p15 => ?_)
  have g0_15 : S15.2.1 q 0 = .ref (q + 1) := by rw [((p15.b (lo := q) (hi := q + 1) (I := I14) (by omega)) (q) (by omega) (by omega)).2.1]; exact g0_14
  have v1_15 : I14 q 1 = 0 := by rw [((p15.b (lo := q) (hi := q + 1) (I := I14) (by omega)) (q) (by omega) (by omega)).2.2]; exact v1_14
  have v2_15 : I14 q 2 = 0 := by rw [((p15.b (lo := q) (hi := q + 1) (I := I14) (by omega)) (q) (by omega) (by omega)).2.2]; exact v2_14
  have v3_15 : I14 q 3 = 0 := by rw [((p15.b (lo := q) (hi := q + 1) (I := I14) (by omega)) (q) (by omega) (by omega)).2.2]; exact v3_14
  have v4_15 : I14 q 4 = 0 := by rw [((p15.b (lo := q) (hi := q + 1) (I := I14) (by omega)) (q) (by omega) (by omega)).2.2]; exact v4_14
  have lv0_15 : LayV S15 (q + 2) := lv0_14.eb (p15.b (lo := q + 2) (hi := q + 2 + 11) (I := I14) (by omega))
  have lv1_15 : LayV S15 (q + 13) := lv1_14.eb (p15.b (lo := q + 13) (hi := q + 13 + 11) (I := I14) (by omega))
  have lv2_15 : LayV S15 (q + 24) := lv2_14.eb (p15.b (lo := q + 24) (hi := q + 24 + 11) (I := I14) (by omega))
  have eB_15 : EqB 0 q S I S15 I14 := eB_14.tr (p15.b (lo := 0) (hi := q) (I := I14) (by omega))
  clear g0_14 v1_14 v2_14 v3_14 v4_14 lv0_14 lv1_14 lv2_14 eB_14
  have h0_15 : S15.1 (q) = some (2, 0) := by rw [p15.1]; exact h0_14
  have c1_15 : S15.1 (q + 1) = some (23, 5) := by rw [p15.1]; exact c1_14
  have a1x0_15 : S15.2.1 (q + 1) 0 = .ref (q + 2) := by rw [p15.2.2.2.1 0 (by decide)]; exact a1x0_14
  have a1x1_15 : S15.2.1 (q + 1) 1 = .ref (q + 13) := by rw [p15.2.2.2.1 1 (by decide)]; exact a1x1_14
  clear h0_14 c1_14 a1x0_14 a1x1_14
  have z15 : S15.2.2 = q + 35 := by rw [p15.2.1]; exact z14
  clear z14
  have a1x2_15 : S15.2.1 (q + 1) 2 = .ref (q + 24) := p15.2.2.1
  refine v_iinc (n := 55) (v := 3) (al' := [.ref q, .int 3]) dX3_init_52 rfl (by decide) rfl rfl rfl ?_
  refine v_goto (tgt := 34) dX3_init_55 (by decide) ?_
  refine v_iload_n (n := 35) dX3_init_34 rfl rfl rfl ?_
  refine v_iconst (n := 36) (v := 5) dX3_init_35 c_5 rfl ?_
  refine v_icmp_ge (n := 39) (tgt := 58) dX3_init_36 (by decide) rfl (fun z => absurd z (by decide)) (fun _ => ?_)
  refine v_aload_n (n := 40) dX3_init_39 rfl rfl rfl ?_
  refine v_getR (n := 43) f_X3_11 rfl h0_15 g0_15 dX3_init_40 rfl ?_
  refine v_iload_n (n := 44) dX3_init_43 rfl rfl rfl ?_
  refine v_nO (n := 47) (ci := 8) (N := 9) (e := q + 35) z15 (by decide) rfl cl_X3_9 in_X9 ini_X9 ⟨l8 rfl, l8 rfl⟩ dX3_init_44 rfl (fun S16 I16 w16 => ?_)
  have g0_16 : S16.2.1 q 0 = .ref (q + 1) := by rw [((w16.b (lo := q) (hi := q + 1) (by omega)) (q) (by omega) (by omega)).2.1]; exact g0_15
  have v1_16 : I16 q 1 = 0 := by rw [((w16.b (lo := q) (hi := q + 1) (by omega)) (q) (by omega) (by omega)).2.2]; exact v1_15
  have v2_16 : I16 q 2 = 0 := by rw [((w16.b (lo := q) (hi := q + 1) (by omega)) (q) (by omega) (by omega)).2.2]; exact v2_15
  have v3_16 : I16 q 3 = 0 := by rw [((w16.b (lo := q) (hi := q + 1) (by omega)) (q) (by omega) (by omega)).2.2]; exact v3_15
  have v4_16 : I16 q 4 = 0 := by rw [((w16.b (lo := q) (hi := q + 1) (by omega)) (q) (by omega) (by omega)).2.2]; exact v4_15
  have lv0_16 : LayV S16 (q + 2) := lv0_15.eb (w16.b (lo := q + 2) (hi := q + 2 + 11) (by omega))
  have lv1_16 : LayV S16 (q + 13) := lv1_15.eb (w16.b (lo := q + 13) (hi := q + 13 + 11) (by omega))
  have lv2_16 : LayV S16 (q + 24) := lv2_15.eb (w16.b (lo := q + 24) (hi := q + 24 + 11) (by omega))
  have h0_16 : S16.1 (q) = some (2, 0) := by rw [((w16.b (lo := q) (hi := q + 1) (by omega)) (q) (by omega) (by omega)).1]; exact h0_15
  have c1_16 : S16.1 (q + 1) = some (23, 5) := by rw [((w16.b (lo := q + 1) (hi := q + 1 + 1) (by omega)) (q + 1) (by omega) (by omega)).1]; exact c1_15
  have a1x0_16 : S16.2.1 (q + 1) 0 = .ref (q + 2) := by rw [((w16.b (lo := q + 1) (hi := q + 1 + 1) (by omega)) (q + 1) (by omega) (by omega)).2.1]; exact a1x0_15
  have a1x1_16 : S16.2.1 (q + 1) 1 = .ref (q + 13) := by rw [((w16.b (lo := q + 1) (hi := q + 1 + 1) (by omega)) (q + 1) (by omega) (by omega)).2.1]; exact a1x1_15
  have a1x2_16 : S16.2.1 (q + 1) 2 = .ref (q + 24) := by rw [((w16.b (lo := q + 1) (hi := q + 1 + 1) (by omega)) (q + 1) (by omega) (by omega)).2.1]; exact a1x2_15
  have eB_16 : EqB 0 q S I S16 I16 := eB_15.tr (w16.b (lo := 0) (hi := q) (by omega))
  clear g0_15 v1_15 v2_15 v3_15 v4_15 lv0_15 lv1_15 lv2_15 h0_15 c1_15 a1x0_15 a1x1_15 a1x2_15 eB_15
  refine v_dup (n := 48) dX3_init_47 rfl rfl ?_
  refine v_callIN (n := 51) (host := "SnowOwed") mc_X9_init (by decide) iv_X9_init rfl (k_X9_init (ro := ro) w16.1 w16.2.1) ⟨rfl, rfl⟩ (l8 rfl) ⟨l8 rfl, l8 rfl⟩ rfl rfl (l8 rfl) dX3_init_48 rfl ?_
  rintro _ S17 I17 ⟨rfl, lv17, iv17, zv17, ev17, fv17⟩
  have g0_17 : S17.2.1 q 0 = .ref (q + 1) := by rw [((ev17.sub (lo2 := q) (hi2 := q + 1) (by omega) (by omega)) (q) (by omega) (by omega)).2.1]; exact g0_16
  have v1_17 : I17 q 1 = 0 := by rw [((ev17.sub (lo2 := q) (hi2 := q + 1) (by omega) (by omega)) (q) (by omega) (by omega)).2.2]; exact v1_16
  have v2_17 : I17 q 2 = 0 := by rw [((ev17.sub (lo2 := q) (hi2 := q + 1) (by omega) (by omega)) (q) (by omega) (by omega)).2.2]; exact v2_16
  have v3_17 : I17 q 3 = 0 := by rw [((ev17.sub (lo2 := q) (hi2 := q + 1) (by omega) (by omega)) (q) (by omega) (by omega)).2.2]; exact v3_16
  have v4_17 : I17 q 4 = 0 := by rw [((ev17.sub (lo2 := q) (hi2 := q + 1) (by omega) (by omega)) (q) (by omega) (by omega)).2.2]; exact v4_16
  have lv0_17 : LayV S17 (q + 2) := lv0_16.eb (ev17.sub (lo2 := q + 2) (hi2 := q + 2 + 11) (by omega) (by omega))
  have lv1_17 : LayV S17 (q + 13) := lv1_16.eb (ev17.sub (lo2 := q + 13) (hi2 := q + 13 + 11) (by omega) (by omega))
  have lv2_17 : LayV S17 (q + 24) := lv2_16.eb (ev17.sub (lo2 := q + 24) (hi2 := q + 24 + 11) (by omega) (by omega))
  have h0_17 : S17.1 (q) = some (2, 0) := by rw [((ev17.sub (lo2 := q) (hi2 := q + 1) (by omega) (by omega)) (q) (by omega) (by omega)).1]; exact h0_16
  have c1_17 : S17.1 (q + 1) = some (23, 5) := by rw [((ev17.sub (lo2 := q + 1) (hi2 := q + 1 + 1) (by omega) (by omega)) (q + 1) (by omega) (by omega)).1]; exact c1_16
  have a1x0_17 : S17.2.1 (q + 1) 0 = .ref (q + 2) := by rw [((ev17.sub (lo2 := q + 1) (hi2 := q + 1 + 1) (by omega) (by omega)) (q + 1) (by omega) (by omega)).2.1]; exact a1x0_16
  have a1x1_17 : S17.2.1 (q + 1) 1 = .ref (q + 13) := by rw [((ev17.sub (lo2 := q + 1) (hi2 := q + 1 + 1) (by omega) (by omega)) (q + 1) (by omega) (by omega)).2.1]; exact a1x1_16
  have a1x2_17 : S17.2.1 (q + 1) 2 = .ref (q + 24) := by rw [((ev17.sub (lo2 := q + 1) (hi2 := q + 1 + 1) (by omega) (by omega)) (q + 1) (by omega) (by omega)).2.1]; exact a1x2_16
  have eB_17 : EqB 0 q S I S17 I17 := eB_16.tr (ev17.sub (lo2 := 0) (hi2 := q) (by omega) (by omega))
  clear g0_16 v1_16 v2_16 v3_16 v4_16 lv0_16 lv1_16 lv2_16 h0_16 c1_16 a1x0_16 a1x1_16 a1x2_16 eB_16
  have z17 : S17.2.2 = q + 46 := zv17
  clear z15
  have lv3_17 : LayV S17 (q + 35) := lv17
  refine v_aO (n := 52) (t := 3) (j := 3) ⟨by decide, by decide⟩ c1_17 (ix_lit rfl rfl rfl) (lv3_17).s dX3_init_51 rfl (fun S18 p18 => ?_)
  have g0_18 : S18.2.1 q 0 = .ref (q + 1) := by rw [((p18.b (lo := q) (hi := q + 1) (I := I17) (by omega)) (q) (by omega) (by omega)).2.1]; exact g0_17
  have v1_18 : I17 q 1 = 0 := by rw [((p18.b (lo := q) (hi := q + 1) (I := I17) (by omega)) (q) (by omega) (by omega)).2.2]; exact v1_17
  have v2_18 : I17 q 2 = 0 := by rw [((p18.b (lo := q) (hi := q + 1) (I := I17) (by omega)) (q) (by omega) (by omega)).2.2]; exact v2_17
  have v3_18 : I17 q 3 = 0 := by rw [((p18.b (lo := q) (hi := q + 1) (I := I17) (by omega)) (q) (by omega) (by omega)).2.2]; exact v3_17
  have v4_18 : I17 q 4 = 0 := by rw [((p18.b (lo := q) (hi := q + 1) (I := I17) (by omega)) (q) (by omega) (by omega)).2.2]; exact v4_17
  have lv0_18 : LayV S18 (q + 2) := lv0_17.eb (p18.b (lo := q + 2) (hi := q + 2 + 11) (I := I17) (by omega))
  have lv1_18 : LayV S18 (q + 13) := lv1_17.eb (p18.b (lo := q + 13) (hi := q + 13 + 11) (I := I17) (by omega))
  have lv2_18 : LayV S18 (q + 24) := lv2_17.eb (p18.b (lo := q + 24) (hi := q + 24 + 11) (I := I17) (by omega))
  have lv3_18 : LayV S18 (q + 35) := lv3_17.eb (p18.b (lo := q + 35) (hi := q + 35 + 11) (I := I17) (by omega))
  have eB_18 : EqB 0 q S I S18 I17 := eB_17.tr (p18.b (lo := 0) (hi := q) (I := I17) (by omega))
  clear g0_17 v1_17 v2_17 v3_17 v4_17 lv0_17 lv1_17 lv2_17 lv3_17 eB_17
  have h0_18 : S18.1 (q) = some (2, 0) := by rw [p18.1]; exact h0_17
  have c1_18 : S18.1 (q + 1) = some (23, 5) := by rw [p18.1]; exact c1_17
  have a1x0_18 : S18.2.1 (q + 1) 0 = .ref (q + 2) := by rw [p18.2.2.2.1 0 (by decide)]; exact a1x0_17
  have a1x1_18 : S18.2.1 (q + 1) 1 = .ref (q + 13) := by rw [p18.2.2.2.1 1 (by decide)]; exact a1x1_17
  have a1x2_18 : S18.2.1 (q + 1) 2 = .ref (q + 24) := by rw [p18.2.2.2.1 2 (by decide)]; exact a1x2_17
  clear h0_17 c1_17 a1x0_17 a1x1_17 a1x2_17
  have z18 : S18.2.2 = q + 46 := by rw [p18.2.1]; exact z17
  clear z17
  have a1x3_18 : S18.2.1 (q + 1) 3 = .ref (q + 35) := p18.2.2.1
  refine v_iinc (n := 55) (v := 4) (al' := [.ref q, .int 4]) dX3_init_52 rfl (by decide) rfl rfl rfl ?_
  refine v_goto (tgt := 34) dX3_init_55 (by decide) ?_
  refine v_iload_n (n := 35) dX3_init_34 rfl rfl rfl ?_
  refine v_iconst (n := 36) (v := 5) dX3_init_35 c_5 rfl ?_
  refine v_icmp_ge (n := 39) (tgt := 58) dX3_init_36 (by decide) rfl (fun z => absurd z (by decide)) (fun _ => ?_)
  refine v_aload_n (n := 40) dX3_init_39 rfl rfl rfl ?_
  refine v_getR (n := 43) f_X3_11 rfl h0_18 g0_18 dX3_init_40 rfl ?_
  refine v_iload_n (n := 44) dX3_init_43 rfl rfl rfl ?_
  refine v_nO (n := 47) (ci := 8) (N := 9) (e := q + 46) z18 (by decide) rfl cl_X3_9 in_X9 ini_X9 ⟨l8 rfl, l8 rfl⟩ dX3_init_44 rfl (fun S19 I19 w19 => ?_)
  have g0_19 : S19.2.1 q 0 = .ref (q + 1) := by rw [((w19.b (lo := q) (hi := q + 1) (by omega)) (q) (by omega) (by omega)).2.1]; exact g0_18
  have v1_19 : I19 q 1 = 0 := by rw [((w19.b (lo := q) (hi := q + 1) (by omega)) (q) (by omega) (by omega)).2.2]; exact v1_18
  have v2_19 : I19 q 2 = 0 := by rw [((w19.b (lo := q) (hi := q + 1) (by omega)) (q) (by omega) (by omega)).2.2]; exact v2_18
  have v3_19 : I19 q 3 = 0 := by rw [((w19.b (lo := q) (hi := q + 1) (by omega)) (q) (by omega) (by omega)).2.2]; exact v3_18
  have v4_19 : I19 q 4 = 0 := by rw [((w19.b (lo := q) (hi := q + 1) (by omega)) (q) (by omega) (by omega)).2.2]; exact v4_18
  have lv0_19 : LayV S19 (q + 2) := lv0_18.eb (w19.b (lo := q + 2) (hi := q + 2 + 11) (by omega))
  have lv1_19 : LayV S19 (q + 13) := lv1_18.eb (w19.b (lo := q + 13) (hi := q + 13 + 11) (by omega))
  have lv2_19 : LayV S19 (q + 24) := lv2_18.eb (w19.b (lo := q + 24) (hi := q + 24 + 11) (by omega))
  have lv3_19 : LayV S19 (q + 35) := lv3_18.eb (w19.b (lo := q + 35) (hi := q + 35 + 11) (by omega))
  have h0_19 : S19.1 (q) = some (2, 0) := by rw [((w19.b (lo := q) (hi := q + 1) (by omega)) (q) (by omega) (by omega)).1]; exact h0_18
  have c1_19 : S19.1 (q + 1) = some (23, 5) := by rw [((w19.b (lo := q + 1) (hi := q + 1 + 1) (by omega)) (q + 1) (by omega) (by omega)).1]; exact c1_18
  have a1x0_19 : S19.2.1 (q + 1) 0 = .ref (q + 2) := by rw [((w19.b (lo := q + 1) (hi := q + 1 + 1) (by omega)) (q + 1) (by omega) (by omega)).2.1]; exact a1x0_18
  have a1x1_19 : S19.2.1 (q + 1) 1 = .ref (q + 13) := by rw [((w19.b (lo := q + 1) (hi := q + 1 + 1) (by omega)) (q + 1) (by omega) (by omega)).2.1]; exact a1x1_18
  have a1x2_19 : S19.2.1 (q + 1) 2 = .ref (q + 24) := by rw [((w19.b (lo := q + 1) (hi := q + 1 + 1) (by omega)) (q + 1) (by omega) (by omega)).2.1]; exact a1x2_18
  have a1x3_19 : S19.2.1 (q + 1) 3 = .ref (q + 35) := by rw [((w19.b (lo := q + 1) (hi := q + 1 + 1) (by omega)) (q + 1) (by omega) (by omega)).2.1]; exact a1x3_18
  have eB_19 : EqB 0 q S I S19 I19 := eB_18.tr (w19.b (lo := 0) (hi := q) (by omega))
  clear g0_18 v1_18 v2_18 v3_18 v4_18 lv0_18 lv1_18 lv2_18 lv3_18 h0_18 c1_18 a1x0_18 a1x1_18 a1x2_18 a1x3_18 eB_18
  refine v_dup (n := 48) dX3_init_47 rfl rfl ?_
  refine v_callIN (n := 51) (host := "SnowOwed") mc_X9_init (by decide) iv_X9_init rfl (k_X9_init (ro := ro) w19.1 w19.2.1) ⟨rfl, rfl⟩ (l8 rfl) ⟨l8 rfl, l8 rfl⟩ rfl rfl (l8 rfl) dX3_init_48 rfl ?_
  rintro _ S20 I20 ⟨rfl, lv20, iv20, zv20, ev20, fv20⟩
  have g0_20 : S20.2.1 q 0 = .ref (q + 1) := by rw [((ev20.sub (lo2 := q) (hi2 := q + 1) (by omega) (by omega)) (q) (by omega) (by omega)).2.1]; exact g0_19
  have v1_20 : I20 q 1 = 0 := by rw [((ev20.sub (lo2 := q) (hi2 := q + 1) (by omega) (by omega)) (q) (by omega) (by omega)).2.2]; exact v1_19
  have v2_20 : I20 q 2 = 0 := by rw [((ev20.sub (lo2 := q) (hi2 := q + 1) (by omega) (by omega)) (q) (by omega) (by omega)).2.2]; exact v2_19
  have v3_20 : I20 q 3 = 0 := by rw [((ev20.sub (lo2 := q) (hi2 := q + 1) (by omega) (by omega)) (q) (by omega) (by omega)).2.2]; exact v3_19
  have v4_20 : I20 q 4 = 0 := by rw [((ev20.sub (lo2 := q) (hi2 := q + 1) (by omega) (by omega)) (q) (by omega) (by omega)).2.2]; exact v4_19
  have lv0_20 : LayV S20 (q + 2) := lv0_19.eb (ev20.sub (lo2 := q + 2) (hi2 := q + 2 + 11) (by omega) (by omega))
  have lv1_20 : LayV S20 (q + 13) := lv1_19.eb (ev20.sub (lo2 := q + 13) (hi2 := q + 13 + 11) (by omega) (by omega))
  have lv2_20 : LayV S20 (q + 24) := lv2_19.eb (ev20.sub (lo2 := q + 24) (hi2 := q + 24 + 11) (by omega) (by omega))
  have lv3_20 : LayV S20 (q + 35) := lv3_19.eb (ev20.sub (lo2 := q + 35) (hi2 := q + 35 + 11) (by omega) (by omega))
  have h0_20 : S20.1 (q) = some (2, 0) := by rw [((ev20.sub (lo2 := q) (hi2 := q + 1) (by omega) (by omega)) (q) (by omega) (by omega)).1]; exact h0_19
  have c1_20 : S20.1 (q + 1) = some (23, 5) := by rw [((ev20.sub (lo2 := q + 1) (hi2 := q + 1 + 1) (by omega) (by omega)) (q + 1) (by omega) (by omega)).1]; exact c1_19
  have a1x0_20 : S20.2.1 (q + 1) 0 = .ref (q + 2) := by rw [((ev20.sub (lo2 := q + 1) (hi2 := q + 1 + 1) (by omega) (by omega)) (q + 1) (by omega) (by omega)).2.1]; exact a1x0_19
  have a1x1_20 : S20.2.1 (q + 1) 1 = .ref (q + 13) := by rw [((ev20.sub (lo2 := q + 1) (hi2 := q + 1 + 1) (by omega) (by omega)) (q + 1) (by omega) (by omega)).2.1]; exact a1x1_19
  have a1x2_20 : S20.2.1 (q + 1) 2 = .ref (q + 24) := by rw [((ev20.sub (lo2 := q + 1) (hi2 := q + 1 + 1) (by omega) (by omega)) (q + 1) (by omega) (by omega)).2.1]; exact a1x2_19
  have a1x3_20 : S20.2.1 (q + 1) 3 = .ref (q + 35) := by rw [((ev20.sub (lo2 := q + 1) (hi2 := q + 1 + 1) (by omega) (by omega)) (q + 1) (by omega) (by omega)).2.1]; exact a1x3_19
  have eB_20 : EqB 0 q S I S20 I20 := eB_19.tr (ev20.sub (lo2 := 0) (hi2 := q) (by omega) (by omega))
  clear g0_19 v1_19 v2_19 v3_19 v4_19 lv0_19 lv1_19 lv2_19 lv3_19 h0_19 c1_19 a1x0_19 a1x1_19 a1x2_19 a1x3_19 eB_19
  have z20 : S20.2.2 = q + 57 := zv20
  clear z18
  have lv4_20 : LayV S20 (q + 46) := lv20
  refine v_aO (n := 52) (t := 3) (j := 4) ⟨by decide, by decide⟩ c1_20 (ix_lit rfl rfl rfl) (lv4_20).s dX3_init_51 rfl (fun S21 p21 => ?_)
  have g0_21 : S21.2.1 q 0 = .ref (q + 1) := by rw [((p21.b (lo := q) (hi := q + 1) (I := I20) (by omega)) (q) (by omega) (by omega)).2.1]; exact g0_20
  have v1_21 : I20 q 1 = 0 := by rw [((p21.b (lo := q) (hi := q + 1) (I := I20) (by omega)) (q) (by omega) (by omega)).2.2]; exact v1_20
  have v2_21 : I20 q 2 = 0 := by rw [((p21.b (lo := q) (hi := q + 1) (I := I20) (by omega)) (q) (by omega) (by omega)).2.2]; exact v2_20
  have v3_21 : I20 q 3 = 0 := by rw [((p21.b (lo := q) (hi := q + 1) (I := I20) (by omega)) (q) (by omega) (by omega)).2.2]; exact v3_20
  have v4_21 : I20 q 4 = 0 := by rw [((p21.b (lo := q) (hi := q + 1) (I := I20) (by omega)) (q) (by omega) (by omega)).2.2]; exact v4_20
  have lv0_21 : LayV S21 (q + 2) := lv0_20.eb (p21.b (lo := q + 2) (hi := q + 2 + 11) (I := I20) (by omega))
  have lv1_21 : LayV S21 (q + 13) := lv1_20.eb (p21.b (lo := q + 13) (hi := q + 13 + 11) (I := I20) (by omega))
  have lv2_21 : LayV S21 (q + 24) := lv2_20.eb (p21.b (lo := q + 24) (hi := q + 24 + 11) (I := I20) (by omega))
  have lv3_21 : LayV S21 (q + 35) := lv3_20.eb (p21.b (lo := q + 35) (hi := q + 35 + 11) (I := I20) (by omega))
  have lv4_21 : LayV S21 (q + 46) := lv4_20.eb (p21.b (lo := q + 46) (hi := q + 46 + 11) (I := I20) (by omega))
  have eB_21 : EqB 0 q S I S21 I20 := eB_20.tr (p21.b (lo := 0) (hi := q) (I := I20) (by omega))
  clear g0_20 v1_20 v2_20 v3_20 v4_20 lv0_20 lv1_20 lv2_20 lv3_20 lv4_20 eB_20
  have h0_21 : S21.1 (q) = some (2, 0) := by rw [p21.1]; exact h0_20
  have c1_21 : S21.1 (q + 1) = some (23, 5) := by rw [p21.1]; exact c1_20
  have a1x0_21 : S21.2.1 (q + 1) 0 = .ref (q + 2) := by rw [p21.2.2.2.1 0 (by decide)]; exact a1x0_20
  have a1x1_21 : S21.2.1 (q + 1) 1 = .ref (q + 13) := by rw [p21.2.2.2.1 1 (by decide)]; exact a1x1_20
  have a1x2_21 : S21.2.1 (q + 1) 2 = .ref (q + 24) := by rw [p21.2.2.2.1 2 (by decide)]; exact a1x2_20
  have a1x3_21 : S21.2.1 (q + 1) 3 = .ref (q + 35) := by rw [p21.2.2.2.1 3 (by decide)]; exact a1x3_20
  clear h0_20 c1_20 a1x0_20 a1x1_20 a1x2_20 a1x3_20
  have z21 : S21.2.2 = q + 57 := by rw [p21.2.1]; exact z20
  clear z20
  have a1x4_21 : S21.2.1 (q + 1) 4 = .ref (q + 46) := p21.2.2.1
  refine v_iinc (n := 55) (v := 5) (al' := [.ref q, .int 5]) dX3_init_52 rfl (by decide) rfl rfl rfl ?_
  refine v_goto (tgt := 34) dX3_init_55 (by decide) ?_
  refine v_iload_n (n := 35) dX3_init_34 rfl rfl rfl ?_
  refine v_iconst (n := 36) (v := 5) dX3_init_35 c_5 rfl ?_
  refine v_icmp_ge (n := 39) (tgt := 58) dX3_init_36 (by decide) rfl (fun _ => ?_) (fun z => absurd (by decide) z)
  have hLP : LayP S21 q := by
    refine ⟨h0_21, g0_21, c1_21, fun i hi => ?_⟩
    rcases (show i = 0 ∨ i = 1 ∨ i = 2 ∨ i = 3 ∨ i = 4 by omega) with rfl | rfl | rfl | rfl | rfl
    · exact ⟨a1x0_21, lv0_21⟩
    · exact ⟨a1x1_21, lv1_21⟩
    · exact ⟨a1x2_21, lv2_21⟩
    · exact ⟨a1x3_21, lv3_21⟩
    · exact ⟨a1x4_21, lv4_21⟩
  exact v_vret rfl ⟨rfl, hLP, z21, eB_21, fun hf => (p21.f (fv20 (w19.2.2.2.2.2 (p18.f (fv17 (w16.2.2.2.2.2 (p15.f (fv14 (w13.2.2.2.2.2 (p12.f (fv11 (w10.2.2.2.2.2 (p9.f (fv8 (w7.2.2.2.2.2 (p2.f (w1.2.2.2.2.2 hf)))))))))))))))))⟩ ⟨l8 rfl, l8 rfl⟩ dX3_init_58

theorem LayP.eb {S S' : St} {I I' : In} {q : Nat} (h : LayP S q) (e : EqB q (q + 57) S I S' I') : LayP S' q := by
  obtain ⟨h1, h2, h3, h4⟩ := h
  refine ⟨by rw [(e q (by omega) (by omega)).1]; exact h1, by rw [(e q (by omega) (by omega)).2.1]; exact h2, by rw [(e (q + 1) (by omega) (by omega)).1]; exact h3, fun i hi => ?_⟩
  rw [(e (q + 1) (by omega) (by omega)).2.1]
  exact ⟨(h4 i hi).1, (h4 i hi).2.eb (e.sub (by omega) (by omega))⟩
