/-! ===== the calls of the class: pack, days, deal, most, fine ===== -/
theorem vn_pack {S : St} {I J : In} {v B T b k l' : Nat} {X : Ar} {lw : Nat → Nat} {a : Int32} (h : VN S I v B X T lw) (hW : WN X T b) (hvB : v + 11 ≤ B) (hk : 1 ≤ k) (hl : l' ≤ 30) (h7 : packX X (ln X) a (nI k) 7 = nI l') (hb : BlR J (v + 6) (packX X (ln X) a (nI k)) l') (hE : Eqx (blk (v + 6) 3) I J) : VN S J v B (packX X (ln X) a (nI k)) T lw := by
  obtain ⟨l2, -, -, -, q⟩ := pack_spec (y := a) hW.2.2.2.1 hW.2.2.1 hW.2.2.2.2.2.1 hk
  have e1 : yn (packX X (ln X) a (nI k)) = yn X := by unfold yn; rw [q 1 (by decide) (by decide)]
  unfold VN
  rw [e1, ln_eq h7 hl, q 5 (by decide) (by decide)]
  refine VR.mk2 h (hE.mono (fun z hz => Or.inl (by unfold blk at *; omega))) hvB hW.2.2.2.2.1.2.1 (fun j h1 h2 => q j (by omega) (by omega)) ((h.1.eqx hE (fun z hz => by unfold blk at hz; omega)).cong (fun j _ _ => q j (by omega) (by omega))) hb ((h.2.2.1.eqx hE (by unfold blk; omega)).cg (q 0 (by decide) (by decide)) (q 2 (by decide) (by decide)) (q 3 (by decide) (by decide)) (q 4 (by decide) (by decide)) (q 9 (by decide) (by decide)))
theorem inn_of {v : Int32} {a b : Int32} (h1 : ¬ v < a) (h2 : v ≤ b) : inn v a b = true := by unfold inn; simp [h1, Int32.not_lt.mpr h2]
theorem inn_no1 {v : Int32} {a b : Int32} (h1 : v < a) : inn v a b = false := by unfold inn; simp [h1]
theorem inn_no2 {v : Int32} {a b : Int32} (h1 : ¬ v ≤ b) : inn v a b = false := by unfold inn; simp [Int32.not_le.mp h1]

set_option maxRecDepth 100000 in
set_option maxHeartbeats 1000000 in
theorem c_X10_pack {ro : Ro} {S : St} {I : In} {xa xb : Int32} {x B T b : Nat} {X : Ar} {lw : Nat → Nat} (L : LayX S x) (h : VN S I (x + 1) B X T lw) (hW : WN X T b) (hB : x + 134 ≤ B) : Ok mX10_pack ro 1 0 0 [.ref x, .int xa, .int xb] S I (QX S I x B T lw (packS X (ln X) xa xb)) := by
  refine ok_of (al := [.ref x, .int xa, .int xb]) (by decide) (l8 rfl) rfl ?_
  refine v_aload_n (n := 1) dX10_pack_0 rfl rfl rfl ?_
  refine v_getR (n := 4) f_X10_10 rfl L.s L.g0 dX10_pack_1 rfl ?_
  refine v_getR (n := 7) f_X10_85 rfl L.c0.s L.c0.g0 dX10_pack_4 rfl ?_
  refine v_iload_n (n := 8) dX10_pack_7 rfl rfl rfl ?_
  refine v_cVi (n := 11) (x := (bi (yd X xa))) mc_X5_has l_X10_99 iv_X5_has se_X5_has (ci := 4) ⟨by decide, rfl⟩ L.c0.c0.s (k_yd L.c0.c0 h.1 hW.1 hW.2.1) ⟨rfl, rfl⟩ (l8 rfl) ⟨l8 rfl, l8 rfl⟩ rfl rfl (l8 rfl) dX10_pack_8 rfl ?_
  refine v_if_eq (n := 14) (tgt := 26) dX10_pack_11 (by decide) rfl (fun hq11 => ?_) (fun hq11 => ?_)
  · refine v_ldc (n := 28) k_X10_84 dX10_pack_26 rfl ?_
    exact v_qx rfl (by rw [packS, if_neg (by rw [bi_0.mp hq11, Bool.false_and]; decide)]) h Eqx.rf ⟨l8 rfl, l8 rfl⟩ dX10_pack_28
  · refine v_iload_n (n := 15) dX10_pack_14 rfl rfl rfl ?_
    refine v_iconst (n := 16) (v := 1) dX10_pack_15 c_1 rfl ?_
    refine v_icmp_lt (n := 19) (tgt := 26) dX10_pack_16 (by decide) rfl (fun hq16 => ?_) (fun hq16 => ?_)
    · refine v_ldc (n := 28) k_X10_84 dX10_pack_26 rfl ?_
      exact v_qx rfl (by rw [packS, if_neg (by rw [inn_no1 hq16, Bool.and_false]; decide)]) h Eqx.rf ⟨l8 rfl, l8 rfl⟩ dX10_pack_28
    · refine v_iload_n (n := 20) dX10_pack_19 rfl rfl rfl ?_
      refine v_sipush (n := 23) (v := 999) dX10_pack_20 s_999 rfl ?_
      refine v_icmp_le (n := 26) (tgt := 29) dX10_pack_23 (by decide) rfl (fun hq23 => ?_) (fun hq23 => ?_)
      · have hib := inn_of hq16 hq23
        obtain ⟨k, hk1, hk9, rfl⟩ := inn_get1 (a := 999) (c := 1) hib (by decide) (by decide)
        have hk0 : 0 < nI k := nI_lt (a := 0) (by omega) (by omega)
        refine v_aload_n (n := 30) dX10_pack_29 rfl rfl rfl ?_
        refine v_getR (n := 33) f_X10_10 rfl L.s L.g0 dX10_pack_30 rfl ?_
        refine v_getR (n := 36) f_X10_126 rfl L.c0.s L.c0.g1 dX10_pack_33 rfl ?_
        refine v_iload_n (n := 37) dX10_pack_36 rfl rfl rfl ?_
        refine v_iload_n (n := 38) dX10_pack_37 rfl rfl rfl ?_
        refine v_callV (n := 41) mc_X0_grow l_X10_182 iv_X0_grow se_X0_grow (ci := 0) ⟨by decide, rfl⟩ L.c0.c1.s (k_X0_grow (k := k) L.c0.c1 h.2.1 hW.2.2.1 hW.2.2.2.1) ⟨rfl, rfl⟩ (l8 rfl) ⟨l8 rfl, l8 rfl⟩ rfl rfl (l8 rfl) dX10_pack_38 rfl ?_
        rintro _ _ J ⟨rfl, hS9, l9, hl9, h79, hb9, hE9⟩
        replace hS9 := hS9.symm
        subst hS9
        rw [if_pos hk0] at h79 hb9
        refine v_aload_n (n := 42) dX10_pack_41 rfl rfl rfl ?_
        refine v_getR (n := 45) f_X10_10 rfl L.s L.g0 dX10_pack_42 rfl ?_
        refine v_getR (n := 48) f_X10_126 rfl L.c0.s L.c0.g1 dX10_pack_45 rfl ?_
        refine v_getI (n := 51) f_X10_163 rfl L.c0.c1.s dX10_pack_48 rfl ?_
        rw [hb9.1.2.1]
        exact v_qx rfl (by rw [packS, if_pos (by rw [bi_n0.mp hq11, hib]; rfl), ln_eq h79 hl9]) (vn_pack h hW (by omega) hk1 hl9 h79 hb9 hE9) (hE9.mono (fun z hz => Or.inl (by unfold blk at *; omega))) ⟨l8 rfl, l8 rfl⟩ dX10_pack_51
      · refine v_ldc (n := 28) k_X10_84 dX10_pack_26 rfl ?_
        exact v_qx rfl (by rw [packS, if_neg (by rw [inn_no2 hq23, Bool.and_false]; decide)]) h Eqx.rf ⟨l8 rfl, l8 rfl⟩ dX10_pack_28

set_option maxRecDepth 100000 in
set_option maxHeartbeats 1000000 in
theorem c_X10_fine {ro : Ro} {S : St} {I : In} {xa : Int32} {x B T b : Nat} {X : Ar} {lw : Nat → Nat} (L : LayX S x) (h : VN S I (x + 1) B X T lw) (hW : WN X T b) (hB : x + 134 ≤ B) : Ok mX10_fine ro 3 0 0 [.ref x, .int xa] S I (QX S I x B T lw (fineS X T (ln X) xa, X)) := by
  refine ok_of (al := [.ref x, .int xa]) (by decide) (l8 rfl) rfl ?_
  refine v_aload_n (n := 1) dX10_fine_0 rfl rfl rfl ?_
  refine v_getR (n := 4) f_X10_10 rfl L.s L.g0 dX10_fine_1 rfl ?_
  refine v_getR (n := 7) f_X10_85 rfl L.c0.s L.c0.g0 dX10_fine_4 rfl ?_
  refine v_iload_n (n := 8) dX10_fine_7 rfl rfl rfl ?_
  refine v_cVi (n := 11) (x := (bi (yd X xa))) mc_X5_has l_X10_99 iv_X5_has se_X5_has (ci := 4) ⟨by decide, rfl⟩ L.c0.c0.s (k_yd L.c0.c0 h.1 hW.1 hW.2.1) ⟨rfl, rfl⟩ (l8 rfl) ⟨l8 rfl, l8 rfl⟩ rfl rfl (l8 rfl) dX10_fine_8 rfl ?_
  refine v_if_eq (n := 14) (tgt := 25) dX10_fine_11 (by decide) rfl (fun hq11 => ?_) (fun hq11 => ?_)
  · refine v_ldc (n := 27) k_X10_84 dX10_fine_25 rfl ?_
    exact v_qx rfl (by clear h hW; simp_all [bi_0, bi_n0, fineS]) h Eqx.rf ⟨l8 rfl, l8 rfl⟩ dX10_fine_27
  · obtain ⟨y, hy, rfl⟩ := yd_get (bi_n0.mp hq11) hW.1 hW.2.1
    have hy10 : y < 10 := by have := hW.2.1; omega
    have hcy : (nI y).toNatClampNeg = y := nI_clamp (by omega)
    have ey := h.1.2 y hy
    refine v_aload_n (n := 15) dX10_fine_14 rfl rfl rfl ?_
    refine v_getR (n := 18) f_X10_10 rfl L.s L.g0 dX10_fine_15 rfl ?_
    refine v_iload_n (n := 19) dX10_fine_18 rfl rfl rfl ?_
    refine v_callV (n := 22) mc_X9_fineOf l_X10_231 iv_X9_fineOf se_X9_fineOf (ci := 8) ⟨by decide, rfl⟩ L.c0.s (k_X9_fineOf L.c0 h hW.2.2.2.2.1.2.1 hy hW.2.1) ⟨rfl, rfl⟩ (l8 rfl) ⟨l8 rfl, l8 rfl⟩ rfl rfl (l8 rfl) dX10_fine_19 rfl ?_
    rintro _ _ J ⟨rfl, hS9, hE9⟩
    replace hS9 := hS9.symm
    subst hS9
    refine v_goto (tgt := 27) dX10_fine_22 (by decide) ?_
    exact v_qx rfl (by rw [fineS, if_pos (bi_n0.mp hq11), hcy]) (h.sk (by omega) hE9) (stk_v hE9) ⟨l8 rfl, l8 rfl⟩ dX10_fine_27

set_option maxRecDepth 100000 in
set_option maxHeartbeats 1000000 in
theorem l_X10_most {ro : Ro} {S : St} {I : In} {x B T b : Nat} {X : Ar} {lw : Nat → Nat} (L : LayX S x) (h : VN S I (x + 1) B X T lw) (hW : WN X T b) (hB : x + 134 ≤ B) (h0 : ¬ X 7 = 0) : ∀ k i, i ≤ yn X - 1 → yn X < i + k → V RX10 cX10_most 3 (some .int) "most" ro (rmD 1 0 0) (QM 0 0 (QX S I x B T lw (mostS X (yn X) (ln X), X))) 0 0 20 [.ref x, .int (mstF X (ln X) i), .int (nI (i + 1))] [] S I := by
  have hn10 := hW.2.1
  intro k
  induction k with
  | zero => intro i hi hk; exact absurd hk (by omega)
  | succ k ih =>
    intro i hi hk
    refine v_iload_n (n := 21) dX10_most_20 rfl rfl rfl ?_
    refine v_aload_n (n := 22) dX10_most_21 rfl rfl rfl ?_
    refine v_getR (n := 25) f_X10_10 rfl L.s L.g0 dX10_most_22 rfl ?_
    refine v_getR (n := 28) f_X10_85 rfl L.c0.s L.c0.g0 dX10_most_25 rfl ?_
    refine v_getI (n := 31) f_X10_89 rfl L.c0.c0.s dX10_most_28 rfl ?_
    rw [h.1.1]
    refine v_icmp_ge (n := 34) (tgt := 67) dX10_most_31 (by decide) rfl (fun hq31 => ?_) (fun hq31 => ?_)
    · obtain rfl : i = yn X - 1 := by
        have := le_out hq31 (by omega) (by omega)
        omega
      refine v_iload_n (n := 68) dX10_most_67 rfl rfl rfl ?_
      exact v_qx rfl (by rw [mostS, if_neg h0]) h Eqx.rf ⟨l8 rfl, l8 rfl⟩ dX10_most_68
    · have hlt := nle_in hq31 (by omega) (by omega)
      refine v_aload_n (n := 35) dX10_most_34 rfl rfl rfl ?_
      refine v_getR (n := 38) f_X10_10 rfl L.s L.g0 dX10_most_35 rfl ?_
      refine v_getR (n := 41) f_X10_126 rfl L.c0.s L.c0.g1 dX10_most_38 rfl ?_
      refine v_iload_n (n := 42) dX10_most_41 rfl rfl rfl ?_
      refine v_cVi (n := 45) (x := (smY (I (x + 1 + 6 + 1)) (I (x + 1 + 6 + 2)) (nI (i + 1)) (ln X))) mc_X0_led l_X10_130 iv_X0_led se_X0_led (ci := 0) ⟨by decide, rfl⟩ L.c0.c1.s (k_X0_led L.c0.c1 h.2.1.1.1 hW.2.2.2.1) ⟨rfl, rfl⟩ (l8 rfl) ⟨l8 rfl, l8 rfl⟩ rfl rfl (l8 rfl) dX10_most_42 rfl ?_
      rw [led_eq h.2.1]
      refine v_aload_n (n := 46) dX10_most_45 rfl rfl rfl ?_
      refine v_getR (n := 49) f_X10_10 rfl L.s L.g0 dX10_most_46 rfl ?_
      refine v_getR (n := 52) f_X10_126 rfl L.c0.s L.c0.g1 dX10_most_49 rfl ?_
      refine v_iload_n (n := 53) dX10_most_52 rfl rfl rfl ?_
      refine v_cVi (n := 56) (x := (smY (I (x + 1 + 6 + 1)) (I (x + 1 + 6 + 2)) (mstF X (ln X) i) (ln X))) mc_X0_led l_X10_130 iv_X0_led se_X0_led (ci := 0) ⟨by decide, rfl⟩ L.c0.c1.s (k_X0_led L.c0.c1 h.2.1.1.1 hW.2.2.2.1) ⟨rfl, rfl⟩ (l8 rfl) ⟨l8 rfl, l8 rfl⟩ rfl rfl (l8 rfl) dX10_most_53 rfl ?_
      rw [led_eq h.2.1]
      refine v_icmp_le (n := 59) (tgt := 61) dX10_most_56 (by decide) rfl (fun hq56 => ?_) (fun hq56 => ?_)
      · refine v_iinc (n := 64) (v := (nI (i + 1)) + 1) (al' := [.ref x, .int (mstF X (ln X) i), .int ((nI (i + 1)) + 1)]) dX10_most_61 rfl (by rw [c_1]) rfl rfl rfl ?_
        refine v_goto (tgt := 20) dX10_most_64 (by decide) ?_
        rw [nI_1]
        rw [show (mstF X (ln X) i) = mstF X (ln X) (i + 1) from (if_pos hq56).symm]
        exact ih (i + 1) (by omega) (by omega)
      · refine v_iload_n (n := 60) dX10_most_59 rfl rfl rfl ?_
        refine v_istore_n (n := 61) (al' := [.ref x, .int (nI (i + 1)), .int (nI (i + 1))]) dX10_most_60 rfl rfl rfl rfl ?_
        refine v_iinc (n := 64) (v := (nI (i + 1)) + 1) (al' := [.ref x, .int (nI (i + 1)), .int ((nI (i + 1)) + 1)]) dX10_most_61 rfl (by rw [c_1]) rfl rfl rfl ?_
        refine v_goto (tgt := 20) dX10_most_64 (by decide) ?_
        rw [nI_1]
        rw [show (nI (i + 1)) = mstF X (ln X) (i + 1) from (if_neg hq56).symm]
        exact ih (i + 1) (by omega) (by omega)

set_option maxRecDepth 100000 in
set_option maxHeartbeats 1000000 in
theorem c_X10_most {ro : Ro} {S : St} {I : In} {x B T b : Nat} {X : Ar} {lw : Nat → Nat} (L : LayX S x) (h : VN S I (x + 1) B X T lw) (hW : WN X T b) (hB : x + 134 ≤ B) : Ok mX10_most ro 1 0 0 [.ref x] S I (QX S I x B T lw (mostS X (yn X) (ln X), X)) := by
  refine ok_of (al := [.ref x, JJ, JJ]) (by decide) (l8 rfl) rfl ?_
  refine v_aload_n (n := 1) dX10_most_0 rfl rfl rfl ?_
  refine v_getR (n := 4) f_X10_10 rfl L.s L.g0 dX10_most_1 rfl ?_
  refine v_getR (n := 7) f_X10_126 rfl L.c0.s L.c0.g1 dX10_most_4 rfl ?_
  refine v_getI (n := 10) f_X10_170 rfl L.c0.c1.s dX10_most_7 rfl ?_
  rw [h.2.1.1.1, ← hW.2.2.1]
  refine v_if_ne (n := 13) (tgt := 16) dX10_most_10 (by decide) rfl (fun hq10 => ?_) (fun hq10 => ?_)
  · refine v_iconst (n := 17) (v := 0) dX10_most_16 c_0 rfl ?_
    refine v_istore_n (n := 18) (al' := [.ref x, .int 0, JJ]) dX10_most_17 rfl rfl rfl rfl ?_
    refine v_iconst (n := 19) (v := 1) dX10_most_18 c_1 rfl ?_
    refine v_istore_n (n := 20) (al' := [.ref x, .int 0, .int 1]) dX10_most_19 rfl rfl rfl rfl ?_
    exact l_X10_most L h hW hB hq10 (yn X + 1) 0 (Nat.zero_le _) (by omega)
  · refine v_ldc (n := 15) k_X10_193 dX10_most_13 rfl ?_
    exact v_qx rfl (by rw [mostS, if_pos hq10]) h Eqx.rf ⟨l8 rfl, l8 rfl⟩ dX10_most_15

theorem day_sub {d : Nat} (hd : d ≤ 9999) : 9999 - nI d = nI (9999 - d) := pk_sub (a := 9999) hd
def dayOk (X : Ar) : Prop := ∃ d, d ≤ 9999 ∧ X 2 = nI d
theorem VR.it {S : St} {J : In} {v B T b K : Nat} {X : Ar} {lw : Nat → Nat} (hW : WN X T b) (hb : b + 999 * K < 2 ^ 30) (h : VR S J v B (itX X T (yn X) K) (X 5) T (yn X) (ln (itX X T (yn X) K)) lw) : VN S J v B (itX X T (yn X) K) T lw := by
  have q := (it_WX hW K hb).2
  unfold VN
  rw [show yn (itX X T (yn X) K) = yn X from congrArg Int32.toNatClampNeg (q 1 (by decide) (by decide) (by decide) (by decide) (by decide) (by decide)), q 5 (by decide) (by decide) (by decide) (by decide) (by decide) (by decide)]
  exact h
set_option maxRecDepth 100000 in
set_option maxHeartbeats 1000000 in
theorem c_X10_days {ro : Ro} {S : St} {I : In} {xa : Int32} {x B T b : Nat} {X : Ar} {lw : Nat → Nat} (L : LayX S x) (h : VN S I (x + 1) B X T lw) (hW : WN X T b) (hB : x + 134 ≤ B) (hm : mvOk X) (hdy : dayOk X) (hb : b < 900000000) : Ok mX10_days ro 6 0 0 [.ref x, .int xa] S I (QX S I x B T lw (daysS X T (yn X) xa)) := by
  refine ok_of (al := [.ref x, .int xa]) (by decide) (l8 rfl) rfl ?_
  refine v_iload_n (n := 1) dX10_days_0 rfl rfl rfl ?_
  refine v_iconst (n := 2) (v := 1) dX10_days_1 c_1 rfl ?_
  refine v_icmp_lt (n := 5) (tgt := 11) dX10_days_2 (by decide) rfl (fun hq2 => ?_) (fun hq2 => ?_)
  · refine v_ldc (n := 13) k_X10_84 dX10_days_11 rfl ?_
    exact v_qx rfl (by rw [daysS, if_neg (by rw [inn_no1 hq2]; decide)]) h Eqx.rf ⟨l8 rfl, l8 rfl⟩ dX10_days_13
  · refine v_iload_n (n := 6) dX10_days_5 rfl rfl rfl ?_
    refine v_bipush (n := 8) (v := 100) dX10_days_6 b_100 rfl ?_
    refine v_icmp_le (n := 11) (tgt := 14) dX10_days_8 (by decide) rfl (fun hq8 => ?_) (fun hq8 => ?_)
    · have hib := inn_of hq2 hq8
      obtain ⟨a, ha1, ha9, rfl⟩ := inn_get1 (a := 100) (c := 1) hib (by decide) (by decide)
      obtain ⟨d, hd9, ed⟩ := hdy
      have hwn : (win (9999 - X 2) 0 (nI a)).toNatClampNeg = min a (9999 - d) := by rw [ed, day_sub hd9, win_min (by omega) (by omega), nI_clamp (by omega), Nat.min_comm]
      refine v_aload_n (n := 15) dX10_days_14 rfl rfl rfl ?_
      refine v_getR (n := 18) f_X10_10 rfl L.s L.g0 dX10_days_15 rfl ?_
      refine v_iload_n (n := 19) dX10_days_18 rfl rfl rfl ?_
      refine v_sipush (n := 22) (v := 9999) dX10_days_19 s_9999 rfl ?_
      refine v_aload_n (n := 23) dX10_days_22 rfl rfl rfl ?_
      refine v_getR (n := 26) f_X10_10 rfl L.s L.g0 dX10_days_23 rfl ?_
      refine v_getI (n := 29) f_X10_116 rfl L.c0.s dX10_days_26 rfl ?_
      refine v_isub (n := 30) dX10_days_29 rfl ?_
      refine v_min (n := 33) l_X10_140 min_sta ini_J9 min_code ⟨rfl, rfl⟩ ⟨l8 rfl, l8 rfl⟩ (l8 rfl) dX10_days_30 rfl ?_
      rw [h.2.2.1.2.1, ed, day_sub hd9, mn_nI (by omega) (by omega)]
      refine v_callV (n := 36) mc_X9_passDays l_X10_194 iv_X9_passDays se_X9_passDays (ci := 8) ⟨by decide, rfl⟩ L.c0.s (k_X9_passDays (K := min a (9999 - d)) L.c0 h hW (by omega) (by omega) hm rfl (by omega)) ⟨rfl, rfl⟩ (l8 rfl) ⟨l8 rfl, l8 rfl⟩ rfl rfl (l8 rfl) dX10_days_33 rfl ?_
      rintro _ _ J ⟨rfl, hS9, hv9, hE9⟩
      replace hS9 := hS9.symm
      subst hS9
      exact v_qx rfl (by rw [daysS, if_pos hib, hwn]) (VR.it hW (by omega) hv9) hE9 ⟨l8 rfl, l8 rfl⟩ dX10_days_36
    · refine v_ldc (n := 13) k_X10_84 dX10_days_11 rfl ?_
      exact v_qx rfl (by rw [daysS, if_neg (by rw [inn_no2 hq8]; decide)]) h Eqx.rf ⟨l8 rfl, l8 rfl⟩ dX10_days_13

theorem deal_wn {X : Ar} {T b : Nat} (h : WN X T b) (hn : yn X < 10) : WN (dealOne X) T b ∧ yn (dealOne X) = yn X + 1 := by
  have hy : (upd X 0 (drawZ (drawZ (drawZ (X 0)))) 1).toNatClampNeg = yn X := by rw [pk_un (by decide)]; rfl
  have q : ∀ j, j ≠ 0 → j ≠ 1 → (j < 76 + 4 * yn X ∨ 76 + 4 * yn X + 4 ≤ j) → dealOne X j = X j := by
    intro j h0 h1 h2
    unfold dealOne comesX
    rw [hy, pk_un h1, pk_un (by omega), pk_un (by omega), pk_un (by omega), pk_un (by omega), pk_un h0]
  have e1 : dealOne X 1 = nI (yn X + 1) := by unfold dealOne comesX; rw [hy, pk_us]
  have ek : dealOne X (76 + 4 * yn X) = ushr (drawZ (X 0)) 8 % 6 := by unfold dealOne comesX; rw [hy, pk_un (by omega), pk_un (by omega), pk_un (by omega), pk_un (by omega), pk_us]
  have es : dealOne X (76 + 4 * yn X + 1) = ushr (drawZ (drawZ (X 0))) 8 % 200 := by unfold dealOne comesX; rw [hy, pk_un (by omega), pk_un (by omega), pk_un (by omega), pk_us]
  have e7 : ln (dealOne X) = ln X := by unfold ln; rw [q 7 (by decide) (by decide) (by omega)]
  have ey : yn (dealOne X) = yn X + 1 := yn_eq e1 (by omega)
  refine ⟨?_, ey⟩
  unfold WN
  rw [ey, e7]
  obtain ⟨a1, a2, a3, a4, a5, a6, ⟨p, a7, a8⟩, a9, a10, a11⟩ := h
  refine ⟨e1, by omega, by rw [q 7 (by decide) (by decide) (by omega)]; exact a3, a4, a5.cong (q 9 (by decide) (by decide) (by omega)) (fun j hj => q j (by omega) (by omega) (by omega)), a6.cong (fun i hi => q _ (by omega) (by omega) (by omega)), ⟨p, by rw [q 6 (by decide) (by decide) (by omega)]; exact a7, by omega⟩, by rw [q 3 (by decide) (by decide) (by omega)]; exact a9, by rw [q 4 (by decide) (by decide) (by omega)]; exact a10, fun y hy2 => ?_⟩
  by_cases c : y = yn X
  · subst c
    obtain ⟨u, hu, eu⟩ := ushr8 (drawZ (X 0))
    obtain ⟨w, hw, ew⟩ := ushr8 (drawZ (drawZ (X 0)))
    rw [ek, es, eu, ew, lit_nI 6, lit_nI 200, rem_nI (by omega) (by decide) (by decide), rem_nI (by omega) (by decide) (by decide)]
    exact ⟨⟨_, Nat.mod_lt _ (by decide), rfl⟩, ⟨_, by have := Nat.mod_lt w (show 0 < 200 by decide); omega, rfl⟩⟩
  · rw [q _ (by omega) (by omega) (by omega), q _ (by omega) (by omega) (by omega)]
    exact a11 y (by omega)
theorem dl_wn {X : Ar} {T b : Nat} (h : WN X T b) : ∀ i, yn X + i ≤ 10 → WN (dlX X i) T b ∧ yn (dlX X i) = yn X + i
  | 0, _ => ⟨h, rfl⟩
  | i + 1, hi => by
    obtain ⟨h1, h2⟩ := dl_wn h i (by omega)
    obtain ⟨g1, g2⟩ := deal_wn h1 (by omega)
    exact ⟨g1, by rw [dlX, g2, h2]; omega⟩
theorem vn_draw {S : St} {I : In} {v B T : Nat} {X : Ar} {lw : Nat → Nat} (h : VN S I v B X T lw) (hvB : v + 11 ≤ B) (hT : T ≤ 14) (hn : yn X ≤ 10) (hl : ln X ≤ 30) : VN S (setI I v 8 (drawZ (I v 8))) v B (upd X 0 (drawZ (X 0))) T lw := by
  rw [h.2.2.1.2.2.2.2.2]; exact vn_fld (k := 8) (u := 0) h hvB hT hn hl (by decide)
set_option maxRecDepth 100000 in
set_option maxHeartbeats 1000000 in
theorem l_X10_deal {ro : Ro} {S : St} {I : In} {F : Int32 × Ar} {x B T b : Nat} {X : Ar} {lw : Nat → Nat} (L : LayX S x) (h : VN S I (x + 1) B X T lw) (hW : WN X T b) (hB : x + 134 ≤ B) {a K : Nat} (hK : yn X + K ≤ 10) (hF : F = (nI K, dlX X K)) : ∀ k i, i ≤ K → K < i + k → ∀ J, VN S J (x + 1) B (dlX X i) T lw → Eqx (vfr (x + 1) B) I J → V RX10 cX10_deal 7 (some .int) "deal" ro (rmD 1 0 0) (QM 0 0 (QX S I x B T lw (F))) 0 0 34 [.ref x, .int (nI a), .int (nI K), .int (nI i), JJ, JJ, JJ] [] S J := by
  intro k
  induction k with
  | zero => intro i hi hk; exact absurd hk (by omega)
  | succ k ih =>
    intro i hi hk J hJ hE
    refine v_iload_n (n := 35) dX10_deal_34 rfl rfl rfl ?_
    refine v_iload_n (n := 36) dX10_deal_35 rfl rfl rfl ?_
    refine v_icmp_ge (n := 39) (tgt := 98) dX10_deal_36 (by decide) rfl (fun hq36 => ?_) (fun hq36 => ?_)
    · obtain rfl : i = K := Nat.le_antisymm hi (le_out hq36 (by omega) (by omega))
      refine v_iload_n (n := 99) dX10_deal_98 rfl rfl rfl ?_
      exact v_qx rfl hF hJ hE ⟨l8 rfl, l8 rfl⟩ dX10_deal_99
    · have hlt := nle_in hq36 (by omega) (by omega)
      obtain ⟨hWi, hyi⟩ := dl_wn hW i (by omega)
      have hl30 := hWi.2.2.2.1
      have hyn9 : (dlX X i 1).toNatClampNeg ≤ 10 := by have e9 : (dlX X i 1).toNatClampNeg = yn X + i := hyi; omega
      refine v_aload_n (n := 40) dX10_deal_39 rfl rfl rfl ?_
      refine v_getR (n := 43) f_X10_10 rfl L.s L.g0 dX10_deal_40 rfl ?_
      refine v_bipush (n := 45) (v := 6) dX10_deal_43 b_6 rfl ?_
      refine v_callV (n := 48) mc_X9_drawnRest l_X10_145 iv_X9_drawnRest se_X9_drawnRest (ci := 8) ⟨by decide, rfl⟩ L.c0.s (k_X9_drawnRest L.c0 (x := 6) (by decide)) ⟨rfl, rfl⟩ (l8 rfl) ⟨l8 rfl, l8 rfl⟩ rfl rfl (l8 rfl) dX10_deal_45 rfl ?_
      rintro _ _ J1 ⟨rfl, hS9, hJJ1⟩
      replace hS9 := hS9.symm
      subst hS9
      have hJ1 : VN S J1 (x + 1) B (upd (dlX X i) 0 (drawZ (dlX X i 0))) T lw := by rw [hJJ1]; exact vn_draw hJ (by omega) hW.2.2.2.2.1.2.1 (by omega) hl30
      have hEJ1 : Eqx (vfr (x + 1) B) I J1 := by rw [hJJ1]; exact hE.set (Or.inl (by unfold blk; omega))
      rw [hJ.2.2.1.2.2.2.2.2]
      refine v_istore (n := 50) (al' := [.ref x, .int (nI a), .int (nI K), .int (nI i), .int (ushr (drawZ (dlX X i 0)) 8 % 6), JJ, JJ]) dX10_deal_48 rfl rfl rfl ?_
      refine v_aload_n (n := 51) dX10_deal_50 rfl rfl rfl ?_
      refine v_getR (n := 54) f_X10_10 rfl L.s L.g0 dX10_deal_51 rfl ?_
      refine v_sipush (n := 57) (v := 200) dX10_deal_54 s_200 rfl ?_
      refine v_callV (n := 60) mc_X9_drawnRest l_X10_145 iv_X9_drawnRest se_X9_drawnRest (ci := 8) ⟨by decide, rfl⟩ L.c0.s (k_X9_drawnRest L.c0 (x := 200) (by decide)) ⟨rfl, rfl⟩ (l8 rfl) ⟨l8 rfl, l8 rfl⟩ rfl rfl (l8 rfl) dX10_deal_57 rfl ?_
      rintro _ _ J2 ⟨rfl, hS9, hJJ2⟩
      replace hS9 := hS9.symm
      subst hS9
      have hJ2 : VN S J2 (x + 1) B (upd (dlX X i) 0 (drawZ (drawZ (dlX X i 0)))) T lw := by rw [hJJ2]; have q := vn_draw hJ1 (by omega) hW.2.2.2.2.1.2.1 (by unfold yn; rw [pk_un (by decide)]; exact hyn9) (by unfold ln; rw [pk_un (by decide)]; exact hl30); rw [pk_us, upd_r] at q; exact q
      have hEJ2 : Eqx (vfr (x + 1) B) I J2 := by rw [hJJ2]; exact hEJ1.set (Or.inl (by unfold blk; omega))
      rw [hJ1.2.2.1.2.2.2.2.2, pk_us]
      refine v_istore (n := 62) (al' := [.ref x, .int (nI a), .int (nI K), .int (nI i), .int (ushr (drawZ (dlX X i 0)) 8 % 6), .int (ushr (drawZ (drawZ (dlX X i 0))) 8 % 200), JJ]) dX10_deal_60 rfl rfl rfl ?_
      refine v_iconst (n := 63) (v := 1) dX10_deal_62 c_1 rfl ?_
      refine v_aload_n (n := 64) dX10_deal_63 rfl rfl rfl ?_
      refine v_getR (n := 67) f_X10_10 rfl L.s L.g0 dX10_deal_64 rfl ?_
      refine v_bipush (n := 69) (v := 100) dX10_deal_67 b_100 rfl ?_
      refine v_callV (n := 72) mc_X9_drawnRest l_X10_145 iv_X9_drawnRest se_X9_drawnRest (ci := 8) ⟨by decide, rfl⟩ L.c0.s (k_X9_drawnRest L.c0 (x := 100) (by decide)) ⟨rfl, rfl⟩ (l8 rfl) ⟨l8 rfl, l8 rfl⟩ rfl rfl (l8 rfl) dX10_deal_69 rfl ?_
      rintro _ _ J3 ⟨rfl, hS9, hJJ3⟩
      replace hS9 := hS9.symm
      subst hS9
      have hJ3 : VN S J3 (x + 1) B (upd (dlX X i) 0 (drawZ (drawZ (drawZ (dlX X i 0))))) T lw := by rw [hJJ3]; have q := vn_draw hJ2 (by omega) hW.2.2.2.2.1.2.1 (by unfold yn; rw [pk_un (by decide)]; exact hyn9) (by unfold ln; rw [pk_un (by decide)]; exact hl30); rw [pk_us, upd_r] at q; exact q
      have hEJ3 : Eqx (vfr (x + 1) B) I J3 := by rw [hJJ3]; exact hEJ2.set (Or.inl (by unfold blk; omega))
      rw [hJ2.2.2.1.2.2.2.2.2, pk_us]
      refine v_iadd (n := 73) dX10_deal_72 rfl ?_
      refine v_istore (n := 75) (al' := [.ref x, .int (nI a), .int (nI K), .int (nI i), .int (ushr (drawZ (dlX X i 0)) 8 % 6), .int (ushr (drawZ (drawZ (dlX X i 0))) 8 % 200), .int (1 + (ushr (drawZ (drawZ (drawZ (dlX X i 0)))) 8 % 100))]) dX10_deal_73 rfl rfl rfl ?_
      refine v_aload_n (n := 76) dX10_deal_75 rfl rfl rfl ?_
      refine v_getR (n := 79) f_X10_10 rfl L.s L.g0 dX10_deal_76 rfl ?_
      refine v_getR (n := 82) f_X10_85 rfl L.c0.s L.c0.g0 dX10_deal_79 rfl ?_
      refine v_iload (n := 84) dX10_deal_82 rfl rfl ?_
      refine v_iload (n := 86) dX10_deal_84 rfl rfl ?_
      refine v_iload (n := 88) dX10_deal_86 rfl rfl ?_
      refine v_callV (n := 91) mc_X5_add l_X10_95 iv_X5_add se_X5_add (ci := 4) ⟨by decide, rfl⟩ L.c0.c0.s (k_X5_add (n := yn X + i) L.c0.c0 (by rw [hJ3.1.1]; unfold yn at hyi ⊢; rw [pk_un (by decide), hyi]) (by omega)) ⟨rfl, rfl⟩ (l8 rfl) ⟨l8 rfl, l8 rfl⟩ rfl rfl (l8 rfl) dX10_deal_88 rfl ?_
      rintro _ _ J4 ⟨rfl, hS9, hJ4⟩
      replace hS9 := hS9.symm
      subst hS9
      refine v_pop (n := 92) dX10_deal_91 rfl rfl ?_
      refine v_iinc (n := 95) (v := (nI i) + 1) (al' := [.ref x, .int (nI a), .int (nI K), .int ((nI i) + 1), .int (ushr (drawZ (dlX X i 0)) 8 % 6), .int (ushr (drawZ (drawZ (dlX X i 0))) 8 % 200), .int (1 + (ushr (drawZ (drawZ (drawZ (dlX X i 0)))) 8 % 100))]) dX10_deal_92 rfl (by rw [c_1]) rfl rfl rfl ?_
      refine v_goto (tgt := 34) dX10_deal_95 (by decide) ?_
      refine v_drop 4 (al' := [.ref x, .int (nI a), .int (nI K), .int ((nI i) + 1), JJ, .int (ushr (drawZ (drawZ (dlX X i 0))) 8 % 200), .int (1 + (ushr (drawZ (drawZ (drawZ (dlX X i 0)))) 8 % 100))]) rfl ?_
      refine v_drop 5 (al' := [.ref x, .int (nI a), .int (nI K), .int ((nI i) + 1), JJ, JJ, .int (1 + (ushr (drawZ (drawZ (drawZ (dlX X i 0)))) 8 % 100))]) rfl ?_
      refine v_drop 6 (al' := [.ref x, .int (nI a), .int (nI K), .int ((nI i) + 1), JJ, JJ, JJ]) rfl ?_
      rw [nI_1]
      refine ih (i + 1) hlt (by omega) J4 ?_ ?_
      · rw [hJ4, dlX, dealOne]
        have q := vn_add (a := ushr (drawZ (dlX X i 0)) 8 % 6) (b := ushr (drawZ (drawZ (dlX X i 0))) 8 % 200) (c := 1 + ushr (drawZ (drawZ (drawZ (dlX X i 0)))) 8 % 100) hJ3 (by omega) hW.2.2.2.2.1.2.1 (by have e9 : (dlX X i 1).toNatClampNeg = yn X + i := hyi; show (upd (dlX X i) 0 _ 1).toNatClampNeg < 10; rw [pk_un (by decide), e9]; omega) (by unfold ln; rw [pk_un (by decide)]; exact hl30)
        rw [show yn (upd (dlX X i) 0 (drawZ (drawZ (drawZ (dlX X i 0))))) = yn X + i from by unfold yn at hyi ⊢; rw [pk_un (by decide), hyi]] at q
        exact q
      · rw [hJ4]; exact ((((hEJ3.set (Or.inl (by unfold blk; omega))).set (Or.inl (by unfold blk; omega))).set (Or.inl (by unfold blk; omega))).set (Or.inl (by unfold blk; omega))).set (Or.inl (by unfold blk; omega))

set_option maxRecDepth 100000 in
set_option maxHeartbeats 1000000 in
theorem c_X10_deal {ro : Ro} {S : St} {I : In} {xa : Int32} {x B T b : Nat} {X : Ar} {lw : Nat → Nat} (L : LayX S x) (h : VN S I (x + 1) B X T lw) (hW : WN X T b) (hB : x + 134 ≤ B) : Ok mX10_deal ro 1 0 0 [.ref x, .int xa] S I (QX S I x B T lw (dealS X (yn X) xa)) := by
  refine ok_of (al := [.ref x, .int xa, JJ, JJ, JJ, JJ, JJ]) (by decide) (l8 rfl) rfl ?_
  refine v_iload_n (n := 1) dX10_deal_0 rfl rfl rfl ?_
  refine v_iconst (n := 2) (v := 1) dX10_deal_1 c_1 rfl ?_
  refine v_icmp_lt (n := 5) (tgt := 11) dX10_deal_2 (by decide) rfl (fun hq2 => ?_) (fun hq2 => ?_)
  · refine v_ldc (n := 13) k_X10_84 dX10_deal_11 rfl ?_
    exact v_qx rfl (by rw [dealS, if_neg (by rw [inn_no1 hq2]; decide)]) h Eqx.rf ⟨l8 rfl, l8 rfl⟩ dX10_deal_13
  · refine v_iload_n (n := 6) dX10_deal_5 rfl rfl rfl ?_
    refine v_bipush (n := 8) (v := 10) dX10_deal_6 b_10 rfl ?_
    refine v_icmp_le (n := 11) (tgt := 14) dX10_deal_8 (by decide) rfl (fun hq8 => ?_) (fun hq8 => ?_)
    · have hib := inn_of hq2 hq8
      obtain ⟨a, ha1, ha9, rfl⟩ := inn_get1 (a := 10) (c := 1) hib (by decide) (by decide)
      have hn10 := hW.2.1
      refine v_iload_n (n := 15) dX10_deal_14 rfl rfl rfl ?_
      refine v_bipush (n := 17) (v := 10) dX10_deal_15 b_10 rfl ?_
      refine v_aload_n (n := 18) dX10_deal_17 rfl rfl rfl ?_
      refine v_getR (n := 21) f_X10_10 rfl L.s L.g0 dX10_deal_18 rfl ?_
      refine v_getR (n := 24) f_X10_85 rfl L.c0.s L.c0.g0 dX10_deal_21 rfl ?_
      refine v_getI (n := 27) f_X10_89 rfl L.c0.c0.s dX10_deal_24 rfl ?_
      rw [h.1.1]
      refine v_isub (n := 28) dX10_deal_27 rfl ?_
      refine v_min (n := 31) l_X10_140 min_sta ini_J9 min_code ⟨rfl, rfl⟩ ⟨l8 rfl, l8 rfl⟩ (l8 rfl) dX10_deal_28 rfl ?_
      rw [show (10 : Int32) - nI (yn X) = nI (10 - yn X) from pk_sub (a := 10) hn10, mn_nI (by omega) (by omega)]
      refine v_istore_n (n := 32) (al' := [.ref x, .int (nI a), .int (nI (min a (10 - yn X))), JJ, JJ, JJ, JJ]) dX10_deal_31 rfl rfl rfl rfl ?_
      refine v_iconst (n := 33) (v := 0) dX10_deal_32 c_0 rfl ?_
      refine v_istore_n (n := 34) (al' := [.ref x, .int (nI a), .int (nI (min a (10 - yn X))), .int 0, JJ, JJ, JJ]) dX10_deal_33 rfl rfl rfl rfl ?_
      exact l_X10_deal L h hW hB (K := min a (10 - yn X)) (by omega) (by rw [dealS, if_pos hib, nI_clamp (by omega)]) (min a (10 - yn X) + 1) 0 (Nat.zero_le _) (by omega) I h Eqx.rf
    · refine v_ldc (n := 13) k_X10_84 dX10_deal_11 rfl ?_
      exact v_qx rfl (by rw [dealS, if_neg (by rw [inn_no2 hq8]; decide)]) h Eqx.rf ⟨l8 rfl, l8 rfl⟩ dX10_deal_13

