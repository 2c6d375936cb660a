/-! ===== the calls of the class: yards and ball ===== -/
theorem VR.sk {S : St} {I J : In} {v B T n l : Nat} {X : Ar} {mv : Int32} {lw : Nat → Nat} (h : VR S I v B X mv T n l lw) (hvB : v + 11 ≤ B) (hE : Eqx (stk B) I J) : VR S J v B X mv T n l lw := h.eqx hE (fun a z => by have z2 := z; unfold stk at z; exact ⟨by omega, Or.inr z2⟩)
theorem stk_v {I J : In} {v B : Nat} (hE : Eqx (stk B) I J) : Eqx (vfr v B) I J := hE.mono (fun _ z => Or.inr z)
set_option maxRecDepth 100000 in
set_option maxHeartbeats 1000000 in
theorem s_X1_isOf {ro : Ro} {S : St} {I : In} {k0 w : Int32} {b : Bool} {k i : Nat} (hk : k < 6) (hi : i < 6) (h1 : w = nI k → b = true) (kk : ¬ w = nI k → V RX1 cX1_isOf 4 (some .boolean) "isOf" ro (rmD 1 0 0) (QM 0 0 (RI (bi b) S I)) 0 0 4 [.int k0, .int w, .int (aboveT k), .int (nI (i + 1))] [] S I) : V RX1 cX1_isOf 4 (some .boolean) "isOf" ro (rmD 1 0 0) (QM 0 0 (RI (bi b) S I)) 0 0 4 [.int k0, .int w, .int (nI k), .int (nI i)] [] S I := by
  have ha : kHas (nI k) = true := by
    have : k = 0 ∨ k = 1 ∨ k = 2 ∨ k = 3 ∨ k = 4 ∨ k = 5 := by omega
    rcases this with rfl | rfl | rfl | rfl | rfl | rfl <;> decide
  refine v_iload_n (n := 5) dX1_isOf_4 rfl rfl rfl ?_
  refine v_above (n := 8) fl_X1_9 dX1_isOf_5 rfl ?_
  refine v_abLen (n := 9) dX1_isOf_8 rfl ?_
  refine v_icmp_ge (n := 12) (tgt := 38) dX1_isOf_9 (by decide) rfl (fun hq9 => ?_) (fun hq9 => ?_)
  · exact absurd hq9 (nI_ge (a := i) (b := 6) hi (by decide))
  · refine v_iload_n (n := 13) dX1_isOf_12 rfl rfl rfl ?_
    refine v_cSi (n := 16) (x := (bi (kHas (nI k)))) mc_X1_has l_X1_15 sta_X1_has k_X1_has ⟨rfl, rfl⟩ (l8 rfl) ⟨l8 rfl, l8 rfl⟩ rfl rfl (l8 rfl) dX1_isOf_13 rfl ?_
    refine v_if_eq (n := 19) (tgt := 38) dX1_isOf_16 (by decide) rfl (fun hq16 => ?_) (fun hq16 => ?_)
    · exact absurd (bi_0.mp hq16) (by rw [ha]; decide)
    · refine v_iload_n (n := 20) dX1_isOf_19 rfl rfl rfl ?_
      refine v_iload_n (n := 21) dX1_isOf_20 rfl rfl rfl ?_
      refine v_icmp_ne (n := 24) (tgt := 26) dX1_isOf_21 (by decide) rfl (fun hq21 => ?_) (fun hq21 => ?_)
      · refine v_above (n := 29) fl_X1_9 dX1_isOf_26 rfl ?_
        refine v_iload_n (n := 30) dX1_isOf_29 rfl rfl rfl ?_
        refine v_abLd (n := 31) (j := k) (ix_nI hk (by decide)) dX1_isOf_30 rfl ?_
        refine v_istore_n (n := 32) (al' := [.int k0, .int w, .int (aboveT k), .int (nI i)]) dX1_isOf_31 rfl rfl rfl rfl ?_
        refine v_iinc (n := 35) (v := (nI i) + 1) (al' := [.int k0, .int w, .int (aboveT k), .int ((nI i) + 1)]) dX1_isOf_32 rfl (by rw [c_1]) rfl rfl rfl ?_
        refine v_goto (tgt := 4) dX1_isOf_35 (by decide) ?_
        rw [nI_1]
        exact kk (fun z => hq21 z.symm)
      · refine v_iconst (n := 25) (v := 1) dX1_isOf_24 c_1 rfl ?_
        exact v_rZ rfl (by rw [h1 hq21.symm]; rfl) rfl rfl ⟨l8 rfl, l8 rfl⟩ dX1_isOf_25

set_option maxRecDepth 100000 in
set_option maxHeartbeats 1000000 in
theorem n_X1_isOf {ro : Ro} {S : St} {I : In} {k0 w : Int32} {b : Bool} {i : Nat} (hi : i < 6) (h1 : b = false) : V RX1 cX1_isOf 4 (some .boolean) "isOf" ro (rmD 1 0 0) (QM 0 0 (RI (bi b) S I)) 0 0 4 [.int k0, .int w, .int (-1), .int (nI i)] [] S I := by
  refine v_iload_n (n := 5) dX1_isOf_4 rfl rfl rfl ?_
  refine v_above (n := 8) fl_X1_9 dX1_isOf_5 rfl ?_
  refine v_abLen (n := 9) dX1_isOf_8 rfl ?_
  refine v_icmp_ge (n := 12) (tgt := 38) dX1_isOf_9 (by decide) rfl (fun hq9 => ?_) (fun hq9 => ?_)
  · exact absurd hq9 (nI_ge (a := i) (b := 6) hi (by decide))
  · refine v_iload_n (n := 13) dX1_isOf_12 rfl rfl rfl ?_
    refine v_cSi (n := 16) (x := (bi (kHas (-1)))) mc_X1_has l_X1_15 sta_X1_has k_X1_has ⟨rfl, rfl⟩ (l8 rfl) ⟨l8 rfl, l8 rfl⟩ rfl rfl (l8 rfl) dX1_isOf_13 rfl ?_
    refine v_if_eq (n := 19) (tgt := 38) dX1_isOf_16 (by decide) rfl (fun hq16 => ?_) (fun hq16 => ?_)
    · refine v_iconst (n := 39) (v := 0) dX1_isOf_38 c_0 rfl ?_
      exact v_rZ rfl (by rw [h1]; rfl) rfl rfl ⟨l8 rfl, l8 rfl⟩ dX1_isOf_39
    · exact absurd (by decide) hq16

set_option maxRecDepth 100000 in
set_option maxHeartbeats 1000000 in
theorem k_X1_isOf {ro : Ro} {S : St} {I : In} {k q : Nat} (hk : k < 6) (hq : q < 6) : Ok mX1_isOf ro 1 0 0 [.int (nI k), .int (nI q)] S I (RI (bi (under (nI k) (nI q))) S I) := by
  refine ok_of (al := [.int (nI k), .int (nI q), JJ, JJ]) (by decide) (l8 rfl) rfl ?_
  refine v_iload_n (n := 1) dX1_isOf_0 rfl rfl rfl ?_
  refine v_istore_n (n := 2) (al' := [.int (nI k), .int (nI q), .int (nI k), JJ]) dX1_isOf_1 rfl rfl rfl rfl ?_
  refine v_iconst (n := 3) (v := 0) dX1_isOf_2 c_0 rfl ?_
  refine v_istore_n (n := 4) (al' := [.int (nI k), .int (nI q), .int (nI k), .int 0]) dX1_isOf_3 rfl rfl rfl rfl ?_
  have c6 : k = 0 ∨ k = 1 ∨ k = 2 ∨ k = 3 ∨ k = 4 ∨ k = 5 := by omega
  have d6 : q = 0 ∨ q = 1 ∨ q = 2 ∨ q = 3 ∨ q = 4 ∨ q = 5 := by omega
  rcases c6 with rfl | rfl | rfl | rfl | rfl | rfl
  · refine s_X1_isOf (k := 0) (i := 0) (by decide) (by decide) (fun e => by rw [e]; decide) (fun e0 => ?_)
    exact n_X1_isOf (i := 1) (by decide) (by rcases d6 with rfl | rfl | rfl | rfl | rfl | rfl <;> first | exact absurd rfl e0 | decide)
  · refine s_X1_isOf (k := 1) (i := 0) (by decide) (by decide) (fun e => by rw [e]; decide) (fun e0 => ?_)
    refine s_X1_isOf (k := 0) (i := 1) (by decide) (by decide) (fun e => by rw [e]; decide) (fun e1 => ?_)
    exact n_X1_isOf (i := 2) (by decide) (by rcases d6 with rfl | rfl | rfl | rfl | rfl | rfl <;> first | exact absurd rfl e0 | exact absurd rfl e1 | decide)
  · refine s_X1_isOf (k := 2) (i := 0) (by decide) (by decide) (fun e => by rw [e]; decide) (fun e0 => ?_)
    refine s_X1_isOf (k := 0) (i := 1) (by decide) (by decide) (fun e => by rw [e]; decide) (fun e1 => ?_)
    exact n_X1_isOf (i := 2) (by decide) (by rcases d6 with rfl | rfl | rfl | rfl | rfl | rfl <;> first | exact absurd rfl e0 | exact absurd rfl e1 | decide)
  · refine s_X1_isOf (k := 3) (i := 0) (by decide) (by decide) (fun e => by rw [e]; decide) (fun e0 => ?_)
    refine s_X1_isOf (k := 1) (i := 1) (by decide) (by decide) (fun e => by rw [e]; decide) (fun e1 => ?_)
    refine s_X1_isOf (k := 0) (i := 2) (by decide) (by decide) (fun e => by rw [e]; decide) (fun e2 => ?_)
    exact n_X1_isOf (i := 3) (by decide) (by rcases d6 with rfl | rfl | rfl | rfl | rfl | rfl <;> first | exact absurd rfl e0 | exact absurd rfl e1 | exact absurd rfl e2 | decide)
  · refine s_X1_isOf (k := 4) (i := 0) (by decide) (by decide) (fun e => by rw [e]; decide) (fun e0 => ?_)
    refine s_X1_isOf (k := 2) (i := 1) (by decide) (by decide) (fun e => by rw [e]; decide) (fun e1 => ?_)
    refine s_X1_isOf (k := 0) (i := 2) (by decide) (by decide) (fun e => by rw [e]; decide) (fun e2 => ?_)
    exact n_X1_isOf (i := 3) (by decide) (by rcases d6 with rfl | rfl | rfl | rfl | rfl | rfl <;> first | exact absurd rfl e0 | exact absurd rfl e1 | exact absurd rfl e2 | decide)
  · refine s_X1_isOf (k := 5) (i := 0) (by decide) (by decide) (fun e => by rw [e]; decide) (fun e0 => ?_)
    refine s_X1_isOf (k := 0) (i := 1) (by decide) (by decide) (fun e => by rw [e]; decide) (fun e1 => ?_)
    exact n_X1_isOf (i := 2) (by decide) (by rcases d6 with rfl | rfl | rfl | rfl | rfl | rfl <;> first | exact absurd rfl e0 | exact absurd rfl e1 | decide)

set_option maxRecDepth 100000 in
set_option maxHeartbeats 1000000 in
theorem c_X10_yard {ro : Ro} {S : St} {I : In} {xa xb xc : Int32} {x B T b : Nat} {X : Ar} {lw : Nat → Nat} (L : LayX S x) (h : VN S I (x + 1) B X T lw) (hW : WN X T b) (hB : x + 134 ≤ B) : Ok mX10_yard ro 1 0 0 [.ref x, .int xa, .int xb, .int xc] S I (QX S I x B T lw (yardS X xa xb xc)) := by
  refine ok_of (al := [.ref x, .int xa, .int xb, .int xc]) (by decide) (l8 rfl) rfl ?_
  refine v_iload_n (n := 1) dX10_yard_0 rfl rfl rfl ?_
  refine v_cSi (n := 4) (x := (bi (inn xa 0 5))) mc_X1_has l_X10_72 sta_X1_has k_X1_has ⟨rfl, rfl⟩ (l8 rfl) ⟨l8 rfl, l8 rfl⟩ rfl rfl (l8 rfl) dX10_yard_1 rfl ?_
  refine v_if_eq (n := 7) (tgt := 21) dX10_yard_4 (by decide) rfl (fun hq4 => ?_) (fun hq4 => ?_)
  · refine v_ldc (n := 23) k_X10_84 dX10_yard_21 rfl ?_
    exact v_qx rfl (by clear h hW; simp_all [bi_0, bi_n0, yardS]) h Eqx.rf ⟨l8 rfl, l8 rfl⟩ dX10_yard_23
  · refine v_iload_n (n := 8) dX10_yard_7 rfl rfl rfl ?_
    refine v_cSi (n := 11) (x := (bi (inn xb 0 999))) mc_X10_isSnow l_X10_78 sta_X10_isSnow k_X10_isSnow ⟨rfl, rfl⟩ (l8 rfl) ⟨l8 rfl, l8 rfl⟩ rfl rfl (l8 rfl) dX10_yard_8 rfl ?_
    refine v_if_eq (n := 14) (tgt := 21) dX10_yard_11 (by decide) rfl (fun hq11 => ?_) (fun hq11 => ?_)
    · refine v_ldc (n := 23) k_X10_84 dX10_yard_21 rfl ?_
      exact v_qx rfl (by clear h hW; simp_all [bi_0, bi_n0, yardS]) h Eqx.rf ⟨l8 rfl, l8 rfl⟩ dX10_yard_23
    · refine v_iload_n (n := 15) dX10_yard_14 rfl rfl rfl ?_
      refine v_cSi (n := 18) (x := (bi (inn xc 1 999))) mc_X10_isGate l_X10_81 sta_X10_isGate k_X10_isGate ⟨rfl, rfl⟩ (l8 rfl) ⟨l8 rfl, l8 rfl⟩ rfl rfl (l8 rfl) dX10_yard_15 rfl ?_
      refine v_if_ne (n := 21) (tgt := 24) dX10_yard_18 (by decide) rfl (fun hq18 => ?_) (fun hq18 => ?_)
      · refine v_aload_n (n := 25) dX10_yard_24 rfl rfl rfl ?_
        refine v_getR (n := 28) f_X10_10 rfl L.s L.g0 dX10_yard_25 rfl ?_
        refine v_getR (n := 31) f_X10_85 rfl L.c0.s L.c0.g0 dX10_yard_28 rfl ?_
        refine v_getI (n := 34) f_X10_89 rfl L.c0.c0.s dX10_yard_31 rfl ?_
        rw [h.1.1]
        refine v_bipush (n := 36) (v := 10) dX10_yard_34 b_10 rfl ?_
        refine v_icmp_lt (n := 39) (tgt := 42) dX10_yard_36 (by decide) rfl (fun hq36 => ?_) (fun hq36 => ?_)
        · have hlt : yn X < 10 := by
            rcases Nat.lt_or_ge (yn X) 10 with q | q
            · exact q
            · exact absurd hq36 (nI_nlt (a := yn X) (b := 10) q (by have := hW.2.1; omega))
          have hne : ¬ X 1 = 10 := by
            rw [hW.1]; exact fun z => absurd ((nI_eq (a := yn X) (b := 10) (by omega) (by decide)).mp z) (by omega)
          have hX1 := hW.1
          refine v_aload_n (n := 43) dX10_yard_42 rfl rfl rfl ?_
          refine v_getR (n := 46) f_X10_10 rfl L.s L.g0 dX10_yard_43 rfl ?_
          refine v_getR (n := 49) f_X10_85 rfl L.c0.s L.c0.g0 dX10_yard_46 rfl ?_
          refine v_iload_n (n := 50) dX10_yard_49 rfl rfl rfl ?_
          refine v_iload_n (n := 51) dX10_yard_50 rfl rfl rfl ?_
          refine v_iload_n (n := 52) dX10_yard_51 rfl rfl rfl ?_
          refine v_cVi (n := 55) (x := (nI (yn X))) mc_X5_add l_X10_95 iv_X5_add se_X5_add (ci := 4) ⟨by decide, rfl⟩ L.c0.c0.s (k_X5_add (n := yn X) L.c0.c0 h.1.1 hlt) ⟨rfl, rfl⟩ (l8 rfl) ⟨l8 rfl, l8 rfl⟩ rfl rfl (l8 rfl) dX10_yard_52 rfl ?_
          rw [← hX1]
          exact v_qx rfl (by clear h hW; simp_all [bi_0, bi_n0, yardS]) (vn_add h (by omega) hW.2.2.2.2.1.2.1 hlt hW.2.2.2.1) (((((Eqx.rf.set (Or.inl (by unfold blk; omega))).set (Or.inl (by unfold blk; omega))).set (Or.inl (by unfold blk; omega))).set (Or.inl (by unfold blk; omega))).set (Or.inl (by unfold blk; omega))) ⟨l8 rfl, l8 rfl⟩ dX10_yard_55
        · have h10 : X 1 = 10 := by
            rcases Nat.lt_or_ge (yn X) 10 with q | q
            · exact absurd (nI_lt (a := yn X) (b := 10) q (by decide)) hq36
            · rw [hW.1, show yn X = 10 by have := hW.2.1; omega]; rfl
          refine v_ldc (n := 41) k_X10_94 dX10_yard_39 rfl ?_
          exact v_qx rfl (by clear h hW; simp_all [bi_0, bi_n0, yardS]) h Eqx.rf ⟨l8 rfl, l8 rfl⟩ dX10_yard_41
      · refine v_ldc (n := 23) k_X10_84 dX10_yard_21 rfl ?_
        exact v_qx rfl (by clear h hW; simp_all [bi_0, bi_n0, yardS]) h Eqx.rf ⟨l8 rfl, l8 rfl⟩ dX10_yard_23

theorem led_eq {I : In} {b l : Nat} {X : Ar} {y : Int32} (h : BlR I b X l) : smY (I (b + 1)) (I (b + 2)) y l = ledS X y l := by
  have : ∀ k, k ≤ l → smY (I (b + 1)) (I (b + 2)) y k = ledS X y k := by
    intro k
    induction k with
    | zero => intro _; rfl
    | succ k ih => intro hk; rw [smY, ledS, ih (by omega), (h.2.1 k (by omega)).1, (h.2.1 k (by omega)).2]; split <;> first | rfl | rw [Int32.add_zero]
  exact this l (Nat.le_refl _)
theorem worth_eq (k s g : Int32) : kWorth k s g = kWorthM k s g := by
  unfold kWorth kWorthM
  have e : 999 - s - 8 = 991 - s := by
    rw [Int32.sub_eq_add_neg, Int32.sub_eq_add_neg, Int32.sub_eq_add_neg, Int32.add_assoc, Int32.add_comm (-s), ← Int32.add_assoc]; rfl
  rw [e]
set_option maxRecDepth 100000 in
set_option maxHeartbeats 1000000 in
theorem c_X10_told {ro : Ro} {S : St} {I : In} {xa xb : Int32} {x B T b : Nat} {X : Ar} {lw : Nat → Nat} (L : LayX S x) (h : VN S I (x + 1) B X T lw) (hW : WN X T b) (hB : x + 134 ≤ B) : Ok mX10_told ro 3 0 0 [.ref x, .int xa, .int xb] S I (QX S I x B T lw (toldS X T (ln X) xa xb, X)) := by
  refine ok_of (al := [.ref x, .int xa, .int xb, JJ]) (by decide) (l8 rfl) rfl ?_
  refine v_aload_n (n := 1) dX10_told_0 rfl rfl rfl ?_
  refine v_getR (n := 4) f_X10_10 rfl L.s L.g0 dX10_told_1 rfl ?_
  refine v_getR (n := 7) f_X10_85 rfl L.c0.s L.c0.g0 dX10_told_4 rfl ?_
  refine v_astore_n (n := 8) (al' := [.ref x, .int xa, .int xb, .ref (((x + 1) + 1))]) dX10_told_7 rfl rfl rfl rfl ?_
  refine v_aload_n (n := 9) dX10_told_8 rfl rfl rfl ?_
  refine v_iload_n (n := 10) dX10_told_9 rfl rfl rfl ?_
  refine v_cVi (n := 13) (x := (bi (yd X xa))) mc_X5_has l_X10_99 iv_X5_has se_X5_has (ci := 4) ⟨by decide, rfl⟩ L.c0.c0.s (k_yd L.c0.c0 h.1 hW.1 hW.2.1) ⟨rfl, rfl⟩ (l8 rfl) ⟨l8 rfl, l8 rfl⟩ rfl rfl (l8 rfl) dX10_told_10 rfl ?_
  refine v_if_ne (n := 16) (tgt := 19) dX10_told_13 (by decide) rfl (fun hq13 => ?_) (fun hq13 => ?_)
  · obtain ⟨y, hy, rfl⟩ := yd_get (bi_n0.mp hq13) hW.1 hW.2.1
    have hy10 : y < 10 := by have := hW.2.1; omega
    have hcy : (nI y).toNatClampNeg = y := nI_clamp (by omega)
    have ey := h.1.2 y hy
    have hyd := bi_n0.mp hq13
    obtain ⟨s, hs, es⟩ := (hW.2.2.2.2.2.2.2.2.2 y hy).2
    have hday := h.2.2.1.2.1
    have hled := led_eq (y := nI y) h.2.1
    have hwo := fun a b c => worth_eq a b c
    refine v_iload_n (n := 20) dX10_told_19 rfl rfl rfl ?_
    by_cases hw20_0 : xb = 0
    · refine v_table (tgt := 68) (off := 48) dX10_told_20 (by rw [hw20_0, t_0]; decide) (by rw [hw20_0, t_0]; rfl) (by decide) ?_
      refine v_aload_n (n := 69) dX10_told_68 rfl rfl rfl ?_
      refine v_getR (n := 72) f_X10_100 rfl L.c0.c0.s L.c0.c0.g0 dX10_told_69 rfl ?_
      refine v_iload_n (n := 73) dX10_told_72 rfl rfl rfl ?_
      refine v_iald (n := 74) (j := y) L.c0.c0.c0 (ix_nI hy10 (by decide)) dX10_told_73 rfl ?_
      exact v_qx rfl (by clear h hW; simp_all [bi_0, bi_n0, toldS]) h Eqx.rf ⟨l8 rfl, l8 rfl⟩ dX10_told_74
    by_cases hw20_1 : xb = 1
    · refine v_table (tgt := 75) (off := 55) dX10_told_20 (by rw [hw20_1, t_1]; decide) (by rw [hw20_1, t_1]; rfl) (by decide) ?_
      refine v_aload_n (n := 76) dX10_told_75 rfl rfl rfl ?_
      refine v_getR (n := 79) f_X10_103 rfl L.c0.c0.s L.c0.c0.g1 dX10_told_76 rfl ?_
      refine v_iload_n (n := 80) dX10_told_79 rfl rfl rfl ?_
      refine v_iald (n := 81) (j := y) L.c0.c0.c1 (ix_nI hy10 (by decide)) dX10_told_80 rfl ?_
      exact v_qx rfl (by clear h hW; simp_all [bi_0, bi_n0, toldS]) h Eqx.rf ⟨l8 rfl, l8 rfl⟩ dX10_told_81
    by_cases hw20_2 : xb = 2
    · refine v_table (tgt := 82) (off := 62) dX10_told_20 (by rw [hw20_2, t_2]; decide) (by rw [hw20_2, t_2]; rfl) (by decide) ?_
      refine v_aload_n (n := 83) dX10_told_82 rfl rfl rfl ?_
      refine v_getR (n := 86) f_X10_106 rfl L.c0.c0.s L.c0.c0.g2 dX10_told_83 rfl ?_
      refine v_iload_n (n := 87) dX10_told_86 rfl rfl rfl ?_
      refine v_iald (n := 88) (j := y) L.c0.c0.c2 (ix_nI hy10 (by decide)) dX10_told_87 rfl ?_
      exact v_qx rfl (by clear h hW; simp_all [bi_0, bi_n0, toldS]) h Eqx.rf ⟨l8 rfl, l8 rfl⟩ dX10_told_88
    by_cases hw20_3 : xb = 3
    · refine v_table (tgt := 89) (off := 69) dX10_told_20 (by rw [hw20_3, t_3]; decide) (by rw [hw20_3, t_3]; rfl) (by decide) ?_
      refine v_aload_n (n := 90) dX10_told_89 rfl rfl rfl ?_
      refine v_getR (n := 93) f_X10_109 rfl L.c0.c0.s L.c0.c0.g3 dX10_told_90 rfl ?_
      refine v_iload_n (n := 94) dX10_told_93 rfl rfl rfl ?_
      refine v_iald (n := 95) (j := y) L.c0.c0.c3 (ix_nI hy10 (by decide)) dX10_told_94 rfl ?_
      exact v_qx rfl (by clear h hW; simp_all [bi_0, bi_n0, toldS]) h Eqx.rf ⟨l8 rfl, l8 rfl⟩ dX10_told_95
    by_cases hw20_4 : xb = 4
    · refine v_table (tgt := 96) (off := 76) dX10_told_20 (by rw [hw20_4, t_4]; decide) (by rw [hw20_4, t_4]; rfl) (by decide) ?_
      refine v_aload_n (n := 97) dX10_told_96 rfl rfl rfl ?_
      refine v_getR (n := 100) f_X10_10 rfl L.s L.g0 dX10_told_97 rfl ?_
      refine v_iload_n (n := 101) dX10_told_100 rfl rfl rfl ?_
      refine v_callV (n := 104) mc_X9_gives l_X10_112 iv_X9_gives se_X9_gives (ci := 8) ⟨by decide, rfl⟩ L.c0.s (k_X9_gives L.c0 h hW.2.2.2.2.1.2.1 (by omega) hy hW.2.1 hs es) ⟨rfl, rfl⟩ (l8 rfl) ⟨l8 rfl, l8 rfl⟩ rfl rfl (l8 rfl) dX10_told_101 rfl ?_
      rintro _ _ J ⟨rfl, hS9, hE9⟩
      replace hS9 := hS9.symm
      subst hS9
      exact v_qx rfl (by clear h hW; simp_all [bi_0, bi_n0, toldS]) (h.sk (by omega) hE9) (stk_v hE9) ⟨l8 rfl, l8 rfl⟩ dX10_told_104
    by_cases hw20_5 : xb = 5
    · refine v_table (tgt := 105) (off := 85) dX10_told_20 (by rw [hw20_5, t_5]; decide) (by rw [hw20_5, t_5]; rfl) (by decide) ?_
      refine v_aload_n (n := 106) dX10_told_105 rfl rfl rfl ?_
      refine v_getR (n := 109) f_X10_100 rfl L.c0.c0.s L.c0.c0.g0 dX10_told_106 rfl ?_
      refine v_iload_n (n := 110) dX10_told_109 rfl rfl rfl ?_
      refine v_iald (n := 111) (j := y) L.c0.c0.c0 (ix_nI hy10 (by decide)) dX10_told_110 rfl ?_
      refine v_aload_n (n := 112) dX10_told_111 rfl rfl rfl ?_
      refine v_getR (n := 115) f_X10_10 rfl L.s L.g0 dX10_told_112 rfl ?_
      refine v_getI (n := 118) f_X10_116 rfl L.c0.s dX10_told_115 rfl ?_
      refine v_cSi (n := 121) (x := (kGoes (I (x + 1 + 1 + 1) y) (I (x + 1) 4))) mc_X1_goesOn l_X10_119 sta_X1_goesOn k_X1_goesOn ⟨rfl, rfl⟩ (l8 rfl) ⟨l8 rfl, l8 rfl⟩ rfl rfl (l8 rfl) dX10_told_118 rfl ?_
      exact v_qx rfl (by clear h hW; simp_all [bi_0, bi_n0, toldS]) h Eqx.rf ⟨l8 rfl, l8 rfl⟩ dX10_told_121
    by_cases hw20_6 : xb = 6
    · refine v_table (tgt := 122) (off := 102) dX10_told_20 (by rw [hw20_6, t_6]; decide) (by rw [hw20_6, t_6]; rfl) (by decide) ?_
      refine v_aload_n (n := 123) dX10_told_122 rfl rfl rfl ?_
      refine v_getR (n := 126) f_X10_100 rfl L.c0.c0.s L.c0.c0.g0 dX10_told_123 rfl ?_
      refine v_iload_n (n := 127) dX10_told_126 rfl rfl rfl ?_
      refine v_iald (n := 128) (j := y) L.c0.c0.c0 (ix_nI hy10 (by decide)) dX10_told_127 rfl ?_
      refine v_aload_n (n := 129) dX10_told_128 rfl rfl rfl ?_
      refine v_getR (n := 132) f_X10_103 rfl L.c0.c0.s L.c0.c0.g1 dX10_told_129 rfl ?_
      refine v_iload_n (n := 133) dX10_told_132 rfl rfl rfl ?_
      refine v_iald (n := 134) (j := y) L.c0.c0.c1 (ix_nI hy10 (by decide)) dX10_told_133 rfl ?_
      refine v_aload_n (n := 135) dX10_told_134 rfl rfl rfl ?_
      refine v_getR (n := 138) f_X10_106 rfl L.c0.c0.s L.c0.c0.g2 dX10_told_135 rfl ?_
      refine v_iload_n (n := 139) dX10_told_138 rfl rfl rfl ?_
      refine v_iald (n := 140) (j := y) L.c0.c0.c2 (ix_nI hy10 (by decide)) dX10_told_139 rfl ?_
      refine v_cSi (n := 143) (x := (kWorth (I (x + 1 + 1 + 1) y) (I (x + 1 + 1 + 2) y) (I (x + 1 + 1 + 3) y))) mc_X1_worth l_X10_123 sta_X1_worth k_X1_worth ⟨rfl, rfl⟩ (l8 rfl) ⟨l8 rfl, l8 rfl⟩ rfl rfl (l8 rfl) dX10_told_140 rfl ?_
      exact v_qx rfl (by clear h hW; simp_all [bi_0, bi_n0, toldS]) h Eqx.rf ⟨l8 rfl, l8 rfl⟩ dX10_told_143
    by_cases hw20_7 : xb = 7
    · refine v_table (tgt := 144) (off := 124) dX10_told_20 (by rw [hw20_7, t_7]; decide) (by rw [hw20_7, t_7]; rfl) (by decide) ?_
      refine v_aload_n (n := 145) dX10_told_144 rfl rfl rfl ?_
      refine v_getR (n := 148) f_X10_10 rfl L.s L.g0 dX10_told_145 rfl ?_
      refine v_getR (n := 151) f_X10_126 rfl L.c0.s L.c0.g1 dX10_told_148 rfl ?_
      refine v_iload_n (n := 152) dX10_told_151 rfl rfl rfl ?_
      refine v_cVi (n := 155) (x := (smY (I (x + 1 + 6 + 1)) (I (x + 1 + 6 + 2)) (nI y) (ln X))) mc_X0_led l_X10_130 iv_X0_led se_X0_led (ci := 0) ⟨by decide, rfl⟩ L.c0.c1.s (k_X0_led L.c0.c1 h.2.1.1.1 hW.2.2.2.1) ⟨rfl, rfl⟩ (l8 rfl) ⟨l8 rfl, l8 rfl⟩ rfl rfl (l8 rfl) dX10_told_152 rfl ?_
      exact v_qx rfl (by clear h hW; simp_all [bi_0, bi_n0, toldS]) h Eqx.rf ⟨l8 rfl, l8 rfl⟩ dX10_told_155
    refine v_tableO (tgt := 156) dX10_told_20 (sw_out8 (lo := 0) hw20_0 hw20_1 hw20_2 hw20_3 hw20_4 hw20_5 hw20_6 hw20_7 t_0 t_1 t_2 t_3 t_4 t_5 t_6 t_7) (by decide) ?_
    refine v_ldc (n := 158) k_X10_84 dX10_told_156 rfl ?_
    exact v_qx rfl (by clear h hW; simp_all [bi_0, bi_n0, toldS]) h Eqx.rf ⟨l8 rfl, l8 rfl⟩ dX10_told_158
  · refine v_ldc (n := 18) k_X10_84 dX10_told_16 rfl ?_
    exact v_qx rfl (by clear h hW; simp_all [bi_0, bi_n0, toldS]) h Eqx.rf ⟨l8 rfl, l8 rfl⟩ dX10_told_18

set_option maxRecDepth 100000 in
set_option maxHeartbeats 1000000 in
theorem c_X10_as {ro : Ro} {S : St} {I : In} {xa xb : Int32} {x B T b : Nat} {X : Ar} {lw : Nat → Nat} (L : LayX S x) (h : VN S I (x + 1) B X T lw) (hW : WN X T b) (hB : x + 134 ≤ B) : Ok mX10_as ro 2 0 0 [.ref x, .int xa, .int xb] S I (QX S I x B T lw (asS X xa xb, X)) := by
  refine ok_of (al := [.ref x, .int xa, .int xb]) (by decide) (l8 rfl) rfl ?_
  refine v_aload_n (n := 1) dX10_as_0 rfl rfl rfl ?_
  refine v_getR (n := 4) f_X10_10 rfl L.s L.g0 dX10_as_1 rfl ?_
  refine v_getR (n := 7) f_X10_85 rfl L.c0.s L.c0.g0 dX10_as_4 rfl ?_
  refine v_iload_n (n := 8) dX10_as_7 rfl rfl rfl ?_
  refine v_cVi (n := 11) (x := (bi (yd X xa))) mc_X5_has l_X10_99 iv_X5_has se_X5_has (ci := 4) ⟨by decide, rfl⟩ L.c0.c0.s (k_yd L.c0.c0 h.1 hW.1 hW.2.1) ⟨rfl, rfl⟩ (l8 rfl) ⟨l8 rfl, l8 rfl⟩ rfl rfl (l8 rfl) dX10_as_8 rfl ?_
  refine v_if_eq (n := 14) (tgt := 21) dX10_as_11 (by decide) rfl (fun hq11 => ?_) (fun hq11 => ?_)
  · refine v_ldc (n := 23) k_X10_84 dX10_as_21 rfl ?_
    exact v_qx rfl (by clear h hW; simp_all [bi_0, bi_n0, asS]) h Eqx.rf ⟨l8 rfl, l8 rfl⟩ dX10_as_23
  · refine v_iload_n (n := 15) dX10_as_14 rfl rfl rfl ?_
    refine v_cSi (n := 18) (x := (bi (inn xb 0 5))) mc_X1_has l_X10_72 sta_X1_has k_X1_has ⟨rfl, rfl⟩ (l8 rfl) ⟨l8 rfl, l8 rfl⟩ rfl rfl (l8 rfl) dX10_as_15 rfl ?_
    refine v_if_ne (n := 21) (tgt := 24) dX10_as_18 (by decide) rfl (fun hq18 => ?_) (fun hq18 => ?_)
    · obtain ⟨y, hy, rfl⟩ := yd_get (bi_n0.mp hq11) hW.1 hW.2.1
      have hy10 : y < 10 := by have := hW.2.1; omega
      have hcy : (nI y).toNatClampNeg = y := nI_clamp (by omega)
      have ey := h.1.2 y hy
      have hyd := bi_n0.mp hq11
      have hib := bi_n0.mp hq18
      obtain ⟨q, hq9, rfl⟩ := inn_get (a := 5) hib (by decide)
      have hq : q < 6 := by omega
      obtain ⟨k, hk, ek⟩ := (hW.2.2.2.2.2.2.2.2.2 y hy).1
      refine v_aload_n (n := 25) dX10_as_24 rfl rfl rfl ?_
      refine v_getR (n := 28) f_X10_10 rfl L.s L.g0 dX10_as_25 rfl ?_
      refine v_getR (n := 31) f_X10_85 rfl L.c0.s L.c0.g0 dX10_as_28 rfl ?_
      refine v_getR (n := 34) f_X10_100 rfl L.c0.c0.s L.c0.c0.g0 dX10_as_31 rfl ?_
      refine v_iload_n (n := 35) dX10_as_34 rfl rfl rfl ?_
      refine v_iald (n := 36) (j := y) L.c0.c0.c0 (ix_nI hy10 (by decide)) dX10_as_35 rfl ?_
      rw [ey.1, ek]
      refine v_iload_n (n := 37) dX10_as_36 rfl rfl rfl ?_
      refine v_cSi (n := 40) (x := (bi (under (nI k) (nI q)))) mc_X1_isOf l_X10_135 sta_X1_isOf (k_X1_isOf hk hq) ⟨rfl, rfl⟩ (l8 rfl) ⟨l8 rfl, l8 rfl⟩ rfl rfl (l8 rfl) dX10_as_37 rfl ?_
      refine v_if_eq (n := 43) (tgt := 58) dX10_as_40 (by decide) rfl (fun hq40 => ?_) (fun hq40 => ?_)
      · refine v_ldc (n := 60) k_X10_139 dX10_as_58 rfl ?_
        exact v_qx rfl (by clear h hW; simp_all [bi_0, bi_n0, asS]) h Eqx.rf ⟨l8 rfl, l8 rfl⟩ dX10_as_60
      · refine v_aload_n (n := 44) dX10_as_43 rfl rfl rfl ?_
        refine v_getR (n := 47) f_X10_10 rfl L.s L.g0 dX10_as_44 rfl ?_
        refine v_getR (n := 50) f_X10_85 rfl L.c0.s L.c0.g0 dX10_as_47 rfl ?_
        refine v_getR (n := 53) f_X10_103 rfl L.c0.c0.s L.c0.c0.g1 dX10_as_50 rfl ?_
        refine v_iload_n (n := 54) dX10_as_53 rfl rfl rfl ?_
        refine v_iald (n := 55) (j := y) L.c0.c0.c1 (ix_nI hy10 (by decide)) dX10_as_54 rfl ?_
        refine v_goto (tgt := 60) dX10_as_55 (by decide) ?_
        exact v_qx rfl (by clear h hW; simp_all [bi_0, bi_n0, asS]) h Eqx.rf ⟨l8 rfl, l8 rfl⟩ dX10_as_60
    · refine v_ldc (n := 23) k_X10_84 dX10_as_21 rfl ?_
      exact v_qx rfl (by clear h hW; simp_all [bi_0, bi_n0, asS]) h Eqx.rf ⟨l8 rfl, l8 rfl⟩ dX10_as_23

set_option maxRecDepth 100000 in
set_option maxHeartbeats 1000000 in
theorem c_X10_turns {ro : Ro} {S : St} {I : In} {xa xb : Int32} {x B T b : Nat} {X : Ar} {lw : Nat → Nat} (L : LayX S x) (h : VN S I (x + 1) B X T lw) (hW : WN X T b) (hB : x + 134 ≤ B) : Ok mX10_turns ro 1 0 0 [.ref x, .int xa, .int xb] S I (QX S I x B T lw (turnsS X xa xb)) := by
  refine ok_of (al := [.ref x, .int xa, .int xb, JJ]) (by decide) (l8 rfl) rfl ?_
  refine v_aload_n (n := 1) dX10_turns_0 rfl rfl rfl ?_
  refine v_getR (n := 4) f_X10_10 rfl L.s L.g0 dX10_turns_1 rfl ?_
  refine v_getR (n := 7) f_X10_85 rfl L.c0.s L.c0.g0 dX10_turns_4 rfl ?_
  refine v_iload_n (n := 8) dX10_turns_7 rfl rfl rfl ?_
  refine v_cVi (n := 11) (x := (bi (yd X xa))) mc_X5_has l_X10_99 iv_X5_has se_X5_has (ci := 4) ⟨by decide, rfl⟩ L.c0.c0.s (k_yd L.c0.c0 h.1 hW.1 hW.2.1) ⟨rfl, rfl⟩ (l8 rfl) ⟨l8 rfl, l8 rfl⟩ rfl rfl (l8 rfl) dX10_turns_8 rfl ?_
  refine v_if_eq (n := 14) (tgt := 21) dX10_turns_11 (by decide) rfl (fun hq11 => ?_) (fun hq11 => ?_)
  · refine v_ldc (n := 23) k_X10_84 dX10_turns_21 rfl ?_
    exact v_qx rfl (by clear h hW; simp_all [bi_0, bi_n0, turnsS]) h Eqx.rf ⟨l8 rfl, l8 rfl⟩ dX10_turns_23
  · refine v_iload_n (n := 15) dX10_turns_14 rfl rfl rfl ?_
    refine v_cSi (n := 18) (x := (bi (inn xb 0 5))) mc_X1_has l_X10_72 sta_X1_has k_X1_has ⟨rfl, rfl⟩ (l8 rfl) ⟨l8 rfl, l8 rfl⟩ rfl rfl (l8 rfl) dX10_turns_15 rfl ?_
    refine v_if_ne (n := 21) (tgt := 24) dX10_turns_18 (by decide) rfl (fun hq18 => ?_) (fun hq18 => ?_)
    · obtain ⟨y, hy, rfl⟩ := yd_get (bi_n0.mp hq11) hW.1 hW.2.1
      have hy10 : y < 10 := by have := hW.2.1; omega
      have hcy : (nI y).toNatClampNeg = y := nI_clamp (by omega)
      have ey := h.1.2 y hy
      refine v_aload_n (n := 25) dX10_turns_24 rfl rfl rfl ?_
      refine v_getR (n := 28) f_X10_10 rfl L.s L.g0 dX10_turns_25 rfl ?_
      refine v_getR (n := 31) f_X10_85 rfl L.c0.s L.c0.g0 dX10_turns_28 rfl ?_
      refine v_getR (n := 34) f_X10_100 rfl L.c0.c0.s L.c0.c0.g0 dX10_turns_31 rfl ?_
      refine v_iload_n (n := 35) dX10_turns_34 rfl rfl rfl ?_
      refine v_iald (n := 36) (j := y) L.c0.c0.c0 (ix_nI hy10 (by decide)) dX10_turns_35 rfl ?_
      refine v_istore_n (n := 37) (al' := [.ref x, .int (nI y), .int xb, .int (I (((x + 1) + 1) + 1) y)]) dX10_turns_36 rfl rfl rfl rfl ?_
      refine v_aload_n (n := 38) dX10_turns_37 rfl rfl rfl ?_
      refine v_getR (n := 41) f_X10_10 rfl L.s L.g0 dX10_turns_38 rfl ?_
      refine v_getR (n := 44) f_X10_85 rfl L.c0.s L.c0.g0 dX10_turns_41 rfl ?_
      refine v_getR (n := 47) f_X10_100 rfl L.c0.c0.s L.c0.c0.g0 dX10_turns_44 rfl ?_
      refine v_iload_n (n := 48) dX10_turns_47 rfl rfl rfl ?_
      refine v_iload_n (n := 49) dX10_turns_48 rfl rfl rfl ?_
      refine v_iast (n := 50) (j := y) L.c0.c0.c0 (ix_nI hy10 (by decide)) dX10_turns_49 rfl ?_
      refine v_iload_n (n := 51) dX10_turns_50 rfl rfl rfl ?_
      exact v_qx rfl (by clear h hW; simp_all [bi_0, bi_n0, turnsS]) (vn_ring (u := 0) (y := y) h (by omega) hW.2.2.2.2.1.2.1 hW.2.1 hW.2.2.2.1 hy10 (by decide)) (eq_v (by omega)) ⟨l8 rfl, l8 rfl⟩ dX10_turns_51
    · refine v_ldc (n := 23) k_X10_84 dX10_turns_21 rfl ?_
      exact v_qx rfl (by clear h hW; simp_all [bi_0, bi_n0, turnsS]) h Eqx.rf ⟨l8 rfl, l8 rfl⟩ dX10_turns_23

theorem set_1 {X : Ar} {y : Nat} {v w : Int32} (h : yd X (nI y) = true) (hv : inn v 0 999 = true) (hc : (nI y).toNatClampNeg = y) (hw : w = X (76 + 4 * y + 1)) : setS X (nI y) 1 v = (w, upd X (76 + 4 * y + 1) v) := by
  rw [setS, if_pos (by rw [h, if_pos rfl, hv]; decide), hc, hw]; rfl
theorem set_2 {X : Ar} {y : Nat} {v w : Int32} (h : yd X (nI y) = true) (hv : inn v 1 999 = true) (hc : (nI y).toNatClampNeg = y) (hw : w = X (76 + 4 * y + 2)) : setS X (nI y) 2 v = (w, upd X (76 + 4 * y + 2) v) := by
  rw [setS, if_pos (by rw [h, if_neg (by decide), hv]; decide), hc, hw]; rfl
theorem set_0 {X : Ar} {a b v : Int32} (h1 : b = 1 → inn v 0 999 = false) (h2 : b = 2 → inn v 1 999 = false) : setS X a b v = (-1000000001, X) := by
  rw [setS, if_neg]
  intro z
  simp only [Bool.and_eq_true] at z
  obtain ⟨⟨-, z2⟩, z3⟩ := z
  obtain ⟨u, u1, u2, rfl⟩ := inn_get1 (a := 2) (c := 1) z2 (by decide) (by decide)
  have : u = 1 ∨ u = 2 := by omega
  rcases this with rfl | rfl
  · rw [if_pos (by decide), h1 (by decide)] at z3; cases z3
  · rw [if_neg (by decide), h2 (by decide)] at z3; cases z3
set_option maxRecDepth 100000 in
set_option maxHeartbeats 1000000 in
theorem c_X10_set {ro : Ro} {S : St} {I : In} {xa xb xc : Int32} {x B T b : Nat} {X : Ar} {lw : Nat → Nat} (L : LayX S x) (h : VN S I (x + 1) B X T lw) (hW : WN X T b) (hB : x + 134 ≤ B) : Ok mX10_set ro 1 0 0 [.ref x, .int xa, .int xb, .int xc] S I (QX S I x B T lw (setS X xa xb xc)) := by
  refine ok_of (al := [.ref x, .int xa, .int xb, .int xc, JJ]) (by decide) (l8 rfl) rfl ?_
  refine v_aload_n (n := 1) dX10_set_0 rfl rfl rfl ?_
  refine v_getR (n := 4) f_X10_10 rfl L.s L.g0 dX10_set_1 rfl ?_
  refine v_getR (n := 7) f_X10_85 rfl L.c0.s L.c0.g0 dX10_set_4 rfl ?_
  refine v_iload_n (n := 8) dX10_set_7 rfl rfl rfl ?_
  refine v_cVi (n := 11) (x := (bi (yd X xa))) mc_X5_has l_X10_99 iv_X5_has se_X5_has (ci := 4) ⟨by decide, rfl⟩ L.c0.c0.s (k_yd L.c0.c0 h.1 hW.1 hW.2.1) ⟨rfl, rfl⟩ (l8 rfl) ⟨l8 rfl, l8 rfl⟩ rfl rfl (l8 rfl) dX10_set_8 rfl ?_
  refine v_if_ne (n := 14) (tgt := 17) dX10_set_11 (by decide) rfl (fun hq11 => ?_) (fun hq11 => ?_)
  · obtain ⟨y, hy, rfl⟩ := yd_get (bi_n0.mp hq11) hW.1 hW.2.1
    have hy10 : y < 10 := by have := hW.2.1; omega
    have hcy : (nI y).toNatClampNeg = y := nI_clamp (by omega)
    have ey := h.1.2 y hy
    have hyd := bi_n0.mp hq11
    refine v_iload_n (n := 18) dX10_set_17 rfl rfl rfl ?_
    refine v_iconst (n := 19) (v := 1) dX10_set_18 c_1 rfl ?_
    refine v_icmp_ne (n := 22) (tgt := 59) dX10_set_19 (by decide) rfl (fun hq19 => ?_) (fun hq19 => ?_)
    · refine v_iload_n (n := 60) dX10_set_59 rfl rfl rfl ?_
      refine v_iconst (n := 61) (v := 2) dX10_set_60 c_2 rfl ?_
      refine v_icmp_ne (n := 64) (tgt := 101) dX10_set_61 (by decide) rfl (fun hq61 => ?_) (fun hq61 => ?_)
      · refine v_ldc (n := 103) k_X10_84 dX10_set_101 rfl ?_
        exact v_qx rfl (set_0 (by clear h hW; simp_all [bi_0, bi_n0]) (by clear h hW; simp_all [bi_0, bi_n0])) h Eqx.rf ⟨l8 rfl, l8 rfl⟩ dX10_set_103
      · refine v_iload_n (n := 65) dX10_set_64 rfl rfl rfl ?_
        refine v_cSi (n := 68) (x := (bi (inn xc 1 999))) mc_X10_isGate l_X10_81 sta_X10_isGate k_X10_isGate ⟨rfl, rfl⟩ (l8 rfl) ⟨l8 rfl, l8 rfl⟩ rfl rfl (l8 rfl) dX10_set_65 rfl ?_
        refine v_if_eq (n := 71) (tgt := 101) dX10_set_68 (by decide) rfl (fun hq68 => ?_) (fun hq68 => ?_)
        · refine v_ldc (n := 103) k_X10_84 dX10_set_101 rfl ?_
          exact v_qx rfl (set_0 (by clear h hW; simp_all [bi_0, bi_n0]) (by clear h hW; simp_all [bi_0, bi_n0])) h Eqx.rf ⟨l8 rfl, l8 rfl⟩ dX10_set_103
        · refine v_aload_n (n := 72) dX10_set_71 rfl rfl rfl ?_
          refine v_getR (n := 75) f_X10_10 rfl L.s L.g0 dX10_set_72 rfl ?_
          refine v_getR (n := 78) f_X10_85 rfl L.c0.s L.c0.g0 dX10_set_75 rfl ?_
          refine v_getR (n := 81) f_X10_106 rfl L.c0.c0.s L.c0.c0.g2 dX10_set_78 rfl ?_
          refine v_iload_n (n := 82) dX10_set_81 rfl rfl rfl ?_
          refine v_iald (n := 83) (j := y) L.c0.c0.c2 (ix_nI hy10 (by decide)) dX10_set_82 rfl ?_
          refine v_istore (n := 85) (al' := [.ref x, .int (nI y), .int xb, .int xc, .int (I (((x + 1) + 1) + 3) y)]) dX10_set_83 rfl rfl rfl ?_
          refine v_aload_n (n := 86) dX10_set_85 rfl rfl rfl ?_
          refine v_getR (n := 89) f_X10_10 rfl L.s L.g0 dX10_set_86 rfl ?_
          refine v_getR (n := 92) f_X10_85 rfl L.c0.s L.c0.g0 dX10_set_89 rfl ?_
          refine v_getR (n := 95) f_X10_106 rfl L.c0.c0.s L.c0.c0.g2 dX10_set_92 rfl ?_
          refine v_iload_n (n := 96) dX10_set_95 rfl rfl rfl ?_
          refine v_iload_n (n := 97) dX10_set_96 rfl rfl rfl ?_
          refine v_iast (n := 98) (j := y) L.c0.c0.c2 (ix_nI hy10 (by decide)) dX10_set_97 rfl ?_
          refine v_iload (n := 100) dX10_set_98 rfl rfl ?_
          subst hq61
          exact v_qx rfl (set_2 hyd (bi_n0.mp hq68) hcy ey.2.2.1) (vn_ring (u := 2) (y := y) h (by omega) hW.2.2.2.2.1.2.1 hW.2.1 hW.2.2.2.1 hy10 (by decide)) (eq_v (by omega)) ⟨l8 rfl, l8 rfl⟩ dX10_set_100
    · refine v_iload_n (n := 23) dX10_set_22 rfl rfl rfl ?_
      refine v_cSi (n := 26) (x := (bi (inn xc 0 999))) mc_X10_isSnow l_X10_78 sta_X10_isSnow k_X10_isSnow ⟨rfl, rfl⟩ (l8 rfl) ⟨l8 rfl, l8 rfl⟩ rfl rfl (l8 rfl) dX10_set_23 rfl ?_
      refine v_if_eq (n := 29) (tgt := 59) dX10_set_26 (by decide) rfl (fun hq26 => ?_) (fun hq26 => ?_)
      · refine v_iload_n (n := 60) dX10_set_59 rfl rfl rfl ?_
        refine v_iconst (n := 61) (v := 2) dX10_set_60 c_2 rfl ?_
        refine v_icmp_ne (n := 64) (tgt := 101) dX10_set_61 (by decide) rfl (fun hq61 => ?_) (fun hq61 => ?_)
        · refine v_ldc (n := 103) k_X10_84 dX10_set_101 rfl ?_
          exact v_qx rfl (set_0 (by clear h hW; simp_all [bi_0, bi_n0]) (by clear h hW; simp_all [bi_0, bi_n0])) h Eqx.rf ⟨l8 rfl, l8 rfl⟩ dX10_set_103
        · refine v_iload_n (n := 65) dX10_set_64 rfl rfl rfl ?_
          refine v_cSi (n := 68) (x := (bi (inn xc 1 999))) mc_X10_isGate l_X10_81 sta_X10_isGate k_X10_isGate ⟨rfl, rfl⟩ (l8 rfl) ⟨l8 rfl, l8 rfl⟩ rfl rfl (l8 rfl) dX10_set_65 rfl ?_
          refine v_if_eq (n := 71) (tgt := 101) dX10_set_68 (by decide) rfl (fun hq68 => ?_) (fun hq68 => ?_)
          · refine v_ldc (n := 103) k_X10_84 dX10_set_101 rfl ?_
            exact v_qx rfl (set_0 (by clear h hW; simp_all [bi_0, bi_n0]) (by clear h hW; simp_all [bi_0, bi_n0])) h Eqx.rf ⟨l8 rfl, l8 rfl⟩ dX10_set_103
          · refine v_aload_n (n := 72) dX10_set_71 rfl rfl rfl ?_
            refine v_getR (n := 75) f_X10_10 rfl L.s L.g0 dX10_set_72 rfl ?_
            refine v_getR (n := 78) f_X10_85 rfl L.c0.s L.c0.g0 dX10_set_75 rfl ?_
            refine v_getR (n := 81) f_X10_106 rfl L.c0.c0.s L.c0.c0.g2 dX10_set_78 rfl ?_
            refine v_iload_n (n := 82) dX10_set_81 rfl rfl rfl ?_
            refine v_iald (n := 83) (j := y) L.c0.c0.c2 (ix_nI hy10 (by decide)) dX10_set_82 rfl ?_
            refine v_istore (n := 85) (al' := [.ref x, .int (nI y), .int xb, .int xc, .int (I (((x + 1) + 1) + 3) y)]) dX10_set_83 rfl rfl rfl ?_
            refine v_aload_n (n := 86) dX10_set_85 rfl rfl rfl ?_
            refine v_getR (n := 89) f_X10_10 rfl L.s L.g0 dX10_set_86 rfl ?_
            refine v_getR (n := 92) f_X10_85 rfl L.c0.s L.c0.g0 dX10_set_89 rfl ?_
            refine v_getR (n := 95) f_X10_106 rfl L.c0.c0.s L.c0.c0.g2 dX10_set_92 rfl ?_
            refine v_iload_n (n := 96) dX10_set_95 rfl rfl rfl ?_
            refine v_iload_n (n := 97) dX10_set_96 rfl rfl rfl ?_
            refine v_iast (n := 98) (j := y) L.c0.c0.c2 (ix_nI hy10 (by decide)) dX10_set_97 rfl ?_
            refine v_iload (n := 100) dX10_set_98 rfl rfl ?_
            subst hq61
            exact v_qx rfl (set_2 hyd (bi_n0.mp hq68) hcy ey.2.2.1) (vn_ring (u := 2) (y := y) h (by omega) hW.2.2.2.2.1.2.1 hW.2.1 hW.2.2.2.1 hy10 (by decide)) (eq_v (by omega)) ⟨l8 rfl, l8 rfl⟩ dX10_set_100
      · refine v_aload_n (n := 30) dX10_set_29 rfl rfl rfl ?_
        refine v_getR (n := 33) f_X10_10 rfl L.s L.g0 dX10_set_30 rfl ?_
        refine v_getR (n := 36) f_X10_85 rfl L.c0.s L.c0.g0 dX10_set_33 rfl ?_
        refine v_getR (n := 39) f_X10_103 rfl L.c0.c0.s L.c0.c0.g1 dX10_set_36 rfl ?_
        refine v_iload_n (n := 40) dX10_set_39 rfl rfl rfl ?_
        refine v_iald (n := 41) (j := y) L.c0.c0.c1 (ix_nI hy10 (by decide)) dX10_set_40 rfl ?_
        refine v_istore (n := 43) (al' := [.ref x, .int (nI y), .int xb, .int xc, .int (I (((x + 1) + 1) + 2) y)]) dX10_set_41 rfl rfl rfl ?_
        refine v_aload_n (n := 44) dX10_set_43 rfl rfl rfl ?_
        refine v_getR (n := 47) f_X10_10 rfl L.s L.g0 dX10_set_44 rfl ?_
        refine v_getR (n := 50) f_X10_85 rfl L.c0.s L.c0.g0 dX10_set_47 rfl ?_
        refine v_getR (n := 53) f_X10_103 rfl L.c0.c0.s L.c0.c0.g1 dX10_set_50 rfl ?_
        refine v_iload_n (n := 54) dX10_set_53 rfl rfl rfl ?_
        refine v_iload_n (n := 55) dX10_set_54 rfl rfl rfl ?_
        refine v_iast (n := 56) (j := y) L.c0.c0.c1 (ix_nI hy10 (by decide)) dX10_set_55 rfl ?_
        refine v_iload (n := 58) dX10_set_56 rfl rfl ?_
        subst hq19
        exact v_qx rfl (set_1 hyd (bi_n0.mp hq26) hcy ey.2.1) (vn_ring (u := 1) (y := y) h (by omega) hW.2.2.2.2.1.2.1 hW.2.1 hW.2.2.2.1 hy10 (by decide)) (eq_v (by omega)) ⟨l8 rfl, l8 rfl⟩ dX10_set_58
  · refine v_ldc (n := 16) k_X10_84 dX10_set_14 rfl ?_
    exact v_qx rfl (by clear h hW; simp_all [bi_0, bi_n0, setS]) h Eqx.rf ⟨l8 rfl, l8 rfl⟩ dX10_set_16

set_option maxRecDepth 100000 in
set_option maxHeartbeats 1000000 in
theorem c_X10_seed {ro : Ro} {S : St} {I : In} {xa : Int32} {x B T b : Nat} {X : Ar} {lw : Nat → Nat} (L : LayX S x) (h : VN S I (x + 1) B X T lw) (hW : WN X T b) (hB : x + 134 ≤ B) : Ok mX10_seed ro 0 0 0 [.ref x, .int xa] S I (QX S I x B T lw ((X 0, upd X 0 xa))) := by
  refine ok_of (al := [.ref x, .int xa, JJ]) (by decide) (l8 rfl) rfl ?_
  refine v_aload_n (n := 1) dX10_seed_0 rfl rfl rfl ?_
  refine v_getR (n := 4) f_X10_10 rfl L.s L.g0 dX10_seed_1 rfl ?_
  refine v_getI (n := 7) f_X10_148 rfl L.c0.s dX10_seed_4 rfl ?_
  rw [h.2.2.1.2.2.2.2.2]
  refine v_istore_n (n := 8) (al' := [.ref x, .int xa, .int (X 0)]) dX10_seed_7 rfl rfl rfl rfl ?_
  refine v_aload_n (n := 9) dX10_seed_8 rfl rfl rfl ?_
  refine v_getR (n := 12) f_X10_10 rfl L.s L.g0 dX10_seed_9 rfl ?_
  refine v_iload_n (n := 13) dX10_seed_12 rfl rfl rfl ?_
  refine v_putI (n := 16) f_X10_148 rfl (Or.inl rfl) L.c0.s dX10_seed_13 rfl ?_
  refine v_iload_n (n := 17) dX10_seed_16 rfl rfl rfl ?_
  exact v_qx rfl (by clear h hW; simp_all [bi_0, bi_n0]) (vn_fld (k := 8) (u := 0) h (by omega) hW.2.2.2.2.1.2.1 hW.2.1 hW.2.2.2.1 (by decide)) (eq_v (by omega)) ⟨l8 rfl, l8 rfl⟩ dX10_seed_17

theorem rule_k {X : Ar} {a v : Int32} {u : Nat} (ha : a = nI u) (hu : u < 2) (hv : inn v 0 99 = true) : ruleS X a v = (X (3 + u), upd X (3 + u) v) := by
  subst ha
  have : u = 0 ∨ u = 1 := by omega
  rcases this with rfl | rfl
  · rw [ruleS, if_pos (by rw [if_neg (by decide), if_neg (by decide), hv]; decide)]; rfl
  · rw [ruleS, if_pos (by rw [if_neg (by decide), if_neg (by decide), hv]; decide)]; rfl
theorem rule_2 {X : Ar} {a v : Int32} (ha : a = 2) (hv : inn v (-9) 9 = true) : ruleS X a v = (X 5, upd X 5 v) := by
  subst ha
  rw [ruleS, if_pos (by rw [if_pos rfl, if_pos rfl, hv]; decide)]; rfl
theorem rule_0 {X : Ar} {a v : Int32} (h0 : a = 0 → inn v 0 99 = false) (h1 : a = 1 → inn v 0 99 = false) (h2 : a = 2 → inn v (-9) 9 = false) : ruleS X a v = (-1000000001, X) := by
  rw [ruleS, if_neg]
  intro z
  simp only [Bool.and_eq_true] at z
  obtain ⟨z2, z3⟩ := z
  obtain ⟨u, u1, rfl⟩ := inn_get (a := 2) z2 (by decide)
  have : u = 0 ∨ u = 1 ∨ u = 2 := by omega
  rcases this with rfl | rfl | rfl
  · rw [if_neg (by decide), if_neg (by decide), h0 (by decide)] at z3; cases z3
  · rw [if_neg (by decide), if_neg (by decide), h1 (by decide)] at z3; cases z3
  · rw [if_pos (by decide), if_pos (by decide), h2 (by decide)] at z3; cases z3
set_option maxRecDepth 100000 in
set_option maxHeartbeats 1000000 in
theorem c_X10_rule {ro : Ro} {S : St} {I : In} {xa xb : Int32} {x B T b : Nat} {X : Ar} {lw : Nat → Nat} (L : LayX S x) (h : VN S I (x + 1) B X T lw) (hW : WN X T b) (hB : x + 134 ≤ B) : Ok mX10_rule ro 0 0 0 [.ref x, .int xa, .int xb] S I (QX S I x B T lw (ruleS X xa xb)) := by
  refine ok_of (al := [.ref x, .int xa, .int xb, JJ]) (by decide) (l8 rfl) rfl ?_
  refine v_iload_n (n := 1) dX10_rule_0 rfl rfl rfl ?_
  refine v_if_ne (n := 4) (tgt := 33) dX10_rule_1 (by decide) rfl (fun hq1 => ?_) (fun hq1 => ?_)
  · refine v_iload_n (n := 34) dX10_rule_33 rfl rfl rfl ?_
    refine v_iconst (n := 35) (v := 1) dX10_rule_34 c_1 rfl ?_
    refine v_icmp_ne (n := 38) (tgt := 67) dX10_rule_35 (by decide) rfl (fun hq35 => ?_) (fun hq35 => ?_)
    · refine v_iload_n (n := 68) dX10_rule_67 rfl rfl rfl ?_
      refine v_iconst (n := 69) (v := 2) dX10_rule_68 c_2 rfl ?_
      refine v_icmp_ne (n := 72) (tgt := 103) dX10_rule_69 (by decide) rfl (fun hq69 => ?_) (fun hq69 => ?_)
      · refine v_ldc (n := 105) k_X10_84 dX10_rule_103 rfl ?_
        refine v_istore_n (n := 106) (al' := [.ref x, .int xa, .int xb, .int (-1000000001)]) dX10_rule_105 rfl rfl rfl rfl ?_
        refine v_iload_n (n := 107) dX10_rule_106 rfl rfl rfl ?_
        exact v_qx rfl (rule_0 (fun e => absurd e hq1) (fun e => absurd e hq35) (fun e => absurd e hq69)) h Eqx.rf ⟨l8 rfl, l8 rfl⟩ dX10_rule_107
      · refine v_iload_n (n := 73) dX10_rule_72 rfl rfl rfl ?_
        refine v_bipush (n := 75) (v := (-9)) dX10_rule_73 b_m9 rfl ?_
        refine v_icmp_lt (n := 78) (tgt := 103) dX10_rule_75 (by decide) rfl (fun hq75 => ?_) (fun hq75 => ?_)
        · refine v_ldc (n := 105) k_X10_84 dX10_rule_103 rfl ?_
          refine v_istore_n (n := 106) (al' := [.ref x, .int xa, .int xb, .int (-1000000001)]) dX10_rule_105 rfl rfl rfl rfl ?_
          refine v_iload_n (n := 107) dX10_rule_106 rfl rfl rfl ?_
          exact v_qx rfl (rule_0 (fun e => absurd e hq1) (fun e => absurd e hq35) (fun e => by unfold inn; simp [hq75])) h Eqx.rf ⟨l8 rfl, l8 rfl⟩ dX10_rule_107
        · refine v_iload_n (n := 79) dX10_rule_78 rfl rfl rfl ?_
          refine v_bipush (n := 81) (v := 9) dX10_rule_79 b_9 rfl ?_
          refine v_icmp_gt (n := 84) (tgt := 103) dX10_rule_81 (by decide) rfl (fun hq81 => ?_) (fun hq81 => ?_)
          · refine v_ldc (n := 105) k_X10_84 dX10_rule_103 rfl ?_
            refine v_istore_n (n := 106) (al' := [.ref x, .int xa, .int xb, .int (-1000000001)]) dX10_rule_105 rfl rfl rfl rfl ?_
            refine v_iload_n (n := 107) dX10_rule_106 rfl rfl rfl ?_
            exact v_qx rfl (rule_0 (fun e => absurd e hq1) (fun e => absurd e hq35) (fun e => by unfold inn; simp [hq81])) h Eqx.rf ⟨l8 rfl, l8 rfl⟩ dX10_rule_107
          · refine v_aload_n (n := 85) dX10_rule_84 rfl rfl rfl ?_
            refine v_getR (n := 88) f_X10_10 rfl L.s L.g0 dX10_rule_85 rfl ?_
            refine v_getI (n := 91) f_X10_157 rfl L.c0.s dX10_rule_88 rfl ?_
            rw [h.2.2.1.2.2.2.2.1]
            refine v_istore_n (n := 92) (al' := [.ref x, .int xa, .int xb, .int (X 5)]) dX10_rule_91 rfl rfl rfl rfl ?_
            refine v_aload_n (n := 93) dX10_rule_92 rfl rfl rfl ?_
            refine v_getR (n := 96) f_X10_10 rfl L.s L.g0 dX10_rule_93 rfl ?_
            refine v_iload_n (n := 97) dX10_rule_96 rfl rfl rfl ?_
            refine v_putI (n := 100) f_X10_157 rfl (Or.inl rfl) L.c0.s dX10_rule_97 rfl ?_
            refine v_goto (tgt := 106) dX10_rule_100 (by decide) ?_
            refine v_iload_n (n := 107) dX10_rule_106 rfl rfl rfl ?_
            exact v_qx rfl (rule_2 hq69 (by unfold inn; simp [hq75, hq81])) (vn_fld (k := 7) (u := 5) h (by omega) hW.2.2.2.2.1.2.1 hW.2.1 hW.2.2.2.1 (by decide)) (eq_v (by omega)) ⟨l8 rfl, l8 rfl⟩ dX10_rule_107
    · refine v_iload_n (n := 39) dX10_rule_38 rfl rfl rfl ?_
      refine v_if_lt (n := 42) (tgt := 67) dX10_rule_39 (by decide) rfl (fun hq39 => ?_) (fun hq39 => ?_)
      · refine v_iload_n (n := 68) dX10_rule_67 rfl rfl rfl ?_
        refine v_iconst (n := 69) (v := 2) dX10_rule_68 c_2 rfl ?_
        refine v_icmp_ne (n := 72) (tgt := 103) dX10_rule_69 (by decide) rfl (fun hq69 => ?_) (fun hq69 => ?_)
        · refine v_ldc (n := 105) k_X10_84 dX10_rule_103 rfl ?_
          refine v_istore_n (n := 106) (al' := [.ref x, .int xa, .int xb, .int (-1000000001)]) dX10_rule_105 rfl rfl rfl rfl ?_
          refine v_iload_n (n := 107) dX10_rule_106 rfl rfl rfl ?_
          exact v_qx rfl (rule_0 (fun e => absurd e hq1) (fun e => by unfold inn; simp [hq39]) (fun e => absurd e hq69)) h Eqx.rf ⟨l8 rfl, l8 rfl⟩ dX10_rule_107
        · refine v_iload_n (n := 73) dX10_rule_72 rfl rfl rfl ?_
          refine v_bipush (n := 75) (v := (-9)) dX10_rule_73 b_m9 rfl ?_
          refine v_icmp_lt (n := 78) (tgt := 103) dX10_rule_75 (by decide) rfl (fun hq75 => ?_) (fun hq75 => ?_)
          · refine v_ldc (n := 105) k_X10_84 dX10_rule_103 rfl ?_
            refine v_istore_n (n := 106) (al' := [.ref x, .int xa, .int xb, .int (-1000000001)]) dX10_rule_105 rfl rfl rfl rfl ?_
            refine v_iload_n (n := 107) dX10_rule_106 rfl rfl rfl ?_
            exact v_qx rfl (rule_0 (fun e => absurd e hq1) (fun e => by unfold inn; simp [hq39]) (fun e => by unfold inn; simp [hq75])) h Eqx.rf ⟨l8 rfl, l8 rfl⟩ dX10_rule_107
          · refine v_iload_n (n := 79) dX10_rule_78 rfl rfl rfl ?_
            refine v_bipush (n := 81) (v := 9) dX10_rule_79 b_9 rfl ?_
            refine v_icmp_gt (n := 84) (tgt := 103) dX10_rule_81 (by decide) rfl (fun hq81 => ?_) (fun hq81 => ?_)
            · refine v_ldc (n := 105) k_X10_84 dX10_rule_103 rfl ?_
              refine v_istore_n (n := 106) (al' := [.ref x, .int xa, .int xb, .int (-1000000001)]) dX10_rule_105 rfl rfl rfl rfl ?_
              refine v_iload_n (n := 107) dX10_rule_106 rfl rfl rfl ?_
              exact v_qx rfl (rule_0 (fun e => absurd e hq1) (fun e => by unfold inn; simp [hq39]) (fun e => by unfold inn; simp [hq81])) h Eqx.rf ⟨l8 rfl, l8 rfl⟩ dX10_rule_107
            · refine v_aload_n (n := 85) dX10_rule_84 rfl rfl rfl ?_
              refine v_getR (n := 88) f_X10_10 rfl L.s L.g0 dX10_rule_85 rfl ?_
              refine v_getI (n := 91) f_X10_157 rfl L.c0.s dX10_rule_88 rfl ?_
              rw [h.2.2.1.2.2.2.2.1]
              refine v_istore_n (n := 92) (al' := [.ref x, .int xa, .int xb, .int (X 5)]) dX10_rule_91 rfl rfl rfl rfl ?_
              refine v_aload_n (n := 93) dX10_rule_92 rfl rfl rfl ?_
              refine v_getR (n := 96) f_X10_10 rfl L.s L.g0 dX10_rule_93 rfl ?_
              refine v_iload_n (n := 97) dX10_rule_96 rfl rfl rfl ?_
              refine v_putI (n := 100) f_X10_157 rfl (Or.inl rfl) L.c0.s dX10_rule_97 rfl ?_
              refine v_goto (tgt := 106) dX10_rule_100 (by decide) ?_
              refine v_iload_n (n := 107) dX10_rule_106 rfl rfl rfl ?_
              exact v_qx rfl (rule_2 hq69 (by unfold inn; simp [hq75, hq81])) (vn_fld (k := 7) (u := 5) h (by omega) hW.2.2.2.2.1.2.1 hW.2.1 hW.2.2.2.1 (by decide)) (eq_v (by omega)) ⟨l8 rfl, l8 rfl⟩ dX10_rule_107
      · refine v_iload_n (n := 43) dX10_rule_42 rfl rfl rfl ?_
        refine v_bipush (n := 45) (v := 99) dX10_rule_43 b_99 rfl ?_
        refine v_icmp_gt (n := 48) (tgt := 67) dX10_rule_45 (by decide) rfl (fun hq45 => ?_) (fun hq45 => ?_)
        · refine v_iload_n (n := 68) dX10_rule_67 rfl rfl rfl ?_
          refine v_iconst (n := 69) (v := 2) dX10_rule_68 c_2 rfl ?_
          refine v_icmp_ne (n := 72) (tgt := 103) dX10_rule_69 (by decide) rfl (fun hq69 => ?_) (fun hq69 => ?_)
          · refine v_ldc (n := 105) k_X10_84 dX10_rule_103 rfl ?_
            refine v_istore_n (n := 106) (al' := [.ref x, .int xa, .int xb, .int (-1000000001)]) dX10_rule_105 rfl rfl rfl rfl ?_
            refine v_iload_n (n := 107) dX10_rule_106 rfl rfl rfl ?_
            exact v_qx rfl (rule_0 (fun e => absurd e hq1) (fun e => by unfold inn; simp [hq45]) (fun e => absurd e hq69)) h Eqx.rf ⟨l8 rfl, l8 rfl⟩ dX10_rule_107
          · refine v_iload_n (n := 73) dX10_rule_72 rfl rfl rfl ?_
            refine v_bipush (n := 75) (v := (-9)) dX10_rule_73 b_m9 rfl ?_
            refine v_icmp_lt (n := 78) (tgt := 103) dX10_rule_75 (by decide) rfl (fun hq75 => ?_) (fun hq75 => ?_)
            · refine v_ldc (n := 105) k_X10_84 dX10_rule_103 rfl ?_
              refine v_istore_n (n := 106) (al' := [.ref x, .int xa, .int xb, .int (-1000000001)]) dX10_rule_105 rfl rfl rfl rfl ?_
              refine v_iload_n (n := 107) dX10_rule_106 rfl rfl rfl ?_
              exact v_qx rfl (rule_0 (fun e => absurd e hq1) (fun e => by unfold inn; simp [hq45]) (fun e => by unfold inn; simp [hq75])) h Eqx.rf ⟨l8 rfl, l8 rfl⟩ dX10_rule_107
            · refine v_iload_n (n := 79) dX10_rule_78 rfl rfl rfl ?_
              refine v_bipush (n := 81) (v := 9) dX10_rule_79 b_9 rfl ?_
              refine v_icmp_gt (n := 84) (tgt := 103) dX10_rule_81 (by decide) rfl (fun hq81 => ?_) (fun hq81 => ?_)
              · refine v_ldc (n := 105) k_X10_84 dX10_rule_103 rfl ?_
                refine v_istore_n (n := 106) (al' := [.ref x, .int xa, .int xb, .int (-1000000001)]) dX10_rule_105 rfl rfl rfl rfl ?_
                refine v_iload_n (n := 107) dX10_rule_106 rfl rfl rfl ?_
                exact v_qx rfl (rule_0 (fun e => absurd e hq1) (fun e => by unfold inn; simp [hq45]) (fun e => by unfold inn; simp [hq81])) h Eqx.rf ⟨l8 rfl, l8 rfl⟩ dX10_rule_107
              · refine v_aload_n (n := 85) dX10_rule_84 rfl rfl rfl ?_
                refine v_getR (n := 88) f_X10_10 rfl L.s L.g0 dX10_rule_85 rfl ?_
                refine v_getI (n := 91) f_X10_157 rfl L.c0.s dX10_rule_88 rfl ?_
                rw [h.2.2.1.2.2.2.2.1]
                refine v_istore_n (n := 92) (al' := [.ref x, .int xa, .int xb, .int (X 5)]) dX10_rule_91 rfl rfl rfl rfl ?_
                refine v_aload_n (n := 93) dX10_rule_92 rfl rfl rfl ?_
                refine v_getR (n := 96) f_X10_10 rfl L.s L.g0 dX10_rule_93 rfl ?_
                refine v_iload_n (n := 97) dX10_rule_96 rfl rfl rfl ?_
                refine v_putI (n := 100) f_X10_157 rfl (Or.inl rfl) L.c0.s dX10_rule_97 rfl ?_
                refine v_goto (tgt := 106) dX10_rule_100 (by decide) ?_
                refine v_iload_n (n := 107) dX10_rule_106 rfl rfl rfl ?_
                exact v_qx rfl (rule_2 hq69 (by unfold inn; simp [hq75, hq81])) (vn_fld (k := 7) (u := 5) h (by omega) hW.2.2.2.2.1.2.1 hW.2.1 hW.2.2.2.1 (by decide)) (eq_v (by omega)) ⟨l8 rfl, l8 rfl⟩ dX10_rule_107
        · refine v_aload_n (n := 49) dX10_rule_48 rfl rfl rfl ?_
          refine v_getR (n := 52) f_X10_10 rfl L.s L.g0 dX10_rule_49 rfl ?_
          refine v_getI (n := 55) f_X10_154 rfl L.c0.s dX10_rule_52 rfl ?_
          rw [h.2.2.1.2.2.2.1]
          refine v_istore_n (n := 56) (al' := [.ref x, .int xa, .int xb, .int (X 4)]) dX10_rule_55 rfl rfl rfl rfl ?_
          refine v_aload_n (n := 57) dX10_rule_56 rfl rfl rfl ?_
          refine v_getR (n := 60) f_X10_10 rfl L.s L.g0 dX10_rule_57 rfl ?_
          refine v_iload_n (n := 61) dX10_rule_60 rfl rfl rfl ?_
          refine v_putI (n := 64) f_X10_154 rfl (Or.inl rfl) L.c0.s dX10_rule_61 rfl ?_
          refine v_goto (tgt := 106) dX10_rule_64 (by decide) ?_
          refine v_iload_n (n := 107) dX10_rule_106 rfl rfl rfl ?_
          exact v_qx rfl (rule_k (u := 1) hq35 (by decide) (by unfold inn; simp [hq39, hq45])) (vn_fld (k := 6) (u := 4) h (by omega) hW.2.2.2.2.1.2.1 hW.2.1 hW.2.2.2.1 (by decide)) (eq_v (by omega)) ⟨l8 rfl, l8 rfl⟩ dX10_rule_107
  · refine v_iload_n (n := 5) dX10_rule_4 rfl rfl rfl ?_
    refine v_if_lt (n := 8) (tgt := 33) dX10_rule_5 (by decide) rfl (fun hq5 => ?_) (fun hq5 => ?_)
    · refine v_iload_n (n := 34) dX10_rule_33 rfl rfl rfl ?_
      refine v_iconst (n := 35) (v := 1) dX10_rule_34 c_1 rfl ?_
      refine v_icmp_ne (n := 38) (tgt := 67) dX10_rule_35 (by decide) rfl (fun hq35 => ?_) (fun hq35 => ?_)
      · refine v_iload_n (n := 68) dX10_rule_67 rfl rfl rfl ?_
        refine v_iconst (n := 69) (v := 2) dX10_rule_68 c_2 rfl ?_
        refine v_icmp_ne (n := 72) (tgt := 103) dX10_rule_69 (by decide) rfl (fun hq69 => ?_) (fun hq69 => ?_)
        · refine v_ldc (n := 105) k_X10_84 dX10_rule_103 rfl ?_
          refine v_istore_n (n := 106) (al' := [.ref x, .int xa, .int xb, .int (-1000000001)]) dX10_rule_105 rfl rfl rfl rfl ?_
          refine v_iload_n (n := 107) dX10_rule_106 rfl rfl rfl ?_
          exact v_qx rfl (rule_0 (fun e => by unfold inn; simp [hq5]) (fun e => absurd e hq35) (fun e => absurd e hq69)) h Eqx.rf ⟨l8 rfl, l8 rfl⟩ dX10_rule_107
        · refine v_iload_n (n := 73) dX10_rule_72 rfl rfl rfl ?_
          refine v_bipush (n := 75) (v := (-9)) dX10_rule_73 b_m9 rfl ?_
          refine v_icmp_lt (n := 78) (tgt := 103) dX10_rule_75 (by decide) rfl (fun hq75 => ?_) (fun hq75 => ?_)
          · refine v_ldc (n := 105) k_X10_84 dX10_rule_103 rfl ?_
            refine v_istore_n (n := 106) (al' := [.ref x, .int xa, .int xb, .int (-1000000001)]) dX10_rule_105 rfl rfl rfl rfl ?_
            refine v_iload_n (n := 107) dX10_rule_106 rfl rfl rfl ?_
            exact v_qx rfl (rule_0 (fun e => by unfold inn; simp [hq5]) (fun e => absurd e hq35) (fun e => by unfold inn; simp [hq75])) h Eqx.rf ⟨l8 rfl, l8 rfl⟩ dX10_rule_107
          · refine v_iload_n (n := 79) dX10_rule_78 rfl rfl rfl ?_
            refine v_bipush (n := 81) (v := 9) dX10_rule_79 b_9 rfl ?_
            refine v_icmp_gt (n := 84) (tgt := 103) dX10_rule_81 (by decide) rfl (fun hq81 => ?_) (fun hq81 => ?_)
            · refine v_ldc (n := 105) k_X10_84 dX10_rule_103 rfl ?_
              refine v_istore_n (n := 106) (al' := [.ref x, .int xa, .int xb, .int (-1000000001)]) dX10_rule_105 rfl rfl rfl rfl ?_
              refine v_iload_n (n := 107) dX10_rule_106 rfl rfl rfl ?_
              exact v_qx rfl (rule_0 (fun e => by unfold inn; simp [hq5]) (fun e => absurd e hq35) (fun e => by unfold inn; simp [hq81])) h Eqx.rf ⟨l8 rfl, l8 rfl⟩ dX10_rule_107
            · refine v_aload_n (n := 85) dX10_rule_84 rfl rfl rfl ?_
              refine v_getR (n := 88) f_X10_10 rfl L.s L.g0 dX10_rule_85 rfl ?_
              refine v_getI (n := 91) f_X10_157 rfl L.c0.s dX10_rule_88 rfl ?_
              rw [h.2.2.1.2.2.2.2.1]
              refine v_istore_n (n := 92) (al' := [.ref x, .int xa, .int xb, .int (X 5)]) dX10_rule_91 rfl rfl rfl rfl ?_
              refine v_aload_n (n := 93) dX10_rule_92 rfl rfl rfl ?_
              refine v_getR (n := 96) f_X10_10 rfl L.s L.g0 dX10_rule_93 rfl ?_
              refine v_iload_n (n := 97) dX10_rule_96 rfl rfl rfl ?_
              refine v_putI (n := 100) f_X10_157 rfl (Or.inl rfl) L.c0.s dX10_rule_97 rfl ?_
              refine v_goto (tgt := 106) dX10_rule_100 (by decide) ?_
              refine v_iload_n (n := 107) dX10_rule_106 rfl rfl rfl ?_
              exact v_qx rfl (rule_2 hq69 (by unfold inn; simp [hq75, hq81])) (vn_fld (k := 7) (u := 5) h (by omega) hW.2.2.2.2.1.2.1 hW.2.1 hW.2.2.2.1 (by decide)) (eq_v (by omega)) ⟨l8 rfl, l8 rfl⟩ dX10_rule_107
      · refine v_iload_n (n := 39) dX10_rule_38 rfl rfl rfl ?_
        refine v_if_lt (n := 42) (tgt := 67) dX10_rule_39 (by decide) rfl (fun hq39 => ?_) (fun hq39 => ?_)
        · refine v_iload_n (n := 68) dX10_rule_67 rfl rfl rfl ?_
          refine v_iconst (n := 69) (v := 2) dX10_rule_68 c_2 rfl ?_
          refine v_icmp_ne (n := 72) (tgt := 103) dX10_rule_69 (by decide) rfl (fun hq69 => ?_) (fun hq69 => ?_)
          · refine v_ldc (n := 105) k_X10_84 dX10_rule_103 rfl ?_
            refine v_istore_n (n := 106) (al' := [.ref x, .int xa, .int xb, .int (-1000000001)]) dX10_rule_105 rfl rfl rfl rfl ?_
            refine v_iload_n (n := 107) dX10_rule_106 rfl rfl rfl ?_
            exact v_qx rfl (rule_0 (fun e => by unfold inn; simp [hq5]) (fun e => by unfold inn; simp [hq39]) (fun e => absurd e hq69)) h Eqx.rf ⟨l8 rfl, l8 rfl⟩ dX10_rule_107
          · refine v_iload_n (n := 73) dX10_rule_72 rfl rfl rfl ?_
            refine v_bipush (n := 75) (v := (-9)) dX10_rule_73 b_m9 rfl ?_
            refine v_icmp_lt (n := 78) (tgt := 103) dX10_rule_75 (by decide) rfl (fun hq75 => ?_) (fun hq75 => ?_)
            · refine v_ldc (n := 105) k_X10_84 dX10_rule_103 rfl ?_
              refine v_istore_n (n := 106) (al' := [.ref x, .int xa, .int xb, .int (-1000000001)]) dX10_rule_105 rfl rfl rfl rfl ?_
              refine v_iload_n (n := 107) dX10_rule_106 rfl rfl rfl ?_
              exact v_qx rfl (rule_0 (fun e => by unfold inn; simp [hq5]) (fun e => by unfold inn; simp [hq39]) (fun e => by unfold inn; simp [hq75])) h Eqx.rf ⟨l8 rfl, l8 rfl⟩ dX10_rule_107
            · refine v_iload_n (n := 79) dX10_rule_78 rfl rfl rfl ?_
              refine v_bipush (n := 81) (v := 9) dX10_rule_79 b_9 rfl ?_
              refine v_icmp_gt (n := 84) (tgt := 103) dX10_rule_81 (by decide) rfl (fun hq81 => ?_) (fun hq81 => ?_)
              · refine v_ldc (n := 105) k_X10_84 dX10_rule_103 rfl ?_
                refine v_istore_n (n := 106) (al' := [.ref x, .int xa, .int xb, .int (-1000000001)]) dX10_rule_105 rfl rfl rfl rfl ?_
                refine v_iload_n (n := 107) dX10_rule_106 rfl rfl rfl ?_
                exact v_qx rfl (rule_0 (fun e => by unfold inn; simp [hq5]) (fun e => by unfold inn; simp [hq39]) (fun e => by unfold inn; simp [hq81])) h Eqx.rf ⟨l8 rfl, l8 rfl⟩ dX10_rule_107
              · refine v_aload_n (n := 85) dX10_rule_84 rfl rfl rfl ?_
                refine v_getR (n := 88) f_X10_10 rfl L.s L.g0 dX10_rule_85 rfl ?_
                refine v_getI (n := 91) f_X10_157 rfl L.c0.s dX10_rule_88 rfl ?_
                rw [h.2.2.1.2.2.2.2.1]
                refine v_istore_n (n := 92) (al' := [.ref x, .int xa, .int xb, .int (X 5)]) dX10_rule_91 rfl rfl rfl rfl ?_
                refine v_aload_n (n := 93) dX10_rule_92 rfl rfl rfl ?_
                refine v_getR (n := 96) f_X10_10 rfl L.s L.g0 dX10_rule_93 rfl ?_
                refine v_iload_n (n := 97) dX10_rule_96 rfl rfl rfl ?_
                refine v_putI (n := 100) f_X10_157 rfl (Or.inl rfl) L.c0.s dX10_rule_97 rfl ?_
                refine v_goto (tgt := 106) dX10_rule_100 (by decide) ?_
                refine v_iload_n (n := 107) dX10_rule_106 rfl rfl rfl ?_
                exact v_qx rfl (rule_2 hq69 (by unfold inn; simp [hq75, hq81])) (vn_fld (k := 7) (u := 5) h (by omega) hW.2.2.2.2.1.2.1 hW.2.1 hW.2.2.2.1 (by decide)) (eq_v (by omega)) ⟨l8 rfl, l8 rfl⟩ dX10_rule_107
        · refine v_iload_n (n := 43) dX10_rule_42 rfl rfl rfl ?_
          refine v_bipush (n := 45) (v := 99) dX10_rule_43 b_99 rfl ?_
          refine v_icmp_gt (n := 48) (tgt := 67) dX10_rule_45 (by decide) rfl (fun hq45 => ?_) (fun hq45 => ?_)
          · refine v_iload_n (n := 68) dX10_rule_67 rfl rfl rfl ?_
            refine v_iconst (n := 69) (v := 2) dX10_rule_68 c_2 rfl ?_
            refine v_icmp_ne (n := 72) (tgt := 103) dX10_rule_69 (by decide) rfl (fun hq69 => ?_) (fun hq69 => ?_)
            · refine v_ldc (n := 105) k_X10_84 dX10_rule_103 rfl ?_
              refine v_istore_n (n := 106) (al' := [.ref x, .int xa, .int xb, .int (-1000000001)]) dX10_rule_105 rfl rfl rfl rfl ?_
              refine v_iload_n (n := 107) dX10_rule_106 rfl rfl rfl ?_
              exact v_qx rfl (rule_0 (fun e => by unfold inn; simp [hq5]) (fun e => by unfold inn; simp [hq45]) (fun e => absurd e hq69)) h Eqx.rf ⟨l8 rfl, l8 rfl⟩ dX10_rule_107
            · refine v_iload_n (n := 73) dX10_rule_72 rfl rfl rfl ?_
              refine v_bipush (n := 75) (v := (-9)) dX10_rule_73 b_m9 rfl ?_
              refine v_icmp_lt (n := 78) (tgt := 103) dX10_rule_75 (by decide) rfl (fun hq75 => ?_) (fun hq75 => ?_)
              · refine v_ldc (n := 105) k_X10_84 dX10_rule_103 rfl ?_
                refine v_istore_n (n := 106) (al' := [.ref x, .int xa, .int xb, .int (-1000000001)]) dX10_rule_105 rfl rfl rfl rfl ?_
                refine v_iload_n (n := 107) dX10_rule_106 rfl rfl rfl ?_
                exact v_qx rfl (rule_0 (fun e => by unfold inn; simp [hq5]) (fun e => by unfold inn; simp [hq45]) (fun e => by unfold inn; simp [hq75])) h Eqx.rf ⟨l8 rfl, l8 rfl⟩ dX10_rule_107
              · refine v_iload_n (n := 79) dX10_rule_78 rfl rfl rfl ?_
                refine v_bipush (n := 81) (v := 9) dX10_rule_79 b_9 rfl ?_
                refine v_icmp_gt (n := 84) (tgt := 103) dX10_rule_81 (by decide) rfl (fun hq81 => ?_) (fun hq81 => ?_)
                · refine v_ldc (n := 105) k_X10_84 dX10_rule_103 rfl ?_
                  refine v_istore_n (n := 106) (al' := [.ref x, .int xa, .int xb, .int (-1000000001)]) dX10_rule_105 rfl rfl rfl rfl ?_
                  refine v_iload_n (n := 107) dX10_rule_106 rfl rfl rfl ?_
                  exact v_qx rfl (rule_0 (fun e => by unfold inn; simp [hq5]) (fun e => by unfold inn; simp [hq45]) (fun e => by unfold inn; simp [hq81])) h Eqx.rf ⟨l8 rfl, l8 rfl⟩ dX10_rule_107
                · refine v_aload_n (n := 85) dX10_rule_84 rfl rfl rfl ?_
                  refine v_getR (n := 88) f_X10_10 rfl L.s L.g0 dX10_rule_85 rfl ?_
                  refine v_getI (n := 91) f_X10_157 rfl L.c0.s dX10_rule_88 rfl ?_
                  rw [h.2.2.1.2.2.2.2.1]
                  refine v_istore_n (n := 92) (al' := [.ref x, .int xa, .int xb, .int (X 5)]) dX10_rule_91 rfl rfl rfl rfl ?_
                  refine v_aload_n (n := 93) dX10_rule_92 rfl rfl rfl ?_
                  refine v_getR (n := 96) f_X10_10 rfl L.s L.g0 dX10_rule_93 rfl ?_
                  refine v_iload_n (n := 97) dX10_rule_96 rfl rfl rfl ?_
                  refine v_putI (n := 100) f_X10_157 rfl (Or.inl rfl) L.c0.s dX10_rule_97 rfl ?_
                  refine v_goto (tgt := 106) dX10_rule_100 (by decide) ?_
                  refine v_iload_n (n := 107) dX10_rule_106 rfl rfl rfl ?_
                  exact v_qx rfl (rule_2 hq69 (by unfold inn; simp [hq75, hq81])) (vn_fld (k := 7) (u := 5) h (by omega) hW.2.2.2.2.1.2.1 hW.2.1 hW.2.2.2.1 (by decide)) (eq_v (by omega)) ⟨l8 rfl, l8 rfl⟩ dX10_rule_107
          · refine v_aload_n (n := 49) dX10_rule_48 rfl rfl rfl ?_
            refine v_getR (n := 52) f_X10_10 rfl L.s L.g0 dX10_rule_49 rfl ?_
            refine v_getI (n := 55) f_X10_154 rfl L.c0.s dX10_rule_52 rfl ?_
            rw [h.2.2.1.2.2.2.1]
            refine v_istore_n (n := 56) (al' := [.ref x, .int xa, .int xb, .int (X 4)]) dX10_rule_55 rfl rfl rfl rfl ?_
            refine v_aload_n (n := 57) dX10_rule_56 rfl rfl rfl ?_
            refine v_getR (n := 60) f_X10_10 rfl L.s L.g0 dX10_rule_57 rfl ?_
            refine v_iload_n (n := 61) dX10_rule_60 rfl rfl rfl ?_
            refine v_putI (n := 64) f_X10_154 rfl (Or.inl rfl) L.c0.s dX10_rule_61 rfl ?_
            refine v_goto (tgt := 106) dX10_rule_64 (by decide) ?_
            refine v_iload_n (n := 107) dX10_rule_106 rfl rfl rfl ?_
            exact v_qx rfl (rule_k (u := 1) hq35 (by decide) (by unfold inn; simp [hq39, hq45])) (vn_fld (k := 6) (u := 4) h (by omega) hW.2.2.2.2.1.2.1 hW.2.1 hW.2.2.2.1 (by decide)) (eq_v (by omega)) ⟨l8 rfl, l8 rfl⟩ dX10_rule_107
    · refine v_iload_n (n := 9) dX10_rule_8 rfl rfl rfl ?_
      refine v_bipush (n := 11) (v := 99) dX10_rule_9 b_99 rfl ?_
      refine v_icmp_gt (n := 14) (tgt := 33) dX10_rule_11 (by decide) rfl (fun hq11 => ?_) (fun hq11 => ?_)
      · refine v_iload_n (n := 34) dX10_rule_33 rfl rfl rfl ?_
        refine v_iconst (n := 35) (v := 1) dX10_rule_34 c_1 rfl ?_
        refine v_icmp_ne (n := 38) (tgt := 67) dX10_rule_35 (by decide) rfl (fun hq35 => ?_) (fun hq35 => ?_)
        · refine v_iload_n (n := 68) dX10_rule_67 rfl rfl rfl ?_
          refine v_iconst (n := 69) (v := 2) dX10_rule_68 c_2 rfl ?_
          refine v_icmp_ne (n := 72) (tgt := 103) dX10_rule_69 (by decide) rfl (fun hq69 => ?_) (fun hq69 => ?_)
          · refine v_ldc (n := 105) k_X10_84 dX10_rule_103 rfl ?_
            refine v_istore_n (n := 106) (al' := [.ref x, .int xa, .int xb, .int (-1000000001)]) dX10_rule_105 rfl rfl rfl rfl ?_
            refine v_iload_n (n := 107) dX10_rule_106 rfl rfl rfl ?_
            exact v_qx rfl (rule_0 (fun e => by unfold inn; simp [hq11]) (fun e => absurd e hq35) (fun e => absurd e hq69)) h Eqx.rf ⟨l8 rfl, l8 rfl⟩ dX10_rule_107
          · refine v_iload_n (n := 73) dX10_rule_72 rfl rfl rfl ?_
            refine v_bipush (n := 75) (v := (-9)) dX10_rule_73 b_m9 rfl ?_
            refine v_icmp_lt (n := 78) (tgt := 103) dX10_rule_75 (by decide) rfl (fun hq75 => ?_) (fun hq75 => ?_)
            · refine v_ldc (n := 105) k_X10_84 dX10_rule_103 rfl ?_
              refine v_istore_n (n := 106) (al' := [.ref x, .int xa, .int xb, .int (-1000000001)]) dX10_rule_105 rfl rfl rfl rfl ?_
              refine v_iload_n (n := 107) dX10_rule_106 rfl rfl rfl ?_
              exact v_qx rfl (rule_0 (fun e => by unfold inn; simp [hq11]) (fun e => absurd e hq35) (fun e => by unfold inn; simp [hq75])) h Eqx.rf ⟨l8 rfl, l8 rfl⟩ dX10_rule_107
            · refine v_iload_n (n := 79) dX10_rule_78 rfl rfl rfl ?_
              refine v_bipush (n := 81) (v := 9) dX10_rule_79 b_9 rfl ?_
              refine v_icmp_gt (n := 84) (tgt := 103) dX10_rule_81 (by decide) rfl (fun hq81 => ?_) (fun hq81 => ?_)
              · refine v_ldc (n := 105) k_X10_84 dX10_rule_103 rfl ?_
                refine v_istore_n (n := 106) (al' := [.ref x, .int xa, .int xb, .int (-1000000001)]) dX10_rule_105 rfl rfl rfl rfl ?_
                refine v_iload_n (n := 107) dX10_rule_106 rfl rfl rfl ?_
                exact v_qx rfl (rule_0 (fun e => by unfold inn; simp [hq11]) (fun e => absurd e hq35) (fun e => by unfold inn; simp [hq81])) h Eqx.rf ⟨l8 rfl, l8 rfl⟩ dX10_rule_107
              · refine v_aload_n (n := 85) dX10_rule_84 rfl rfl rfl ?_
                refine v_getR (n := 88) f_X10_10 rfl L.s L.g0 dX10_rule_85 rfl ?_
                refine v_getI (n := 91) f_X10_157 rfl L.c0.s dX10_rule_88 rfl ?_
                rw [h.2.2.1.2.2.2.2.1]
                refine v_istore_n (n := 92) (al' := [.ref x, .int xa, .int xb, .int (X 5)]) dX10_rule_91 rfl rfl rfl rfl ?_
                refine v_aload_n (n := 93) dX10_rule_92 rfl rfl rfl ?_
                refine v_getR (n := 96) f_X10_10 rfl L.s L.g0 dX10_rule_93 rfl ?_
                refine v_iload_n (n := 97) dX10_rule_96 rfl rfl rfl ?_
                refine v_putI (n := 100) f_X10_157 rfl (Or.inl rfl) L.c0.s dX10_rule_97 rfl ?_
                refine v_goto (tgt := 106) dX10_rule_100 (by decide) ?_
                refine v_iload_n (n := 107) dX10_rule_106 rfl rfl rfl ?_
                exact v_qx rfl (rule_2 hq69 (by unfold inn; simp [hq75, hq81])) (vn_fld (k := 7) (u := 5) h (by omega) hW.2.2.2.2.1.2.1 hW.2.1 hW.2.2.2.1 (by decide)) (eq_v (by omega)) ⟨l8 rfl, l8 rfl⟩ dX10_rule_107
        · refine v_iload_n (n := 39) dX10_rule_38 rfl rfl rfl ?_
          refine v_if_lt (n := 42) (tgt := 67) dX10_rule_39 (by decide) rfl (fun hq39 => ?_) (fun hq39 => ?_)
          · refine v_iload_n (n := 68) dX10_rule_67 rfl rfl rfl ?_
            refine v_iconst (n := 69) (v := 2) dX10_rule_68 c_2 rfl ?_
            refine v_icmp_ne (n := 72) (tgt := 103) dX10_rule_69 (by decide) rfl (fun hq69 => ?_) (fun hq69 => ?_)
            · refine v_ldc (n := 105) k_X10_84 dX10_rule_103 rfl ?_
              refine v_istore_n (n := 106) (al' := [.ref x, .int xa, .int xb, .int (-1000000001)]) dX10_rule_105 rfl rfl rfl rfl ?_
              refine v_iload_n (n := 107) dX10_rule_106 rfl rfl rfl ?_
              exact v_qx rfl (rule_0 (fun e => by unfold inn; simp [hq11]) (fun e => by unfold inn; simp [hq39]) (fun e => absurd e hq69)) h Eqx.rf ⟨l8 rfl, l8 rfl⟩ dX10_rule_107
            · refine v_iload_n (n := 73) dX10_rule_72 rfl rfl rfl ?_
              refine v_bipush (n := 75) (v := (-9)) dX10_rule_73 b_m9 rfl ?_
              refine v_icmp_lt (n := 78) (tgt := 103) dX10_rule_75 (by decide) rfl (fun hq75 => ?_) (fun hq75 => ?_)
              · refine v_ldc (n := 105) k_X10_84 dX10_rule_103 rfl ?_
                refine v_istore_n (n := 106) (al' := [.ref x, .int xa, .int xb, .int (-1000000001)]) dX10_rule_105 rfl rfl rfl rfl ?_
                refine v_iload_n (n := 107) dX10_rule_106 rfl rfl rfl ?_
                exact v_qx rfl (rule_0 (fun e => by unfold inn; simp [hq11]) (fun e => by unfold inn; simp [hq39]) (fun e => by unfold inn; simp [hq75])) h Eqx.rf ⟨l8 rfl, l8 rfl⟩ dX10_rule_107
              · refine v_iload_n (n := 79) dX10_rule_78 rfl rfl rfl ?_
                refine v_bipush (n := 81) (v := 9) dX10_rule_79 b_9 rfl ?_
                refine v_icmp_gt (n := 84) (tgt := 103) dX10_rule_81 (by decide) rfl (fun hq81 => ?_) (fun hq81 => ?_)
                · refine v_ldc (n := 105) k_X10_84 dX10_rule_103 rfl ?_
                  refine v_istore_n (n := 106) (al' := [.ref x, .int xa, .int xb, .int (-1000000001)]) dX10_rule_105 rfl rfl rfl rfl ?_
                  refine v_iload_n (n := 107) dX10_rule_106 rfl rfl rfl ?_
                  exact v_qx rfl (rule_0 (fun e => by unfold inn; simp [hq11]) (fun e => by unfold inn; simp [hq39]) (fun e => by unfold inn; simp [hq81])) h Eqx.rf ⟨l8 rfl, l8 rfl⟩ dX10_rule_107
                · refine v_aload_n (n := 85) dX10_rule_84 rfl rfl rfl ?_
                  refine v_getR (n := 88) f_X10_10 rfl L.s L.g0 dX10_rule_85 rfl ?_
                  refine v_getI (n := 91) f_X10_157 rfl L.c0.s dX10_rule_88 rfl ?_
                  rw [h.2.2.1.2.2.2.2.1]
                  refine v_istore_n (n := 92) (al' := [.ref x, .int xa, .int xb, .int (X 5)]) dX10_rule_91 rfl rfl rfl rfl ?_
                  refine v_aload_n (n := 93) dX10_rule_92 rfl rfl rfl ?_
                  refine v_getR (n := 96) f_X10_10 rfl L.s L.g0 dX10_rule_93 rfl ?_
                  refine v_iload_n (n := 97) dX10_rule_96 rfl rfl rfl ?_
                  refine v_putI (n := 100) f_X10_157 rfl (Or.inl rfl) L.c0.s dX10_rule_97 rfl ?_
                  refine v_goto (tgt := 106) dX10_rule_100 (by decide) ?_
                  refine v_iload_n (n := 107) dX10_rule_106 rfl rfl rfl ?_
                  exact v_qx rfl (rule_2 hq69 (by unfold inn; simp [hq75, hq81])) (vn_fld (k := 7) (u := 5) h (by omega) hW.2.2.2.2.1.2.1 hW.2.1 hW.2.2.2.1 (by decide)) (eq_v (by omega)) ⟨l8 rfl, l8 rfl⟩ dX10_rule_107
          · refine v_iload_n (n := 43) dX10_rule_42 rfl rfl rfl ?_
            refine v_bipush (n := 45) (v := 99) dX10_rule_43 b_99 rfl ?_
            refine v_icmp_gt (n := 48) (tgt := 67) dX10_rule_45 (by decide) rfl (fun hq45 => ?_) (fun hq45 => ?_)
            · refine v_iload_n (n := 68) dX10_rule_67 rfl rfl rfl ?_
              refine v_iconst (n := 69) (v := 2) dX10_rule_68 c_2 rfl ?_
              refine v_icmp_ne (n := 72) (tgt := 103) dX10_rule_69 (by decide) rfl (fun hq69 => ?_) (fun hq69 => ?_)
              · refine v_ldc (n := 105) k_X10_84 dX10_rule_103 rfl ?_
                refine v_istore_n (n := 106) (al' := [.ref x, .int xa, .int xb, .int (-1000000001)]) dX10_rule_105 rfl rfl rfl rfl ?_
                refine v_iload_n (n := 107) dX10_rule_106 rfl rfl rfl ?_
                exact v_qx rfl (rule_0 (fun e => by unfold inn; simp [hq11]) (fun e => by unfold inn; simp [hq45]) (fun e => absurd e hq69)) h Eqx.rf ⟨l8 rfl, l8 rfl⟩ dX10_rule_107
              · refine v_iload_n (n := 73) dX10_rule_72 rfl rfl rfl ?_
                refine v_bipush (n := 75) (v := (-9)) dX10_rule_73 b_m9 rfl ?_
                refine v_icmp_lt (n := 78) (tgt := 103) dX10_rule_75 (by decide) rfl (fun hq75 => ?_) (fun hq75 => ?_)
                · refine v_ldc (n := 105) k_X10_84 dX10_rule_103 rfl ?_
                  refine v_istore_n (n := 106) (al' := [.ref x, .int xa, .int xb, .int (-1000000001)]) dX10_rule_105 rfl rfl rfl rfl ?_
                  refine v_iload_n (n := 107) dX10_rule_106 rfl rfl rfl ?_
                  exact v_qx rfl (rule_0 (fun e => by unfold inn; simp [hq11]) (fun e => by unfold inn; simp [hq45]) (fun e => by unfold inn; simp [hq75])) h Eqx.rf ⟨l8 rfl, l8 rfl⟩ dX10_rule_107
                · refine v_iload_n (n := 79) dX10_rule_78 rfl rfl rfl ?_
                  refine v_bipush (n := 81) (v := 9) dX10_rule_79 b_9 rfl ?_
                  refine v_icmp_gt (n := 84) (tgt := 103) dX10_rule_81 (by decide) rfl (fun hq81 => ?_) (fun hq81 => ?_)
                  · refine v_ldc (n := 105) k_X10_84 dX10_rule_103 rfl ?_
                    refine v_istore_n (n := 106) (al' := [.ref x, .int xa, .int xb, .int (-1000000001)]) dX10_rule_105 rfl rfl rfl rfl ?_
                    refine v_iload_n (n := 107) dX10_rule_106 rfl rfl rfl ?_
                    exact v_qx rfl (rule_0 (fun e => by unfold inn; simp [hq11]) (fun e => by unfold inn; simp [hq45]) (fun e => by unfold inn; simp [hq81])) h Eqx.rf ⟨l8 rfl, l8 rfl⟩ dX10_rule_107
                  · refine v_aload_n (n := 85) dX10_rule_84 rfl rfl rfl ?_
                    refine v_getR (n := 88) f_X10_10 rfl L.s L.g0 dX10_rule_85 rfl ?_
                    refine v_getI (n := 91) f_X10_157 rfl L.c0.s dX10_rule_88 rfl ?_
                    rw [h.2.2.1.2.2.2.2.1]
                    refine v_istore_n (n := 92) (al' := [.ref x, .int xa, .int xb, .int (X 5)]) dX10_rule_91 rfl rfl rfl rfl ?_
                    refine v_aload_n (n := 93) dX10_rule_92 rfl rfl rfl ?_
                    refine v_getR (n := 96) f_X10_10 rfl L.s L.g0 dX10_rule_93 rfl ?_
                    refine v_iload_n (n := 97) dX10_rule_96 rfl rfl rfl ?_
                    refine v_putI (n := 100) f_X10_157 rfl (Or.inl rfl) L.c0.s dX10_rule_97 rfl ?_
                    refine v_goto (tgt := 106) dX10_rule_100 (by decide) ?_
                    refine v_iload_n (n := 107) dX10_rule_106 rfl rfl rfl ?_
                    exact v_qx rfl (rule_2 hq69 (by unfold inn; simp [hq75, hq81])) (vn_fld (k := 7) (u := 5) h (by omega) hW.2.2.2.2.1.2.1 hW.2.1 hW.2.2.2.1 (by decide)) (eq_v (by omega)) ⟨l8 rfl, l8 rfl⟩ dX10_rule_107
            · refine v_aload_n (n := 49) dX10_rule_48 rfl rfl rfl ?_
              refine v_getR (n := 52) f_X10_10 rfl L.s L.g0 dX10_rule_49 rfl ?_
              refine v_getI (n := 55) f_X10_154 rfl L.c0.s dX10_rule_52 rfl ?_
              rw [h.2.2.1.2.2.2.1]
              refine v_istore_n (n := 56) (al' := [.ref x, .int xa, .int xb, .int (X 4)]) dX10_rule_55 rfl rfl rfl rfl ?_
              refine v_aload_n (n := 57) dX10_rule_56 rfl rfl rfl ?_
              refine v_getR (n := 60) f_X10_10 rfl L.s L.g0 dX10_rule_57 rfl ?_
              refine v_iload_n (n := 61) dX10_rule_60 rfl rfl rfl ?_
              refine v_putI (n := 64) f_X10_154 rfl (Or.inl rfl) L.c0.s dX10_rule_61 rfl ?_
              refine v_goto (tgt := 106) dX10_rule_64 (by decide) ?_
              refine v_iload_n (n := 107) dX10_rule_106 rfl rfl rfl ?_
              exact v_qx rfl (rule_k (u := 1) hq35 (by decide) (by unfold inn; simp [hq39, hq45])) (vn_fld (k := 6) (u := 4) h (by omega) hW.2.2.2.2.1.2.1 hW.2.1 hW.2.2.2.1 (by decide)) (eq_v (by omega)) ⟨l8 rfl, l8 rfl⟩ dX10_rule_107
      · refine v_aload_n (n := 15) dX10_rule_14 rfl rfl rfl ?_
        refine v_getR (n := 18) f_X10_10 rfl L.s L.g0 dX10_rule_15 rfl ?_
        refine v_getI (n := 21) f_X10_151 rfl L.c0.s dX10_rule_18 rfl ?_
        rw [h.2.2.1.2.2.1]
        refine v_istore_n (n := 22) (al' := [.ref x, .int xa, .int xb, .int (X 3)]) dX10_rule_21 rfl rfl rfl rfl ?_
        refine v_aload_n (n := 23) dX10_rule_22 rfl rfl rfl ?_
        refine v_getR (n := 26) f_X10_10 rfl L.s L.g0 dX10_rule_23 rfl ?_
        refine v_iload_n (n := 27) dX10_rule_26 rfl rfl rfl ?_
        refine v_putI (n := 30) f_X10_151 rfl (Or.inl rfl) L.c0.s dX10_rule_27 rfl ?_
        refine v_goto (tgt := 106) dX10_rule_30 (by decide) ?_
        refine v_iload_n (n := 107) dX10_rule_106 rfl rfl rfl ?_
        exact v_qx rfl (rule_k (u := 0) hq1 (by decide) (by unfold inn; simp [hq5, Int32.not_lt.mpr (Int32.not_lt.mp hq11)])) (vn_fld (k := 5) (u := 3) h (by omega) hW.2.2.2.2.1.2.1 hW.2.1 hW.2.2.2.1 (by decide)) (eq_v (by omega)) ⟨l8 rfl, l8 rfl⟩ dX10_rule_107

set_option maxRecDepth 100000 in
set_option maxHeartbeats 1000000 in
theorem c_X10_at {ro : Ro} {S : St} {I : In} {xa : Int32} {x B T b : Nat} {X : Ar} {lw : Nat → Nat} (L : LayX S x) (h : VN S I (x + 1) B X T lw) (hW : WN X T b) (hB : x + 134 ≤ B) : Ok mX10_at ro 1 0 0 [.ref x, .int xa] S I (QX S I x B T lw (atS X xa)) := by
  refine ok_of (al := [.ref x, .int xa, JJ]) (by decide) (l8 rfl) rfl ?_
  refine v_aload_n (n := 1) dX10_at_0 rfl rfl rfl ?_
  refine v_getR (n := 4) f_X10_10 rfl L.s L.g0 dX10_at_1 rfl ?_
  refine v_getR (n := 7) f_X10_85 rfl L.c0.s L.c0.g0 dX10_at_4 rfl ?_
  refine v_iload_n (n := 8) dX10_at_7 rfl rfl rfl ?_
  refine v_cVi (n := 11) (x := (bi (yd X xa))) mc_X5_has l_X10_99 iv_X5_has se_X5_has (ci := 4) ⟨by decide, rfl⟩ L.c0.c0.s (k_yd L.c0.c0 h.1 hW.1 hW.2.1) ⟨rfl, rfl⟩ (l8 rfl) ⟨l8 rfl, l8 rfl⟩ rfl rfl (l8 rfl) dX10_at_8 rfl ?_
  refine v_if_ne (n := 14) (tgt := 17) dX10_at_11 (by decide) rfl (fun hq11 => ?_) (fun hq11 => ?_)
  · refine v_aload_n (n := 18) dX10_at_17 rfl rfl rfl ?_
    refine v_getR (n := 21) f_X10_10 rfl L.s L.g0 dX10_at_18 rfl ?_
    refine v_getR (n := 24) f_X10_126 rfl L.c0.s L.c0.g1 dX10_at_21 rfl ?_
    refine v_getI (n := 27) f_X10_160 rfl L.c0.c1.s dX10_at_24 rfl ?_
    rw [h.2.1.1.2.2.1]
    refine v_istore_n (n := 28) (al' := [.ref x, .int xa, .int (X 6)]) dX10_at_27 rfl rfl rfl rfl ?_
    refine v_aload_n (n := 29) dX10_at_28 rfl rfl rfl ?_
    refine v_getR (n := 32) f_X10_10 rfl L.s L.g0 dX10_at_29 rfl ?_
    refine v_getR (n := 35) f_X10_126 rfl L.c0.s L.c0.g1 dX10_at_32 rfl ?_
    refine v_iload_n (n := 36) dX10_at_35 rfl rfl rfl ?_
    refine v_putI (n := 39) f_X10_160 rfl (Or.inl rfl) L.c0.c1.s dX10_at_36 rfl ?_
    refine v_iload_n (n := 40) dX10_at_39 rfl rfl rfl ?_
    exact v_qx rfl (by clear h hW; simp_all [bi_0, bi_n0, atS]) (vn_place h (by omega) hW.2.2.2.2.1.2.1 hW.2.1 hW.2.2.2.1) (eq_v (by omega)) ⟨l8 rfl, l8 rfl⟩ dX10_at_40
  · refine v_ldc (n := 16) k_X10_84 dX10_at_14 rfl ?_
    exact v_qx rfl (by clear h hW; simp_all [bi_0, bi_n0, atS]) h Eqx.rf ⟨l8 rfl, l8 rfl⟩ dX10_at_16

set_option maxRecDepth 100000 in
set_option maxHeartbeats 1000000 in
theorem c_X10_ball {ro : Ro} {S : St} {I : In} {xa : Int32} {x B T b : Nat} {X : Ar} {lw : Nat → Nat} (L : LayX S x) (h : VN S I (x + 1) B X T lw) (hW : WN X T b) (hB : x + 134 ≤ B) : Ok mX10_ball ro 3 0 0 [.ref x, .int xa] S I (QX S I x B T lw (ballS X T (ln X) xa, X)) := by
  refine ok_of (al := [.ref x, .int xa]) (by decide) (l8 rfl) rfl ?_
  refine v_iload_n (n := 1) dX10_ball_0 rfl rfl rfl ?_
  by_cases hw1_0 : xa = 0
  · refine v_table (tgt := 36) (off := 35) dX10_ball_1 (by rw [hw1_0, t_0]; decide) (by rw [hw1_0, t_0]; rfl) (by decide) ?_
    refine v_aload_n (n := 37) dX10_ball_36 rfl rfl rfl ?_
    refine v_getR (n := 40) f_X10_10 rfl L.s L.g0 dX10_ball_37 rfl ?_
    refine v_getR (n := 43) f_X10_126 rfl L.c0.s L.c0.g1 dX10_ball_40 rfl ?_
    refine v_getI (n := 46) f_X10_163 rfl L.c0.c1.s dX10_ball_43 rfl ?_
    rw [h.2.1.1.2.1]
    exact v_qx rfl (by clear h hW; simp_all [bi_0, bi_n0, ballS]) h Eqx.rf ⟨l8 rfl, l8 rfl⟩ dX10_ball_46
  by_cases hw1_1 : xa = 1
  · refine v_table (tgt := 47) (off := 46) dX10_ball_1 (by rw [hw1_1, t_1]; decide) (by rw [hw1_1, t_1]; rfl) (by decide) ?_
    refine v_aload_n (n := 48) dX10_ball_47 rfl rfl rfl ?_
    refine v_getR (n := 51) f_X10_10 rfl L.s L.g0 dX10_ball_48 rfl ?_
    refine v_callV (n := 54) mc_X9_ballSize l_X10_166 iv_X9_ballSize se_X9_ballSize (ci := 8) ⟨by decide, rfl⟩ L.c0.s (k_X9_ballSize L.c0 h hW.2.2.2.2.1.2.1 hW.2.2.1) ⟨rfl, rfl⟩ (l8 rfl) ⟨l8 rfl, l8 rfl⟩ rfl rfl (l8 rfl) dX10_ball_51 rfl ?_
    rintro _ _ J ⟨rfl, hS9, hE9⟩
    replace hS9 := hS9.symm
    subst hS9
    exact v_qx rfl (by clear h hW; simp_all [ballS]) (h.sk (by omega) hE9) (stk_v hE9) ⟨l8 rfl, l8 rfl⟩ dX10_ball_54
  by_cases hw1_2 : xa = 2
  · refine v_table (tgt := 55) (off := 54) dX10_ball_1 (by rw [hw1_2, t_2]; decide) (by rw [hw1_2, t_2]; rfl) (by decide) ?_
    refine v_aload_n (n := 56) dX10_ball_55 rfl rfl rfl ?_
    refine v_getR (n := 59) f_X10_10 rfl L.s L.g0 dX10_ball_56 rfl ?_
    refine v_getR (n := 62) f_X10_126 rfl L.c0.s L.c0.g1 dX10_ball_59 rfl ?_
    refine v_getI (n := 65) f_X10_160 rfl L.c0.c1.s dX10_ball_62 rfl ?_
    rw [h.2.1.1.2.2.1]
    exact v_qx rfl (by clear h hW; simp_all [bi_0, bi_n0, ballS]) h Eqx.rf ⟨l8 rfl, l8 rfl⟩ dX10_ball_65
  by_cases hw1_3 : xa = 3
  · refine v_table (tgt := 66) (off := 65) dX10_ball_1 (by rw [hw1_3, t_3]; decide) (by rw [hw1_3, t_3]; rfl) (by decide) ?_
    refine v_aload_n (n := 67) dX10_ball_66 rfl rfl rfl ?_
    refine v_getR (n := 70) f_X10_10 rfl L.s L.g0 dX10_ball_67 rfl ?_
    refine v_getR (n := 73) f_X10_126 rfl L.c0.s L.c0.g1 dX10_ball_70 rfl ?_
    refine v_getI (n := 76) f_X10_170 rfl L.c0.c1.s dX10_ball_73 rfl ?_
    rw [h.2.1.1.1, ← hW.2.2.1]
    exact v_qx rfl (by clear h hW; simp_all [bi_0, bi_n0, ballS]) h Eqx.rf ⟨l8 rfl, l8 rfl⟩ dX10_ball_76
  by_cases hw1_4 : xa = 4
  · refine v_table (tgt := 77) (off := 76) dX10_ball_1 (by rw [hw1_4, t_4]; decide) (by rw [hw1_4, t_4]; rfl) (by decide) ?_
    refine v_aload_n (n := 78) dX10_ball_77 rfl rfl rfl ?_
    refine v_getR (n := 81) f_X10_10 rfl L.s L.g0 dX10_ball_78 rfl ?_
    refine v_getR (n := 84) f_X10_126 rfl L.c0.s L.c0.g1 dX10_ball_81 rfl ?_
    refine v_getI (n := 87) f_X10_173 rfl L.c0.c1.s dX10_ball_84 rfl ?_
    rw [h.2.1.1.2.2.2]
    exact v_qx rfl (by clear h hW; simp_all [bi_0, bi_n0, ballS]) h Eqx.rf ⟨l8 rfl, l8 rfl⟩ dX10_ball_87
  refine v_tableO (tgt := 88) dX10_ball_1 (sw_out5 (lo := 0) hw1_0 hw1_1 hw1_2 hw1_3 hw1_4 t_0 t_1 t_2 t_3 t_4) (by decide) ?_
  refine v_ldc (n := 90) k_X10_84 dX10_ball_88 rfl ?_
  exact v_qx rfl (by clear h hW; simp_all [bi_0, bi_n0, ballS]) h Eqx.rf ⟨l8 rfl, l8 rfl⟩ dX10_ball_90

theorem ly_in {X : Ar} {l : Nat} {a : Int32} (h : X 7 = nI l) (hl : l ≤ 30) (h0 : ¬ a < 0) (h1 : ¬ X 7 ≤ a) : inn a 0 (X 7 - 1) = true := by
  rw [← has_inn h (by omega)]; unfold rHas; simp [h0, h1]
theorem b_01 {b : Int32} (h0 : ¬ b < 0) (h1 : b ≤ 1) : b = 0 ∨ b = 1 := by
  rw [Int32.lt_iff_toInt_lt] at h0
  rw [Int32.le_iff_toInt_le] at h1
  have e0 : (0 : Int32).toInt = 0 := rfl
  have e1 : (1 : Int32).toInt = 1 := rfl
  have : b.toInt = 0 ∨ b.toInt = 1 := by omega
  rcases this with q | q
  · exact Or.inl (Int32.toInt_inj.mp (q.trans e0.symm))
  · exact Or.inr (Int32.toInt_inj.mp (q.trans e1.symm))
theorem ly_out {X : Ar} {l : Nat} {a b : Int32} (h : X 7 = nI l) (hl : l ≤ 30) (hh : a < 0 ∨ X 7 ≤ a ∨ b < 0 ∨ ¬ b ≤ 1) : (layerS X a b, X) = (-1000000001, X) := by
  rw [layerS, if_neg]
  intro z
  simp only [Bool.and_eq_true] at z
  obtain ⟨z1, z2⟩ := z
  rw [← has_inn h (by omega)] at z1
  unfold rHas at z1
  unfold inn at z2
  simp only [Bool.and_eq_true, Bool.not_eq_true', decide_eq_false_iff_not] at z1 z2
  rcases hh with q | q | q | q
  · exact z1.1 q
  · exact z1.2 q
  · exact z2.1 q
  · exact z2.2 (Int32.not_le.mp q)
theorem ly_val {X : Ar} {q : Nat} {b w : Int32} (h : inn (nI q) 0 (X 7 - 1) = true) (hb : b = 0 ∨ b = 1) (hc : (nI q).toNatClampNeg = q) (hw : w = if b = 0 then X (16 + 2 * q) else X (17 + 2 * q)) : (layerS X (nI q) b, X) = (w, X) := by
  rw [layerS, if_pos (by rw [h]; rcases hb with rfl | rfl <;> decide), hc, hw]
  rcases hb with rfl | rfl
  · rfl
  · rw [if_neg (by decide), show 16 + 2 * q + Int32.toNatClampNeg 1 = 17 + 2 * q by show 16 + 2 * q + 1 = _; omega]
set_option maxRecDepth 100000 in
set_option maxHeartbeats 1000000 in
theorem c_X10_layer {ro : Ro} {S : St} {I : In} {xa xb : Int32} {x B T b : Nat} {X : Ar} {lw : Nat → Nat} (L : LayX S x) (h : VN S I (x + 1) B X T lw) (hW : WN X T b) (hB : x + 134 ≤ B) : Ok mX10_layer ro 0 0 0 [.ref x, .int xa, .int xb] S I (QX S I x B T lw (layerS X xa xb, X)) := by
  refine ok_of (al := [.ref x, .int xa, .int xb]) (by decide) (l8 rfl) rfl ?_
  refine v_iload_n (n := 1) dX10_layer_0 rfl rfl rfl ?_
  refine v_if_lt (n := 4) (tgt := 27) dX10_layer_1 (by decide) rfl (fun hq1 => ?_) (fun hq1 => ?_)
  · refine v_ldc (n := 29) k_X10_84 dX10_layer_27 rfl ?_
    exact v_qx rfl (ly_out hW.2.2.1 hW.2.2.2.1 (Or.inl hq1)) h Eqx.rf ⟨l8 rfl, l8 rfl⟩ dX10_layer_29
  · refine v_iload_n (n := 5) dX10_layer_4 rfl rfl rfl ?_
    refine v_aload_n (n := 6) dX10_layer_5 rfl rfl rfl ?_
    refine v_getR (n := 9) f_X10_10 rfl L.s L.g0 dX10_layer_6 rfl ?_
    refine v_getR (n := 12) f_X10_126 rfl L.c0.s L.c0.g1 dX10_layer_9 rfl ?_
    refine v_getI (n := 15) f_X10_170 rfl L.c0.c1.s dX10_layer_12 rfl ?_
    rw [h.2.1.1.1, ← hW.2.2.1]
    refine v_icmp_ge (n := 18) (tgt := 27) dX10_layer_15 (by decide) rfl (fun hq15 => ?_) (fun hq15 => ?_)
    · refine v_ldc (n := 29) k_X10_84 dX10_layer_27 rfl ?_
      exact v_qx rfl (ly_out hW.2.2.1 hW.2.2.2.1 (Or.inr (Or.inl hq15))) h Eqx.rf ⟨l8 rfl, l8 rfl⟩ dX10_layer_29
    · refine v_iload_n (n := 19) dX10_layer_18 rfl rfl rfl ?_
      refine v_if_lt (n := 22) (tgt := 27) dX10_layer_19 (by decide) rfl (fun hq19 => ?_) (fun hq19 => ?_)
      · refine v_ldc (n := 29) k_X10_84 dX10_layer_27 rfl ?_
        exact v_qx rfl (ly_out hW.2.2.1 hW.2.2.2.1 (Or.inr (Or.inr (Or.inl hq19)))) h Eqx.rf ⟨l8 rfl, l8 rfl⟩ dX10_layer_29
      · refine v_iload_n (n := 23) dX10_layer_22 rfl rfl rfl ?_
        refine v_iconst (n := 24) (v := 1) dX10_layer_23 c_1 rfl ?_
        refine v_icmp_le (n := 27) (tgt := 30) dX10_layer_24 (by decide) rfl (fun hq24 => ?_) (fun hq24 => ?_)
        · have hrl := ly_in hW.2.2.1 hW.2.2.2.1 hq1 hq15
          obtain ⟨q, hql, rfl⟩ := ly_get hrl hW.2.2.1 hW.2.2.2.1
          have hq30 : q < 30 := by have := hW.2.2.2.1; omega
          have hcq : (nI q).toNatClampNeg = q := nI_clamp (by omega)
          have eq9 := h.2.1.2.1 q hql
          have h01 := b_01 hq19 hq24
          refine v_iload_n (n := 31) dX10_layer_30 rfl rfl rfl ?_
          refine v_if_ne (n := 34) (tgt := 49) dX10_layer_31 (by decide) rfl (fun hq31 => ?_) (fun hq31 => ?_)
          · refine v_aload_n (n := 50) dX10_layer_49 rfl rfl rfl ?_
            refine v_getR (n := 53) f_X10_10 rfl L.s L.g0 dX10_layer_50 rfl ?_
            refine v_getR (n := 56) f_X10_126 rfl L.c0.s L.c0.g1 dX10_layer_53 rfl ?_
            refine v_getR (n := 59) f_X10_179 rfl L.c0.c1.s L.c0.c1.g1 dX10_layer_56 rfl ?_
            refine v_iload_n (n := 60) dX10_layer_59 rfl rfl rfl ?_
            refine v_iald (n := 61) (j := q) L.c0.c1.c1 (ix_nI hq30 (by decide)) dX10_layer_60 rfl ?_
            exact v_qx rfl (ly_val hrl h01 hcq (by rw [if_neg hq31]; exact eq9.2)) h Eqx.rf ⟨l8 rfl, l8 rfl⟩ dX10_layer_61
          · refine v_aload_n (n := 35) dX10_layer_34 rfl rfl rfl ?_
            refine v_getR (n := 38) f_X10_10 rfl L.s L.g0 dX10_layer_35 rfl ?_
            refine v_getR (n := 41) f_X10_126 rfl L.c0.s L.c0.g1 dX10_layer_38 rfl ?_
            refine v_getR (n := 44) f_X10_176 rfl L.c0.c1.s L.c0.c1.g0 dX10_layer_41 rfl ?_
            refine v_iload_n (n := 45) dX10_layer_44 rfl rfl rfl ?_
            refine v_iald (n := 46) (j := q) L.c0.c1.c0 (ix_nI hq30 (by decide)) dX10_layer_45 rfl ?_
            refine v_goto (tgt := 61) dX10_layer_46 (by decide) ?_
            exact v_qx rfl (ly_val hrl h01 hcq (by rw [if_pos hq31]; exact eq9.1)) h Eqx.rf ⟨l8 rfl, l8 rfl⟩ dX10_layer_61
        · refine v_ldc (n := 29) k_X10_84 dX10_layer_27 rfl ?_
          exact v_qx rfl (ly_out hW.2.2.1 hW.2.2.2.1 (Or.inr (Or.inr (Or.inr hq24)))) h Eqx.rf ⟨l8 rfl, l8 rfl⟩ dX10_layer_29

theorem lose_th {X : Ar} {l : Nat} (h : X 7 = nI l) (hl : l ≤ 30) (h0 : ¬ X 7 = 0) : X 7 - 1 = thg (X 7 - 1) := by
  have : 0 < l := by
    rcases Nat.eq_zero_or_pos l with q | q
    · exact absurd (by rw [h, q]; rfl) h0
    · exact q
  rw [h, nI_p1 this, thg, if_neg (nI_nlt0 (by omega))]
theorem thg_none {z : Int32} : thg z = -1000000005 ↔ ¬ 0 ≤ z := by
  unfold thg
  constructor
  · intro h q
    rw [if_neg (Int32.not_lt.mpr q)] at h
    subst h
    exact absurd q (by decide)
  · intro q
    rw [if_pos (Int32.not_le.mp q)]
theorem find_r {X : Ar} {t : Nat} {w : Int32} (hi : inn (nI t) 0 5 = true) (hc : (nI t).toNatClampNeg = t) (hw : w = if thg (X (10 + t)) = -1000000005 then 0 else 1) : findS X (nI t) = (w, upd X (10 + t) (-1)) := by
  rw [findS, if_pos hi, hc, hw]
  by_cases q : 0 ≤ X (10 + t)
  · rw [if_pos q, if_neg (fun z => thg_none.mp z q)]
  · rw [if_neg q, if_pos (thg_none.mpr q)]
theorem thing_r {X : Ar} {t : Nat} (hi : inn (nI t) 0 5 = true) (hc : (nI t).toNatClampNeg = t) : thingS X (nI t) = thg (X (10 + t)) := by
  rw [thingS, if_pos hi, hc]
  by_cases q : 0 ≤ X (10 + t)
  · rw [if_pos q, thg, if_neg (Int32.not_lt.mpr q)]
  · rw [if_neg q, thg, if_pos (Int32.not_le.mp q)]
set_option maxRecDepth 100000 in
set_option maxHeartbeats 1000000 in
theorem c_X10_lose {ro : Ro} {S : St} {I : In} {xa : Int32} {x B T b : Nat} {X : Ar} {lw : Nat → Nat} (L : LayX S x) (h : VN S I (x + 1) B X T lw) (hW : WN X T b) (hB : x + 134 ≤ B) : Ok mX10_lose ro 1 0 0 [.ref x, .int xa] S I (QX S I x B T lw (loseS X xa)) := by
  refine ok_of (al := [.ref x, .int xa]) (by decide) (l8 rfl) rfl ?_
  refine v_iload_n (n := 1) dX10_lose_0 rfl rfl rfl ?_
  refine v_cSi (n := 4) (x := (bi (inn xa 0 5))) mc_X10_isThing l_X10_186 sta_X10_isThing k_th ⟨rfl, rfl⟩ (l8 rfl) ⟨l8 rfl, l8 rfl⟩ rfl rfl (l8 rfl) dX10_lose_1 rfl ?_
  refine v_if_ne (n := 7) (tgt := 10) dX10_lose_4 (by decide) rfl (fun hq4 => ?_) (fun hq4 => ?_)
  · refine v_aload_n (n := 11) dX10_lose_10 rfl rfl rfl ?_
    refine v_getR (n := 14) f_X10_10 rfl L.s L.g0 dX10_lose_11 rfl ?_
    refine v_getR (n := 17) f_X10_126 rfl L.c0.s L.c0.g1 dX10_lose_14 rfl ?_
    refine v_getI (n := 20) f_X10_170 rfl L.c0.c1.s dX10_lose_17 rfl ?_
    rw [h.2.1.1.1, ← hW.2.2.1]
    refine v_if_ne (n := 23) (tgt := 26) dX10_lose_20 (by decide) rfl (fun hq20 => ?_) (fun hq20 => ?_)
    · obtain ⟨t, ht5, rfl⟩ := inn_get (a := 5) (bi_n0.mp hq4) (by decide)
      have ht6 : t < 6 := by omega
      have hct : (nI t).toNatClampNeg = t := nI_clamp (by omega)
      have hth : X 7 - 1 = thg (X 7 - 1) := lose_th hW.2.2.1 hW.2.2.2.1 hq20
      refine v_aload_n (n := 27) dX10_lose_26 rfl rfl rfl ?_
      refine v_getR (n := 30) f_X10_10 rfl L.s L.g0 dX10_lose_27 rfl ?_
      refine v_getR (n := 33) f_X10_126 rfl L.c0.s L.c0.g1 dX10_lose_30 rfl ?_
      refine v_getR (n := 36) f_X10_190 rfl L.c0.c1.s L.c0.c1.g2 dX10_lose_33 rfl ?_
      refine v_iload_n (n := 37) dX10_lose_36 rfl rfl rfl ?_
      refine v_aload_n (n := 38) dX10_lose_37 rfl rfl rfl ?_
      refine v_getR (n := 41) f_X10_10 rfl L.s L.g0 dX10_lose_38 rfl ?_
      refine v_getR (n := 44) f_X10_126 rfl L.c0.s L.c0.g1 dX10_lose_41 rfl ?_
      refine v_getI (n := 47) f_X10_170 rfl L.c0.c1.s dX10_lose_44 rfl ?_
      rw [h.2.1.1.1, ← hW.2.2.1]
      refine v_iconst (n := 48) (v := 1) dX10_lose_47 c_1 rfl ?_
      refine v_isub (n := 49) dX10_lose_48 rfl ?_
      refine v_iast (n := 50) (j := t) L.c0.c1.c2 (ix_nI ht6 (by decide)) dX10_lose_49 rfl ?_
      refine v_aload_n (n := 51) dX10_lose_50 rfl rfl rfl ?_
      refine v_getR (n := 54) f_X10_10 rfl L.s L.g0 dX10_lose_51 rfl ?_
      refine v_getR (n := 57) f_X10_126 rfl L.c0.s L.c0.g1 dX10_lose_54 rfl ?_
      refine v_getI (n := 60) f_X10_170 rfl L.c0.c1.s dX10_lose_57 rfl ?_
      rw [sI_o (by omega), h.2.1.1.1, ← hW.2.2.1]
      refine v_iconst (n := 61) (v := 1) dX10_lose_60 c_1 rfl ?_
      refine v_isub (n := 62) dX10_lose_61 rfl ?_
      exact v_qx rfl (by clear h hW hth; simp_all [bi_0, bi_n0, loseS]) (vn_thing (t := t) h (by omega) hW.2.2.2.2.1.2.1 hW.2.1 hW.2.2.2.1 ht6 hth) (eq_v (by omega)) ⟨l8 rfl, l8 rfl⟩ dX10_lose_62
    · refine v_ldc (n := 25) k_X10_189 dX10_lose_23 rfl ?_
      exact v_qx rfl (by clear h hW; simp_all [bi_0, bi_n0, loseS]) h Eqx.rf ⟨l8 rfl, l8 rfl⟩ dX10_lose_25
  · refine v_ldc (n := 9) k_X10_84 dX10_lose_7 rfl ?_
    exact v_qx rfl (by clear h hW; simp_all [bi_0, bi_n0, loseS]) h Eqx.rf ⟨l8 rfl, l8 rfl⟩ dX10_lose_9

set_option maxRecDepth 100000 in
set_option maxHeartbeats 1000000 in
theorem c_X10_find {ro : Ro} {S : St} {I : In} {xa : Int32} {x B T b : Nat} {X : Ar} {lw : Nat → Nat} (L : LayX S x) (h : VN S I (x + 1) B X T lw) (hW : WN X T b) (hB : x + 134 ≤ B) : Ok mX10_find ro 1 0 0 [.ref x, .int xa] S I (QX S I x B T lw (findS X xa)) := by
  refine ok_of (al := [.ref x, .int xa, JJ]) (by decide) (l8 rfl) rfl ?_
  refine v_iload_n (n := 1) dX10_find_0 rfl rfl rfl ?_
  refine v_cSi (n := 4) (x := (bi (inn xa 0 5))) mc_X10_isThing l_X10_186 sta_X10_isThing k_th ⟨rfl, rfl⟩ (l8 rfl) ⟨l8 rfl, l8 rfl⟩ rfl rfl (l8 rfl) dX10_find_1 rfl ?_
  refine v_if_ne (n := 7) (tgt := 10) dX10_find_4 (by decide) rfl (fun hq4 => ?_) (fun hq4 => ?_)
  · obtain ⟨t, ht5, rfl⟩ := inn_get (a := 5) (bi_n0.mp hq4) (by decide)
    have ht6 : t < 6 := by omega
    have hct : (nI t).toNatClampNeg = t := nI_clamp (by omega)
    refine v_aload_n (n := 11) dX10_find_10 rfl rfl rfl ?_
    refine v_getR (n := 14) f_X10_10 rfl L.s L.g0 dX10_find_11 rfl ?_
    refine v_getR (n := 17) f_X10_126 rfl L.c0.s L.c0.g1 dX10_find_14 rfl ?_
    refine v_getR (n := 20) f_X10_190 rfl L.c0.c1.s L.c0.c1.g2 dX10_find_17 rfl ?_
    refine v_iload_n (n := 21) dX10_find_20 rfl rfl rfl ?_
    refine v_iald (n := 22) (j := t) L.c0.c1.c2 (ix_nI ht6 (by decide)) dX10_find_21 rfl ?_
    rw [h.2.1.2.2 t ht6]
    refine v_istore_n (n := 23) (al' := [.ref x, .int (nI t), .int (thg (X (10 + t)))]) dX10_find_22 rfl rfl rfl rfl ?_
    refine v_aload_n (n := 24) dX10_find_23 rfl rfl rfl ?_
    refine v_getR (n := 27) f_X10_10 rfl L.s L.g0 dX10_find_24 rfl ?_
    refine v_getR (n := 30) f_X10_126 rfl L.c0.s L.c0.g1 dX10_find_27 rfl ?_
    refine v_getR (n := 33) f_X10_190 rfl L.c0.c1.s L.c0.c1.g2 dX10_find_30 rfl ?_
    refine v_iload_n (n := 34) dX10_find_33 rfl rfl rfl ?_
    refine v_ldc (n := 36) k_X10_193 dX10_find_34 rfl ?_
    refine v_iast (n := 37) (j := t) L.c0.c1.c2 (ix_nI ht6 (by decide)) dX10_find_36 rfl ?_
    refine v_iload_n (n := 38) dX10_find_37 rfl rfl rfl ?_
    refine v_ldc (n := 40) k_X10_193 dX10_find_38 rfl ?_
    refine v_icmp_ne (n := 43) (tgt := 47) dX10_find_40 (by decide) rfl (fun hq40 => ?_) (fun hq40 => ?_)
    · refine v_iconst (n := 48) (v := 1) dX10_find_47 c_1 rfl ?_
      exact v_qx rfl (find_r (bi_n0.mp hq4) hct (by clear h hW; simp_all)) (vn_thing (t := t) h (by omega) hW.2.2.2.2.1.2.1 hW.2.1 hW.2.2.2.1 ht6 (by decide)) (eq_v (by omega)) ⟨l8 rfl, l8 rfl⟩ dX10_find_48
    · refine v_iconst (n := 44) (v := 0) dX10_find_43 c_0 rfl ?_
      refine v_goto (tgt := 48) dX10_find_44 (by decide) ?_
      exact v_qx rfl (find_r (bi_n0.mp hq4) hct (by clear h hW; simp_all)) (vn_thing (t := t) h (by omega) hW.2.2.2.2.1.2.1 hW.2.1 hW.2.2.2.1 ht6 (by decide)) (eq_v (by omega)) ⟨l8 rfl, l8 rfl⟩ dX10_find_48
  · refine v_ldc (n := 9) k_X10_84 dX10_find_7 rfl ?_
    exact v_qx rfl (by clear h hW; simp_all [bi_0, bi_n0, findS]) h Eqx.rf ⟨l8 rfl, l8 rfl⟩ dX10_find_9

set_option maxRecDepth 100000 in
set_option maxHeartbeats 1000000 in
theorem c_X10_thing {ro : Ro} {S : St} {I : In} {xa : Int32} {x B T b : Nat} {X : Ar} {lw : Nat → Nat} (L : LayX S x) (h : VN S I (x + 1) B X T lw) (hW : WN X T b) (hB : x + 134 ≤ B) : Ok mX10_thing ro 1 0 0 [.ref x, .int xa] S I (QX S I x B T lw (thingS X xa, X)) := by
  refine ok_of (al := [.ref x, .int xa]) (by decide) (l8 rfl) rfl ?_
  refine v_iload_n (n := 1) dX10_thing_0 rfl rfl rfl ?_
  refine v_cSi (n := 4) (x := (bi (inn xa 0 5))) mc_X10_isThing l_X10_186 sta_X10_isThing k_th ⟨rfl, rfl⟩ (l8 rfl) ⟨l8 rfl, l8 rfl⟩ rfl rfl (l8 rfl) dX10_thing_1 rfl ?_
  refine v_if_eq (n := 7) (tgt := 22) dX10_thing_4 (by decide) rfl (fun hq4 => ?_) (fun hq4 => ?_)
  · refine v_ldc (n := 24) k_X10_84 dX10_thing_22 rfl ?_
    exact v_qx rfl (by clear h hW; simp_all [bi_0, bi_n0, thingS]) h Eqx.rf ⟨l8 rfl, l8 rfl⟩ dX10_thing_24
  · obtain ⟨t, ht5, rfl⟩ := inn_get (a := 5) (bi_n0.mp hq4) (by decide)
    have ht6 : t < 6 := by omega
    have hct : (nI t).toNatClampNeg = t := nI_clamp (by omega)
    refine v_aload_n (n := 8) dX10_thing_7 rfl rfl rfl ?_
    refine v_getR (n := 11) f_X10_10 rfl L.s L.g0 dX10_thing_8 rfl ?_
    refine v_getR (n := 14) f_X10_126 rfl L.c0.s L.c0.g1 dX10_thing_11 rfl ?_
    refine v_getR (n := 17) f_X10_190 rfl L.c0.c1.s L.c0.c1.g2 dX10_thing_14 rfl ?_
    refine v_iload_n (n := 18) dX10_thing_17 rfl rfl rfl ?_
    refine v_iald (n := 19) (j := t) L.c0.c1.c2 (ix_nI ht6 (by decide)) dX10_thing_18 rfl ?_
    rw [h.2.1.2.2 t ht6]
    refine v_goto (tgt := 24) dX10_thing_19 (by decide) ?_
    exact v_qx rfl (by rw [thing_r (bi_n0.mp hq4) hct]) h Eqx.rf ⟨l8 rfl, l8 rfl⟩ dX10_thing_24

