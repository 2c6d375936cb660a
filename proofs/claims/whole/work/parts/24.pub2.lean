set_option maxRecDepth 100000 in
set_option maxHeartbeats 1000000 in
theorem k_X11_told {ro : Ro} {S : St} {I : In} {xa xb : Int32} {m T n l b : Nat} (L : LayM S m) (h : WX (I (m + 1)) T n l b) : Ok mX11_told ro 3 0 0 [.ref m, .int xa, .int xb] S I (fun r S' I' => r = some (.int (toldS (I (m + 1)) T l xa xb)) ∧ S' = S ∧ Eqx (scM m) I I') := by
  refine ok_of (al := [.ref m, .int xa, .int xb]) (by decide) (l8 rfl) rfl ?_
  refine v_aload_n (n := 1) dX11_told_0 rfl rfl rfl ?_
  refine v_iload_n (n := 2) dX11_told_1 rfl rfl rfl ?_
  refine v_cVi (n := 5) (x := (bi (yd (I (m + 1)) xa))) mc_X11_isYard l_X11_114 iv_X11_isYard se_X11_isYard (ci := 10) ⟨by decide, rfl⟩ L.s (k_X11_isYard L) ⟨rfl, rfl⟩ (l8 rfl) ⟨l8 rfl, l8 rfl⟩ rfl rfl (l8 rfl) dX11_told_2 rfl ?_
  refine v_if_ne (n := 8) (tgt := 11) dX11_told_5 (by decide) rfl (fun hq5 => ?_) (fun hq5 => ?_)
  · obtain ⟨y, hy, rfl⟩ := yd_get (bi_n0.mp hq5) h.1 h.2.1
    have hn10 := h.2.1
    refine v_iload_n (n := 12) dX11_told_11 rfl rfl rfl ?_
    by_cases hw12_0 : xb = 0
    · refine v_table (tgt := 60) (off := 48) dX11_told_12 (by rw [hw12_0, t_0]; decide) (by rw [hw12_0, t_0]; rfl) (by decide) ?_
      refine v_aload_n (n := 61) dX11_told_60 rfl rfl rfl ?_
      refine v_iload_n (n := 62) dX11_told_61 rfl rfl rfl ?_
      refine v_iload_n (n := 63) dX11_told_62 rfl rfl rfl ?_
      rw [hw12_0, show (0 : Int32) = nI 0 from rfl]
      refine v_cVi (n := 66) (x := (I (m + 1) (76 + 4 * y))) mc_X11_of l_X11_110 iv_X11_of se_X11_of (ci := 10) ⟨by decide, rfl⟩ L.s (k_X11_of (y := y) (u := 0) L (by omega) (by decide)) ⟨rfl, rfl⟩ (l8 rfl) ⟨l8 rfl, l8 rfl⟩ rfl rfl (l8 rfl) dX11_told_63 rfl ?_
      exact v_iret rfl ⟨by rw [toldS, if_pos (bi_n0.mp hq5), nI_clamp (by omega)]; clear h; simp_all [show nI 0 = (0 : Int32) from rfl, show nI 1 = (1 : Int32) from rfl, show nI 2 = (2 : Int32) from rfl, show nI 3 = (3 : Int32) from rfl], rfl, Eqx.rf⟩ ⟨l8 rfl, l8 rfl⟩ dX11_told_66
    by_cases hw12_1 : xb = 1
    · refine v_table (tgt := 60) (off := 48) dX11_told_12 (by rw [hw12_1, t_1]; decide) (by rw [hw12_1, t_1]; rfl) (by decide) ?_
      refine v_aload_n (n := 61) dX11_told_60 rfl rfl rfl ?_
      refine v_iload_n (n := 62) dX11_told_61 rfl rfl rfl ?_
      refine v_iload_n (n := 63) dX11_told_62 rfl rfl rfl ?_
      rw [hw12_1, show (1 : Int32) = nI 1 from rfl]
      refine v_cVi (n := 66) (x := (I (m + 1) (76 + 4 * y + 1))) mc_X11_of l_X11_110 iv_X11_of se_X11_of (ci := 10) ⟨by decide, rfl⟩ L.s (k_X11_of (y := y) (u := 1) L (by omega) (by decide)) ⟨rfl, rfl⟩ (l8 rfl) ⟨l8 rfl, l8 rfl⟩ rfl rfl (l8 rfl) dX11_told_63 rfl ?_
      exact v_iret rfl ⟨by rw [toldS, if_pos (bi_n0.mp hq5), nI_clamp (by omega)]; clear h; simp_all [show nI 0 = (0 : Int32) from rfl, show nI 1 = (1 : Int32) from rfl, show nI 2 = (2 : Int32) from rfl, show nI 3 = (3 : Int32) from rfl], rfl, Eqx.rf⟩ ⟨l8 rfl, l8 rfl⟩ dX11_told_66
    by_cases hw12_2 : xb = 2
    · refine v_table (tgt := 60) (off := 48) dX11_told_12 (by rw [hw12_2, t_2]; decide) (by rw [hw12_2, t_2]; rfl) (by decide) ?_
      refine v_aload_n (n := 61) dX11_told_60 rfl rfl rfl ?_
      refine v_iload_n (n := 62) dX11_told_61 rfl rfl rfl ?_
      refine v_iload_n (n := 63) dX11_told_62 rfl rfl rfl ?_
      rw [hw12_2, show (2 : Int32) = nI 2 from rfl]
      refine v_cVi (n := 66) (x := (I (m + 1) (76 + 4 * y + 2))) mc_X11_of l_X11_110 iv_X11_of se_X11_of (ci := 10) ⟨by decide, rfl⟩ L.s (k_X11_of (y := y) (u := 2) L (by omega) (by decide)) ⟨rfl, rfl⟩ (l8 rfl) ⟨l8 rfl, l8 rfl⟩ rfl rfl (l8 rfl) dX11_told_63 rfl ?_
      exact v_iret rfl ⟨by rw [toldS, if_pos (bi_n0.mp hq5), nI_clamp (by omega)]; clear h; simp_all [show nI 0 = (0 : Int32) from rfl, show nI 1 = (1 : Int32) from rfl, show nI 2 = (2 : Int32) from rfl, show nI 3 = (3 : Int32) from rfl], rfl, Eqx.rf⟩ ⟨l8 rfl, l8 rfl⟩ dX11_told_66
    by_cases hw12_3 : xb = 3
    · refine v_table (tgt := 60) (off := 48) dX11_told_12 (by rw [hw12_3, t_3]; decide) (by rw [hw12_3, t_3]; rfl) (by decide) ?_
      refine v_aload_n (n := 61) dX11_told_60 rfl rfl rfl ?_
      refine v_iload_n (n := 62) dX11_told_61 rfl rfl rfl ?_
      refine v_iload_n (n := 63) dX11_told_62 rfl rfl rfl ?_
      rw [hw12_3, show (3 : Int32) = nI 3 from rfl]
      refine v_cVi (n := 66) (x := (I (m + 1) (76 + 4 * y + 3))) mc_X11_of l_X11_110 iv_X11_of se_X11_of (ci := 10) ⟨by decide, rfl⟩ L.s (k_X11_of (y := y) (u := 3) L (by omega) (by decide)) ⟨rfl, rfl⟩ (l8 rfl) ⟨l8 rfl, l8 rfl⟩ rfl rfl (l8 rfl) dX11_told_63 rfl ?_
      exact v_iret rfl ⟨by rw [toldS, if_pos (bi_n0.mp hq5), nI_clamp (by omega)]; clear h; simp_all [show nI 0 = (0 : Int32) from rfl, show nI 1 = (1 : Int32) from rfl, show nI 2 = (2 : Int32) from rfl, show nI 3 = (3 : Int32) from rfl], rfl, Eqx.rf⟩ ⟨l8 rfl, l8 rfl⟩ dX11_told_66
    by_cases hw12_4 : xb = 4
    · refine v_table (tgt := 67) (off := 55) dX11_told_12 (by rw [hw12_4, t_4]; decide) (by rw [hw12_4, t_4]; rfl) (by decide) ?_
      refine v_aload_n (n := 68) dX11_told_67 rfl rfl rfl ?_
      refine v_iload_n (n := 69) dX11_told_68 rfl rfl rfl ?_
      refine v_callV (n := 72) mc_X11_givesOf l_X11_118 iv_X11_givesOf se_X11_givesOf (ci := 10) ⟨by decide, rfl⟩ L.s (k_X11_givesOf (y := y) L h.2.2.2.2.1 h.2.2.1 h.2.2.2.1 (by omega)) ⟨rfl, rfl⟩ (l8 rfl) ⟨l8 rfl, l8 rfl⟩ rfl rfl (l8 rfl) dX11_told_69 rfl ?_
      rintro _ _ I1 ⟨rfl, rfl, hE1⟩
      exact v_iret rfl ⟨by rw [toldS, if_pos (bi_n0.mp hq5), nI_clamp (by omega)]; clear h; simp_all, rfl, hE1⟩ ⟨l8 rfl, l8 rfl⟩ dX11_told_72
    by_cases hw12_5 : xb = 5
    · refine v_table (tgt := 73) (off := 61) dX11_told_12 (by rw [hw12_5, t_5]; decide) (by rw [hw12_5, t_5]; rfl) (by decide) ?_
      refine v_aload_n (n := 74) dX11_told_73 rfl rfl rfl ?_
      refine v_iload_n (n := 75) dX11_told_74 rfl rfl rfl ?_
      refine v_cVi (n := 78) (x := (kGoes (I (m + 1) (76 + 4 * y)) (I (m + 1) 2))) mc_X11_goesOnBy l_X11_121 iv_X11_goesOnBy se_X11_goesOnBy (ci := 10) ⟨by decide, rfl⟩ L.s (k_X11_goesOnBy (y := y) L (by omega)) ⟨rfl, rfl⟩ (l8 rfl) ⟨l8 rfl, l8 rfl⟩ rfl rfl (l8 rfl) dX11_told_75 rfl ?_
      exact v_iret rfl ⟨by rw [toldS, if_pos (bi_n0.mp hq5), nI_clamp (by omega)]; clear h; simp_all, rfl, Eqx.rf⟩ ⟨l8 rfl, l8 rfl⟩ dX11_told_78
    by_cases hw12_6 : xb = 6
    · refine v_table (tgt := 79) (off := 67) dX11_told_12 (by rw [hw12_6, t_6]; decide) (by rw [hw12_6, t_6]; rfl) (by decide) ?_
      refine v_aload_n (n := 80) dX11_told_79 rfl rfl rfl ?_
      refine v_iload_n (n := 81) dX11_told_80 rfl rfl rfl ?_
      refine v_cVi (n := 84) (x := (kWorthM (I (m + 1) (76 + 4 * y)) (I (m + 1) (76 + 4 * y + 1)) (I (m + 1) (76 + 4 * y + 2)))) mc_X11_worthOf l_X11_124 iv_X11_worthOf se_X11_worthOf (ci := 10) ⟨by decide, rfl⟩ L.s (k_X11_worthOf (y := y) L (by omega)) ⟨rfl, rfl⟩ (l8 rfl) ⟨l8 rfl, l8 rfl⟩ rfl rfl (l8 rfl) dX11_told_81 rfl ?_
      exact v_iret rfl ⟨by rw [toldS, if_pos (bi_n0.mp hq5), nI_clamp (by omega)]; clear h; simp_all, rfl, Eqx.rf⟩ ⟨l8 rfl, l8 rfl⟩ dX11_told_84
    by_cases hw12_7 : xb = 7
    · refine v_table (tgt := 85) (off := 73) dX11_told_12 (by rw [hw12_7, t_7]; decide) (by rw [hw12_7, t_7]; rfl) (by decide) ?_
      refine v_aload_n (n := 86) dX11_told_85 rfl rfl rfl ?_
      refine v_iload_n (n := 87) dX11_told_86 rfl rfl rfl ?_
      refine v_cVi (n := 90) (x := (ledS (I (m + 1)) (nI y) l)) mc_X11_ledTo l_X11_127 iv_X11_ledTo se_X11_ledTo (ci := 10) ⟨by decide, rfl⟩ L.s (k_X11_ledTo (l := l) L h.2.2.1 h.2.2.2.1) ⟨rfl, rfl⟩ (l8 rfl) ⟨l8 rfl, l8 rfl⟩ rfl rfl (l8 rfl) dX11_told_87 rfl ?_
      exact v_iret rfl ⟨by rw [toldS, if_pos (bi_n0.mp hq5), nI_clamp (by omega)]; clear h; simp_all, rfl, Eqx.rf⟩ ⟨l8 rfl, l8 rfl⟩ dX11_told_90
    refine v_tableO (tgt := 91) dX11_told_12 (sw_out8 (lo := 0) hw12_0 hw12_1 hw12_2 hw12_3 hw12_4 hw12_5 hw12_6 hw12_7 t_0 t_1 t_2 t_3 t_4 t_5 t_6 t_7) (by decide) ?_
    refine v_ldc (n := 93) k_X11_90 dX11_told_91 rfl ?_
    exact v_iret rfl ⟨by rw [toldS, if_pos (bi_n0.mp hq5), nI_clamp (by omega)]; clear h; simp_all, rfl, Eqx.rf⟩ ⟨l8 rfl, l8 rfl⟩ dX11_told_93
  · refine v_ldc (n := 10) k_X11_90 dX11_told_8 rfl ?_
    exact v_iret rfl ⟨by clear h; simp_all [bi_0, bi_n0, toldS], rfl, Eqx.rf⟩ ⟨l8 rfl, l8 rfl⟩ dX11_told_10

set_option maxRecDepth 100000 in
set_option maxHeartbeats 1000000 in
theorem k_X11_ball {ro : Ro} {S : St} {I : In} {xa : Int32} {m T n l b : Nat} (L : LayM S m) (h : WX (I (m + 1)) T n l b) : Ok mX11_ball ro 3 0 0 [.ref m, .int xa] S I (fun r S' I' => r = some (.int (ballS (I (m + 1)) T l xa)) ∧ S' = S ∧ Eqx (scM m) I I') := by
  refine ok_of (al := [.ref m, .int xa]) (by decide) (l8 rfl) rfl ?_
  refine v_iload_n (n := 1) dX11_ball_0 rfl rfl rfl ?_
  by_cases hw1_0 : xa = 0
  · refine v_table (tgt := 36) (off := 35) dX11_ball_1 (by rw [hw1_0, t_0]; decide) (by rw [hw1_0, t_0]; rfl) (by decide) ?_
    refine v_aload_n (n := 37) dX11_ball_36 rfl rfl rfl ?_
    refine v_cVi (n := 40) (x := (wS (I (m + 1)) l)) mc_X11_weight l_X11_100 iv_X11_weight se_X11_weight (ci := 10) ⟨by decide, rfl⟩ L.s (k_X11_weight (l := l) L h.2.2.1 h.2.2.2.1) ⟨rfl, rfl⟩ (l8 rfl) ⟨l8 rfl, l8 rfl⟩ rfl rfl (l8 rfl) dX11_ball_37 rfl ?_
    exact v_iret rfl ⟨by clear h; simp_all [ballS], rfl, Eqx.rf⟩ ⟨l8 rfl, l8 rfl⟩ dX11_ball_40
  by_cases hw1_1 : xa = 1
  · refine v_table (tgt := 41) (off := 40) dX11_ball_1 (by rw [hw1_1, t_1]; decide) (by rw [hw1_1, t_1]; rfl) (by decide) ?_
    refine v_aload_n (n := 42) dX11_ball_41 rfl rfl rfl ?_
    refine v_callV (n := 45) mc_X11_wide l_X11_141 iv_X11_wide se_X11_wide (ci := 10) ⟨by decide, rfl⟩ L.s (k_X11_wide (T := T) (l := l) L h.2.2.2.2.1 h.2.2.1 h.2.2.2.1) ⟨rfl, rfl⟩ (l8 rfl) ⟨l8 rfl, l8 rfl⟩ rfl rfl (l8 rfl) dX11_ball_42 rfl ?_
    rintro _ _ I1 ⟨rfl, rfl, hE1⟩
    exact v_iret rfl ⟨by clear h; simp_all [ballS], rfl, hE1⟩ ⟨l8 rfl, l8 rfl⟩ dX11_ball_45
  by_cases hw1_2 : xa = 2
  · refine v_table (tgt := 46) (off := 45) dX11_ball_1 (by rw [hw1_2, t_2]; decide) (by rw [hw1_2, t_2]; rfl) (by decide) ?_
    refine v_aload_n (n := 47) dX11_ball_46 rfl rfl rfl ?_
    refine v_getR (n := 50) f_X11_9 rfl L.s L.g0 dX11_ball_47 rfl ?_
    refine v_bipush (n := 52) (v := 6) dX11_ball_50 b_6 rfl ?_
    refine v_iald (n := 53) (j := 6) L.c0 (ix_lit rfl rfl rfl) dX11_ball_52 rfl ?_
    exact v_iret rfl ⟨by clear h; simp_all [ballS], rfl, Eqx.rf⟩ ⟨l8 rfl, l8 rfl⟩ dX11_ball_53
  by_cases hw1_3 : xa = 3
  · refine v_table (tgt := 54) (off := 53) dX11_ball_1 (by rw [hw1_3, t_3]; decide) (by rw [hw1_3, t_3]; rfl) (by decide) ?_
    refine v_aload_n (n := 55) dX11_ball_54 rfl rfl rfl ?_
    refine v_getR (n := 58) f_X11_9 rfl L.s L.g0 dX11_ball_55 rfl ?_
    refine v_bipush (n := 60) (v := 7) dX11_ball_58 b_7 rfl ?_
    refine v_iald (n := 61) (j := 7) L.c0 (ix_lit rfl rfl rfl) dX11_ball_60 rfl ?_
    exact v_iret rfl ⟨by clear h; simp_all [ballS], rfl, Eqx.rf⟩ ⟨l8 rfl, l8 rfl⟩ dX11_ball_61
  by_cases hw1_4 : xa = 4
  · refine v_table (tgt := 62) (off := 61) dX11_ball_1 (by rw [hw1_4, t_4]; decide) (by rw [hw1_4, t_4]; rfl) (by decide) ?_
    refine v_aload_n (n := 63) dX11_ball_62 rfl rfl rfl ?_
    refine v_getR (n := 66) f_X11_9 rfl L.s L.g0 dX11_ball_63 rfl ?_
    refine v_bipush (n := 68) (v := 8) dX11_ball_66 b_8 rfl ?_
    refine v_iald (n := 69) (j := 8) L.c0 (ix_lit rfl rfl rfl) dX11_ball_68 rfl ?_
    exact v_iret rfl ⟨by clear h; simp_all [ballS], rfl, Eqx.rf⟩ ⟨l8 rfl, l8 rfl⟩ dX11_ball_69
  refine v_tableO (tgt := 70) dX11_ball_1 (sw_out5 (lo := 0) hw1_0 hw1_1 hw1_2 hw1_3 hw1_4 t_0 t_1 t_2 t_3 t_4) (by decide) ?_
  refine v_ldc (n := 72) k_X11_90 dX11_ball_70 rfl ?_
  exact v_iret rfl ⟨by clear h; simp_all [ballS], rfl, Eqx.rf⟩ ⟨l8 rfl, l8 rfl⟩ dX11_ball_72

set_option maxRecDepth 100000 in
set_option maxHeartbeats 1000000 in
theorem k_X11_pack {ro : Ro} {S : St} {I : In} {xa xb : Int32} {m T n l b : Nat} (L : LayM S m) (h : WX (I (m + 1)) T n l b) : Ok mX11_pack ro 2 0 0 [.ref m, .int xa, .int xb] S I (RI (packS (I (m + 1)) l xa xb).1 S (row I (m + 1) (packS (I (m + 1)) l xa xb).2)) := by
  refine ok_of (al := [.ref m, .int xa, .int xb]) (by decide) (l8 rfl) rfl ?_
  refine v_aload_n (n := 1) dX11_pack_0 rfl rfl rfl ?_
  refine v_iload_n (n := 2) dX11_pack_1 rfl rfl rfl ?_
  refine v_cVi (n := 5) (x := (bi (yd (I (m + 1)) xa))) mc_X11_isYard l_X11_114 iv_X11_isYard se_X11_isYard (ci := 10) ⟨by decide, rfl⟩ L.s (k_X11_isYard L) ⟨rfl, rfl⟩ (l8 rfl) ⟨l8 rfl, l8 rfl⟩ rfl rfl (l8 rfl) dX11_pack_2 rfl ?_
  refine v_if_eq (n := 8) (tgt := 19) dX11_pack_5 (by decide) rfl (fun hq5 => ?_) (fun hq5 => ?_)
  · refine v_ldc (n := 21) k_X11_90 dX11_pack_19 rfl ?_
    refine v_rI rfl ?_ rfl ?_ ⟨l8 rfl, l8 rfl⟩ dX11_pack_21
    · clear h; simp_all [bi_0, bi_n0, packS]
    · rw [show (packS (I (m + 1)) l xa xb).2 = I (m + 1) from (by clear h; simp_all [bi_0, bi_n0, packS])]; exact row_same
  · refine v_iload_n (n := 9) dX11_pack_8 rfl rfl rfl ?_
    refine v_iconst (n := 10) (v := 1) dX11_pack_9 c_1 rfl ?_
    refine v_sipush (n := 13) (v := 999) dX11_pack_10 s_999 rfl ?_
    refine v_cSi (n := 16) (x := (bi (inn xb 1 999))) mc_X11_in l_X11_78 sta_X11_in k_X11_in ⟨rfl, rfl⟩ (l8 rfl) ⟨l8 rfl, l8 rfl⟩ rfl rfl (l8 rfl) dX11_pack_13 rfl ?_
    refine v_if_ne (n := 19) (tgt := 22) dX11_pack_16 (by decide) rfl (fun hq16 => ?_) (fun hq16 => ?_)
    · obtain ⟨k, hk1, hk2, rfl⟩ := inn_get1 (a := 999) (c := 1) (bi_n0.mp hq16) (by decide) (by decide)
      obtain ⟨l2, e1, e2, -, -⟩ := pack_spec (y := xa) h.2.2.2.1 h.2.2.1 h.2.2.2.2.2.1 hk1
      have el : ln (packX (I (m + 1)) l xa (nI k)) = l2 := by rw [ln, e2, nI_clamp (by omega)]
      refine v_aload_n (n := 23) dX11_pack_22 rfl rfl rfl ?_
      refine v_iload_n (n := 24) dX11_pack_23 rfl rfl rfl ?_
      refine v_iload_n (n := 25) dX11_pack_24 rfl rfl rfl ?_
      refine v_cVv (n := 28) mc_X11_packs l_X11_144 iv_X11_packs se_X11_packs (ci := 10) ⟨by decide, rfl⟩ L.s (k_X11_packs (l := l) L h.2.2.1 h.2.2.2.1) ⟨rfl, rfl⟩ (l8 rfl) ⟨l8 rfl, l8 rfl⟩ rfl rfl (l8 rfl) dX11_pack_25 rfl ?_
      refine v_aload_n (n := 29) dX11_pack_28 rfl rfl rfl ?_
      refine v_cVi (n := 32) (x := (wS ((row I (m + 1) (packX (I (m + 1)) l xa (nI k))) (m + 1)) l2)) mc_X11_weight l_X11_100 iv_X11_weight se_X11_weight (ci := 10) ⟨by decide, rfl⟩ L.s (k_X11_weight (l := l2) L (by rw [row_s]; exact e2) e1) ⟨rfl, rfl⟩ (l8 rfl) ⟨l8 rfl, l8 rfl⟩ rfl rfl (l8 rfl) dX11_pack_29 rfl ?_
      have hg : (yd (I (m + 1)) xa && inn (nI k) 1 999) = true := by simp only [Bool.and_eq_true]; exact ⟨bi_n0.mp hq5, bi_n0.mp hq16⟩
      exact v_rI rfl (by rw [packS, if_pos hg, el, row_s]) rfl (by rw [packS, if_pos hg]) ⟨l8 rfl, l8 rfl⟩ dX11_pack_32
    · refine v_ldc (n := 21) k_X11_90 dX11_pack_19 rfl ?_
      refine v_rI rfl ?_ rfl ?_ ⟨l8 rfl, l8 rfl⟩ dX11_pack_21
      · clear h; simp_all [bi_0, bi_n0, packS]
      · rw [show (packS (I (m + 1)) l xa xb).2 = I (m + 1) from (by clear h; simp_all [bi_0, bi_n0, packS])]; exact row_same

set_option maxRecDepth 100000 in
set_option maxHeartbeats 1000000 in
theorem k_X11_fine {ro : Ro} {S : St} {I : In} {xa : Int32} {m T n l b : Nat} (L : LayM S m) (h : WX (I (m + 1)) T n l b) : Ok mX11_fine ro 2 0 0 [.ref m, .int xa] S I (fun r S' I' => r = some (.int (fineS (I (m + 1)) T l xa)) ∧ S' = S ∧ Eqx (scM m) I I') := by
  refine ok_of (al := [.ref m, .int xa, JJ]) (by decide) (l8 rfl) rfl ?_
  refine v_aload_n (n := 1) dX11_fine_0 rfl rfl rfl ?_
  refine v_iload_n (n := 2) dX11_fine_1 rfl rfl rfl ?_
  refine v_cVi (n := 5) (x := (bi (yd (I (m + 1)) xa))) mc_X11_isYard l_X11_114 iv_X11_isYard se_X11_isYard (ci := 10) ⟨by decide, rfl⟩ L.s (k_X11_isYard L) ⟨rfl, rfl⟩ (l8 rfl) ⟨l8 rfl, l8 rfl⟩ rfl rfl (l8 rfl) dX11_fine_2 rfl ?_
  refine v_if_ne (n := 8) (tgt := 11) dX11_fine_5 (by decide) rfl (fun hq5 => ?_) (fun hq5 => ?_)
  · obtain ⟨y, hy, rfl⟩ := yd_get (bi_n0.mp hq5) h.1 h.2.1
    have hn10 := h.2.1
    refine v_aload_n (n := 12) dX11_fine_11 rfl rfl rfl ?_
    refine v_iconst (n := 13) (v := 2) dX11_fine_12 c_2 rfl ?_
    refine v_cVi (n := 16) (x := (cnt (I (m + 1)) 2 T)) mc_X11_counts l_X11_96 iv_X11_counts se_X11_counts (ci := 10) ⟨by decide, rfl⟩ L.s (k_X11_counts L h.2.2.2.2.1.1 h.2.2.2.2.1.2.1) ⟨rfl, rfl⟩ (l8 rfl) ⟨l8 rfl, l8 rfl⟩ rfl rfl (l8 rfl) dX11_fine_13 rfl ?_
    refine v_istore_n (n := 17) (al' := [.ref m, .int (nI y), .int (cnt (I (m + 1)) 2 T)]) dX11_fine_16 rfl rfl rfl rfl ?_
    refine v_aload_n (n := 18) dX11_fine_17 rfl rfl rfl ?_
    refine v_getR (n := 21) f_X11_48 rfl L.s L.g23 dX11_fine_18 rfl ?_
    refine v_iconst (n := 22) (v := 0) dX11_fine_21 c_0 rfl ?_
    refine v_aload_n (n := 23) dX11_fine_22 rfl rfl rfl ?_
    refine v_cVi (n := 26) (x := (wS (I (m + 1)) l)) mc_X11_weight l_X11_100 iv_X11_weight se_X11_weight (ci := 10) ⟨by decide, rfl⟩ L.s (k_X11_weight (l := l) L h.2.2.1 h.2.2.2.1) ⟨rfl, rfl⟩ (l8 rfl) ⟨l8 rfl, l8 rfl⟩ rfl rfl (l8 rfl) dX11_fine_23 rfl ?_
    refine v_iast (n := 27) (j := 0) L.c23 (ix_lit rfl rfl rfl) dX11_fine_26 rfl ?_
    obtain ⟨I0, hI0⟩ : ∃ J9q : In, J9q = (setI I (m + 13) 0 (wS (I (m + 1)) l)) := ⟨_, rfl⟩
    rw [← hI0]
    have hX0 : I0 (m + 1) = I (m + 1) := by rw [hI0, setI_ne (by omega)]
    refine v_aload_n (n := 28) dX11_fine_27 rfl rfl rfl ?_
    refine v_getR (n := 31) f_X11_48 rfl L.s L.g23 dX11_fine_28 rfl ?_
    refine v_iconst (n := 32) (v := 1) dX11_fine_31 c_1 rfl ?_
    refine v_aload_n (n := 33) dX11_fine_32 rfl rfl rfl ?_
    refine v_iload_n (n := 34) dX11_fine_33 rfl rfl rfl ?_
    refine v_iconst (n := 35) (v := 3) dX11_fine_34 c_3 rfl ?_
    refine v_cVi (n := 38) (x := (I0 (m + 1) (76 + 4 * y + 3))) mc_X11_of l_X11_110 iv_X11_of se_X11_of (ci := 10) ⟨by decide, rfl⟩ L.s (k_X11_of (y := y) (u := 3) L (by omega) (by decide)) ⟨rfl, rfl⟩ (l8 rfl) ⟨l8 rfl, l8 rfl⟩ rfl rfl (l8 rfl) dX11_fine_35 rfl ?_
    refine v_iast (n := 39) (j := 1) L.c23 (ix_lit rfl rfl rfl) dX11_fine_38 rfl ?_
    obtain ⟨I1, hI1⟩ : ∃ J9q : In, J9q = (setI I0 (m + 13) 1 (I0 (m + 1) (76 + 4 * y + 3))) := ⟨_, rfl⟩
    rw [← hI1]
    rw [hX0] at hI1
    have hX1 : I1 (m + 1) = I (m + 1) := by rw [hI1, setI_ne (by omega)]; exact hX0
    have hE1 : Eqx (scM m) I I1 := by rw [hI1, hI0]; exact (Eqx.rf.set (Or.inr rfl)).set (Or.inr rfl)
    refine v_iload_n (n := 40) dX11_fine_39 rfl rfl rfl ?_
    refine v_if_ge (n := 43) (tgt := 52) dX11_fine_40 (by decide) rfl (fun hq40 => ?_) (fun hq40 => ?_)
    · have hq40 := Int32.not_lt.mpr hq40
      obtain ⟨t, n0, na, ht, hc, h9, hn0, hna, hwf⟩ := cnt_get (k := 2) h.2.2.2.2.1 (by decide) hq40
      have hc : cnt (I (m + 1)) 2 T = nI t := hc
      have ht14 := h.2.2.2.2.1.2.1
      rw [hc]
      refine v_aload_n (n := 53) dX11_fine_52 rfl rfl rfl ?_
      refine v_iload_n (n := 54) dX11_fine_53 rfl rfl rfl ?_
      refine v_callV (n := 57) mc_X11_worksOut l_X11_104 iv_X11_worksOut se_X11_worksOut (ci := 10) ⟨by decide, rfl⟩ L.s (k_X11_worksOut (t := t) L (by omega) (by rw [hX1]; exact hn0) (by rw [hX1]; exact hwf) (by decide)) ⟨rfl, rfl⟩ (l8 rfl) ⟨l8 rfl, l8 rfl⟩ rfl rfl (l8 rfl) dX11_fine_54 rfl ?_
      rintro _ _ I2 ⟨rfl, rfl, f0, hI2⟩
      refine v_iret rfl ⟨?_, rfl, hE1.tr (by rw [hI2]; exact fun a ha => row_o (fun q => ha (Or.inl q)))⟩ ⟨l8 rfl, l8 rfl⟩ dX11_fine_57
      rw [fineS, if_pos (bi_n0.mp hq5), nI_clamp (by omega), txt, if_neg hq40, hc, nI_clamp (by omega), hX1]
      rw [wkO_eq (fb := fa3 (wS (I (m + 1)) l) (I (m + 1) (76 + 4 * y + 3)) 0) hn0 h9 hwf]
      intro i hi
      rcases (show i = 0 ∨ i = 1 by simp [nfs] at hi; omega) with rfl | rfl
      · rw [hI1, hI0]; simp [setI, fa3]
      · rw [hI1]; simp [setI, fa3]
    · have hq40 := Int32.not_le.mp hq40
      refine v_aload_n (n := 44) dX11_fine_43 rfl rfl rfl ?_
      refine v_iload_n (n := 45) dX11_fine_44 rfl rfl rfl ?_
      refine v_iconst (n := 46) (v := 3) dX11_fine_45 c_3 rfl ?_
      refine v_cVi (n := 49) (x := (I1 (m + 1) (76 + 4 * y + 3))) mc_X11_of l_X11_110 iv_X11_of se_X11_of (ci := 10) ⟨by decide, rfl⟩ L.s (k_X11_of (y := y) (u := 3) L (by omega) (by decide)) ⟨rfl, rfl⟩ (l8 rfl) ⟨l8 rfl, l8 rfl⟩ rfl rfl (l8 rfl) dX11_fine_46 rfl ?_
      refine v_goto (tgt := 57) dX11_fine_49 (by decide) ?_
      exact v_iret rfl ⟨by rw [fineS, if_pos (bi_n0.mp hq5), nI_clamp (by omega), txt, if_pos hq40, hX1], rfl, hE1⟩ ⟨l8 rfl, l8 rfl⟩ dX11_fine_57
  · refine v_ldc (n := 10) k_X11_90 dX11_fine_8 rfl ?_
    exact v_iret rfl ⟨by clear h; simp_all [bi_0, bi_n0, fineS], rfl, Eqx.rf⟩ ⟨l8 rfl, l8 rfl⟩ dX11_fine_10

set_option maxRecDepth 100000 in
set_option maxHeartbeats 1000000 in
theorem l_X11_most {ro : Ro} {S : St} {I : In} {m T n l b : Nat} (L : LayM S m) (h : WX (I (m + 1)) T n l b) (h0 : ¬ I (m + 1) 7 = 0) : ∀ k i, i ≤ n - 1 → n < i + k → V RX11 cX11_most 3 (some .int) "most" ro (rmD 1 0 0) (QM 0 0 (RI (mostS (I (m + 1)) n l) S I)) 0 0 17 [.ref m, .int (mstF (I (m + 1)) l i), .int (nI (i + 1))] [] S I := by
  have hn10 := h.2.1
  intro k
  induction k with
  | zero => intro i hi hk; exact absurd hk (by omega)
  | succ k ih =>
    intro i hi hk
    refine v_iload_n (n := 18) dX11_most_17 rfl rfl rfl ?_
    refine v_aload_n (n := 19) dX11_most_18 rfl rfl rfl ?_
    refine v_getR (n := 22) f_X11_9 rfl L.s L.g0 dX11_most_19 rfl ?_
    refine v_iconst (n := 23) (v := 1) dX11_most_22 c_1 rfl ?_
    refine v_iald (n := 24) (j := 1) L.c0 (ix_lit rfl rfl rfl) dX11_most_23 rfl ?_
    refine v_icmp_ge (n := 27) (tgt := 52) dX11_most_24 (by decide) rfl (fun hq24 => ?_) (fun hq24 => ?_)
    · rw [h.1] at hq24
      obtain rfl : i = n - 1 := by
        have := le_out hq24 (by omega) (by omega)
        omega
      refine v_iload_n (n := 53) dX11_most_52 rfl rfl rfl ?_
      exact v_rI rfl (by rw [mostS, if_neg h0]) rfl rfl ⟨l8 rfl, l8 rfl⟩ dX11_most_53
    · rw [h.1] at hq24
      have hlt := nle_in hq24 (by omega) (by omega)
      refine v_aload_n (n := 28) dX11_most_27 rfl rfl rfl ?_
      refine v_iload_n (n := 29) dX11_most_28 rfl rfl rfl ?_
      refine v_cVi (n := 32) (x := (ledS (I (m + 1)) (nI (i + 1)) l)) mc_X11_ledTo l_X11_127 iv_X11_ledTo se_X11_ledTo (ci := 10) ⟨by decide, rfl⟩ L.s (k_X11_ledTo (l := l) L h.2.2.1 h.2.2.2.1) ⟨rfl, rfl⟩ (l8 rfl) ⟨l8 rfl, l8 rfl⟩ rfl rfl (l8 rfl) dX11_most_29 rfl ?_
      refine v_aload_n (n := 33) dX11_most_32 rfl rfl rfl ?_
      refine v_iload_n (n := 34) dX11_most_33 rfl rfl rfl ?_
      refine v_cVi (n := 37) (x := (ledS (I (m + 1)) (mstF (I (m + 1)) l i) l)) mc_X11_ledTo l_X11_127 iv_X11_ledTo se_X11_ledTo (ci := 10) ⟨by decide, rfl⟩ L.s (k_X11_ledTo (l := l) L h.2.2.1 h.2.2.2.1) ⟨rfl, rfl⟩ (l8 rfl) ⟨l8 rfl, l8 rfl⟩ rfl rfl (l8 rfl) dX11_most_34 rfl ?_
      refine v_icmp_le (n := 40) (tgt := 44) dX11_most_37 (by decide) rfl (fun hq37 => ?_) (fun hq37 => ?_)
      · refine v_iload_n (n := 45) dX11_most_44 rfl rfl rfl ?_
        refine v_istore_n (n := 46) (al' := [.ref m, .int (mstF (I (m + 1)) l i), .int (nI (i + 1))]) dX11_most_45 rfl rfl rfl rfl ?_
        refine v_iinc (n := 49) (v := (nI (i + 1)) + 1) (al' := [.ref m, .int (mstF (I (m + 1)) l i), .int ((nI (i + 1)) + 1)]) dX11_most_46 rfl (by rw [c_1]) rfl rfl rfl ?_
        refine v_goto (tgt := 17) dX11_most_49 (by decide) ?_
        rw [nI_1]
        rw [show (mstF (I (m + 1)) l i) = mstF (I (m + 1)) l (i + 1) from (if_pos hq37).symm]
        exact ih (i + 1) (by omega) (by omega)
      · refine v_iload_n (n := 41) dX11_most_40 rfl rfl rfl ?_
        refine v_goto (tgt := 45) dX11_most_41 (by decide) ?_
        refine v_istore_n (n := 46) (al' := [.ref m, .int (nI (i + 1)), .int (nI (i + 1))]) dX11_most_45 rfl rfl rfl rfl ?_
        refine v_iinc (n := 49) (v := (nI (i + 1)) + 1) (al' := [.ref m, .int (nI (i + 1)), .int ((nI (i + 1)) + 1)]) dX11_most_46 rfl (by rw [c_1]) rfl rfl rfl ?_
        refine v_goto (tgt := 17) dX11_most_49 (by decide) ?_
        rw [nI_1]
        rw [show (nI (i + 1)) = mstF (I (m + 1)) l (i + 1) from (if_neg hq37).symm]
        exact ih (i + 1) (by omega) (by omega)

set_option maxRecDepth 100000 in
set_option maxHeartbeats 1000000 in
theorem k_X11_most {ro : Ro} {S : St} {I : In} {m T n l b : Nat} (L : LayM S m) (h : WX (I (m + 1)) T n l b) : Ok mX11_most ro 1 0 0 [.ref m] S I (RI (mostS (I (m + 1)) n l) S I) := by
  refine ok_of (al := [.ref m, JJ, JJ]) (by decide) (l8 rfl) rfl ?_
  refine v_aload_n (n := 1) dX11_most_0 rfl rfl rfl ?_
  refine v_getR (n := 4) f_X11_9 rfl L.s L.g0 dX11_most_1 rfl ?_
  refine v_bipush (n := 6) (v := 7) dX11_most_4 b_7 rfl ?_
  refine v_iald (n := 7) (j := 7) L.c0 (ix_lit rfl rfl rfl) dX11_most_6 rfl ?_
  refine v_if_ne (n := 10) (tgt := 13) dX11_most_7 (by decide) rfl (fun hq7 => ?_) (fun hq7 => ?_)
  · refine v_iconst (n := 14) (v := 0) dX11_most_13 c_0 rfl ?_
    refine v_istore_n (n := 15) (al' := [.ref m, .int 0, JJ]) dX11_most_14 rfl rfl rfl rfl ?_
    refine v_iconst (n := 16) (v := 1) dX11_most_15 c_1 rfl ?_
    refine v_istore_n (n := 17) (al' := [.ref m, .int 0, .int 1]) dX11_most_16 rfl rfl rfl rfl ?_
    exact l_X11_most L h hq7 (n + 1) 0 (Nat.zero_le _) (by omega)
  · refine v_ldc (n := 12) k_X11_152 dX11_most_10 rfl ?_
    exact v_rI rfl (by rw [mostS, if_pos hq7]) rfl rfl ⟨l8 rfl, l8 rfl⟩ dX11_most_12

set_option maxRecDepth 100000 in
set_option maxHeartbeats 1000000 in
theorem k_X11_days {ro : Ro} {S : St} {I : In} {xa : Int32} {m T n l b : Nat} (L : LayM S m) (h : WX (I (m + 1)) T n l b) (hb : b < 900000000) (hm : mvOk (I (m + 1))) : Ok mX11_days ro 6 0 0 [.ref m, .int xa] S I (fun r S' I' => r = some (.int (daysS (I (m + 1)) T n xa).1) ∧ S' = S ∧ I' (m + 1) = (daysS (I (m + 1)) T n xa).2 ∧ Eqx (scN m) I I') := by
  refine ok_of (al := [.ref m, .int xa]) (by decide) (l8 rfl) rfl ?_
  refine v_iload_n (n := 1) dX11_days_0 rfl rfl rfl ?_
  refine v_iconst (n := 2) (v := 1) dX11_days_1 c_1 rfl ?_
  refine v_bipush (n := 4) (v := 100) dX11_days_2 b_100 rfl ?_
  refine v_cSi (n := 7) (x := (bi (inn xa 1 100))) mc_X11_in l_X11_78 sta_X11_in k_X11_in ⟨rfl, rfl⟩ (l8 rfl) ⟨l8 rfl, l8 rfl⟩ rfl rfl (l8 rfl) dX11_days_4 rfl ?_
  refine v_if_eq (n := 10) (tgt := 32) dX11_days_7 (by decide) rfl (fun hq7 => ?_) (fun hq7 => ?_)
  · refine v_ldc (n := 34) k_X11_90 dX11_days_32 rfl ?_
    exact v_iret rfl ⟨by clear h; simp_all [bi_0, bi_n0, daysS], rfl, by rw [daysS, if_neg (by simp [bi_0.mp hq7])], Eqx.rf⟩ ⟨l8 rfl, l8 rfl⟩ dX11_days_34
  · obtain ⟨k, hk1, hk2, rfl⟩ := inn_get1 (a := 100) (c := 1) (bi_n0.mp hq7) (by decide) (by decide)
    obtain ⟨K, hK, eK⟩ := win_rng (9999 - (I (m + 1) 2)) (s := k) (by omega)
    refine v_aload_n (n := 11) dX11_days_10 rfl rfl rfl ?_
    refine v_sipush (n := 14) (v := 9999) dX11_days_11 s_9999 rfl ?_
    refine v_aload_n (n := 15) dX11_days_14 rfl rfl rfl ?_
    refine v_getR (n := 18) f_X11_9 rfl L.s L.g0 dX11_days_15 rfl ?_
    refine v_iconst (n := 19) (v := 2) dX11_days_18 c_2 rfl ?_
    refine v_iald (n := 20) (j := 2) L.c0 (ix_lit rfl rfl rfl) dX11_days_19 rfl ?_
    refine v_isub (n := 21) dX11_days_20 rfl ?_
    refine v_iconst (n := 22) (v := 0) dX11_days_21 c_0 rfl ?_
    refine v_iload_n (n := 23) dX11_days_22 rfl rfl rfl ?_
    refine v_cSi (n := 26) (x := (win (9999 - (I (m + 1) 2)) 0 (nI k))) mc_X11_within l_X11_107 sta_X11_within k_X11_within ⟨rfl, rfl⟩ (l8 rfl) ⟨l8 rfl, l8 rfl⟩ rfl rfl (l8 rfl) dX11_days_23 rfl ?_
    rw [eK]
    refine v_callV (n := 29) mc_X11_goesOn l_X11_163 iv_X11_goesOn se_X11_goesOn (ci := 10) ⟨by decide, rfl⟩ L.s (k_X11_goesOn (T := T) (n := n) L h (by omega) (by omega) hm) ⟨rfl, rfl⟩ (l8 rfl) ⟨l8 rfl, l8 rfl⟩ rfl rfl (l8 rfl) dX11_days_26 rfl ?_
    rintro _ _ J ⟨rfl, rfl, hJ, hE⟩
    refine v_goto (tgt := 34) dX11_days_29 (by decide) ?_
    exact v_iret rfl ⟨by rw [daysS, if_pos (bi_n0.mp hq7), eK, nI_clamp (by omega)], rfl, by rw [hJ, daysS, if_pos (bi_n0.mp hq7), eK, nI_clamp (by omega)], hE⟩ ⟨l8 rfl, l8 rfl⟩ dX11_days_34

