theorem KOk.cong0 {X : Ar} {l : Nat} {z : Int32} (h : KOk X l) : KOk (upd X 0 z) l := fun i hi => by
  rw [pk_un (by omega)]; exact h i hi
theorem kGoes_rng (k d : Int32) : kGoes k d = 0 ∨ kGoes k d = 1 ∨ kGoes k d = 2 := by
  unfold kGoes
  split
  · exact Or.inr (Or.inr rfl)
  · split
    · split
      · exact Or.inl rfl
      · exact Or.inr (Or.inl rfl)
    · exact Or.inr (Or.inl rfl)
theorem dyS_rng {X : Ar} {mv : Int32} (h : -10 ≤ mv.toInt ∧ mv.toInt ≤ 10) : -20 ≤ (dyS X mv).toInt ∧ (dyS X mv).toInt ≤ 20 := by
  unfold dyS
  have e : ∀ c : Int32, c.toInt = 0 ∨ c.toInt = 1 ∨ c.toInt = 2 → -20 ≤ (c + mv).toInt ∧ (c + mv).toInt ≤ 20 := fun c hc => by
    rw [Int32.toInt_add, Int.bmod_eq_of_le (by omega) (by omega)]; omega
  rcases kGoes_rng (X (76 + 4 * pl X)) (X 2) with q | q | q <;> rw [q] <;> exact e _ (by decide)

set_option maxRecDepth 100000 in
set_option maxHeartbeats 1000000 in
theorem k_X11_day {ro : Ro} {S : St} {I : In} {m T n l b : Nat} {mv : Int32} (L : LayM S m) (h : WX (I (m + 1)) T n l b) (hb : b + 999 < 2 ^ 30) (hmv : -10 ≤ mv.toInt ∧ mv.toInt ≤ 10) : Ok mX11_day ro 4 0 0 [.ref m, .int mv] S I (fun r S' I' => r = some (.int (dayN (I (m + 1)) T n l mv)) ∧ S' = S ∧ I' (m + 1) = dayX (I (m + 1)) T n l mv ∧ Eqx (scN m) I I') := by
  have hn10 := h.2.1
  refine ok_of (al := [.ref m, .int mv, JJ, JJ, JJ, JJ, JJ]) (by decide) (l8 rfl) rfl ?_
  refine v_iconst (n := 1) (v := 0) dX11_day_0 c_0 rfl ?_
  refine v_istore_n (n := 2) (al' := [.ref m, .int mv, .int 0, JJ, JJ, JJ, JJ]) dX11_day_1 rfl rfl rfl rfl ?_
  refine v_aload_n (n := 3) dX11_day_2 rfl rfl rfl ?_
  refine v_getR (n := 6) f_X11_9 rfl L.s L.g0 dX11_day_3 rfl ?_
  refine v_iconst (n := 7) (v := 1) dX11_day_6 c_1 rfl ?_
  refine v_iald (n := 8) (j := 1) L.c0 (ix_lit rfl rfl rfl) dX11_day_7 rfl ?_
  refine v_if_le (n := 11) (tgt := 286) dX11_day_8 (by decide) rfl (fun hq8 => ?_) (fun hq8 => ?_)
  · have hn0 : n = 0 := by
      rcases Nat.eq_zero_or_pos n with h0 | h0
      · exact h0
      · exact absurd hq8 (by rw [h.1]; exact nI_nle h0 (by omega))
    refine v_drop 1 (al' := [.ref m, JJ, .int 0, JJ, JJ, JJ, JJ]) rfl ?_
    rw [show dayN (I (m + 1)) T n l mv = 0 from if_pos hn0, show dayX (I (m + 1)) T n l mv = upd (I (m + 1)) 2 (I (m + 1) 2 + 1) from if_pos hn0]
    exact d286 L Eqx.rf rfl
  · have hn0 : 0 < n := by
      rcases Nat.eq_zero_or_pos n with h0 | h0
      · subst h0; exact absurd (by rw [h.1]; decide) hq8
      · exact h0
    obtain ⟨p, h6, hp⟩ := h.2.2.2.2.2.2.1
    have hp : p < n := by omega
    have hpl : pl (I (m + 1)) = p := by rw [pl, h6, nI_clamp (by omega)]
    obtain ⟨w, hw, h3⟩ := h.2.2.2.2.2.2.2.1
    obtain ⟨a, ha, ea⟩ := dyT_rng (p := pl (I (m + 1))) hw h3
    obtain ⟨l2, g1, g2, g3, g4, g5, g6⟩ := d2_spec h (by omega)
    obtain ⟨l4, q1, q2, q3, q4, q5, q6, s4, q7, q8⟩ := d4_spec h (by omega) hp h6
    refine v_aload_n (n := 12) dX11_day_11 rfl rfl rfl ?_
    refine v_cVi (n := 15) (x := (ushr (drawZ (I (m + 1) 0)) 8)) mc_X11_draw l_X11_138 iv_X11_draw se_X11_draw (ci := 10) ⟨by decide, rfl⟩ L.s (k_X11_draw L) ⟨rfl, rfl⟩ (l8 rfl) ⟨l8 rfl, l8 rfl⟩ rfl rfl (l8 rfl) dX11_day_12 rfl ?_
    obtain ⟨J1, hJ1⟩ : ∃ J9q : In, J9q = (row I (m + 1) (upd (I (m + 1)) 0 (drawZ (I (m + 1) 0)))) := ⟨_, rfl⟩
    rw [← hJ1]
    have hE1 : Eqx (scN m) I J1 := by rw [hJ1]; exact Eqx.rf.row scN.now
    have hJX1 : J1 (m + 1) = upd (I (m + 1)) 0 (drawZ ((I (m + 1)) 0)) := by rw [hJ1, row_s]
    refine v_aload_n (n := 16) dX11_day_15 rfl rfl rfl ?_
    refine v_getR (n := 19) f_X11_9 rfl L.s L.g0 dX11_day_16 rfl ?_
    refine v_iconst (n := 20) (v := 3) dX11_day_19 c_3 rfl ?_
    refine v_iald (n := 21) (j := 3) L.c0 (ix_lit rfl rfl rfl) dX11_day_20 rfl ?_
    refine v_iconst (n := 22) (v := 1) dX11_day_21 c_1 rfl ?_
    refine v_iadd (n := 23) dX11_day_22 rfl ?_
    refine v_irem (n := 24) dX11_day_23 (by rw [hJX1, pk_un (by decide), h3, nI_1]; exact nI_ne0 (by omega) (by omega)) rfl ?_
    refine v_istore_n (n := 25) (al' := [.ref m, .int mv, .int 0, .int ((ushr (drawZ (I (m + 1) 0)) 8) % ((J1 (m + 1) 3) + 1)), JJ, JJ, JJ]) dX11_day_24 rfl rfl rfl rfl ?_
    refine v_aload_n (n := 26) dX11_day_25 rfl rfl rfl ?_
    refine v_aload_n (n := 27) dX11_day_26 rfl rfl rfl ?_
    refine v_aload_n (n := 28) dX11_day_27 rfl rfl rfl ?_
    refine v_getR (n := 31) f_X11_9 rfl L.s L.g0 dX11_day_28 rfl ?_
    refine v_bipush (n := 33) (v := 6) dX11_day_31 b_6 rfl ?_
    refine v_iald (n := 34) (j := 6) L.c0 (ix_lit rfl rfl rfl) dX11_day_33 rfl ?_
    rw [show J1 (m + 1) 6 = nI p from by rw [hJX1, pk_un (by decide)]; exact h6]
    refine v_iconst (n := 35) (v := 0) dX11_day_34 c_0 rfl ?_
    refine v_cVi (n := 38) (x := (J1 (m + 1) (76 + 4 * p))) mc_X11_of l_X11_110 iv_X11_of se_X11_of (ci := 10) ⟨by decide, rfl⟩ L.s (k_X11_of (y := p) (u := 0) L (by omega) (by decide)) ⟨rfl, rfl⟩ (l8 rfl) ⟨l8 rfl, l8 rfl⟩ rfl rfl (l8 rfl) dX11_day_35 rfl ?_
    refine v_iconst (n := 39) (v := 5) dX11_day_38 c_5 rfl ?_
    refine v_icmp_ne (n := 42) (tgt := 48) dX11_day_39 (by decide) rfl (fun hq39 => ?_) (fun hq39 => ?_)
    · rw [hJX1, pk_un (by omega)] at hq39
      refine v_iload_n (n := 49) dX11_day_48 rfl rfl rfl ?_
      refine v_drop 3 (al' := [.ref m, .int mv, .int 0, JJ, JJ, JJ, JJ]) rfl ?_
      rw [show ushr (drawZ ((I (m + 1)) 0)) 8 % (J1 (m + 1) 3 + 1) = nI a from by rw [← ea, dyT, hpl, if_neg hq39, hJX1, pk_un (by decide)]]
      refine v_cVv (n := 52) mc_X11_thaws l_X11_153 iv_X11_thaws se_X11_thaws (ci := 10) ⟨by decide, rfl⟩ L.s (k_X11_thaws (l := l) (a := a) L (by rw [hJX1, pk_un (by decide)]; exact h.2.2.1) h.2.2.2.1 (by omega) (by rw [hJX1]; exact (h.2.2.2.2.2.1.ok (by omega)).cong0)) ⟨rfl, rfl⟩ (l8 rfl) ⟨l8 rfl, l8 rfl⟩ rfl rfl (l8 rfl) dX11_day_49 rfl ?_
      obtain ⟨J2, hJ2⟩ : ∃ J9q : In, J9q = (row J1 (m + 1) (thawX (J1 (m + 1)) (nI a) l)) := ⟨_, rfl⟩
      rw [← hJ2]
      have hE2 : Eqx (scN m) I J2 := by rw [hJ2]; exact hE1.row scN.now
      have hJX2 : J2 (m + 1) = dy2 (I (m + 1)) l := by rw [hJ2, row_s, hJX1, dy2, ea]
      refine v_aload_n (n := 53) dX11_day_52 rfl rfl rfl ?_
      refine v_aload_n (n := 54) dX11_day_53 rfl rfl rfl ?_
      refine v_getR (n := 57) f_X11_9 rfl L.s L.g0 dX11_day_54 rfl ?_
      refine v_bipush (n := 59) (v := 6) dX11_day_57 b_6 rfl ?_
      refine v_iald (n := 60) (j := 6) L.c0 (ix_lit rfl rfl rfl) dX11_day_59 rfl ?_
      rw [show J2 (m + 1) 6 = nI p from by rw [hJX2, g6 6 (by decide) (by decide) (by decide) (by decide) (by decide)]; exact h6]
      refine v_callV (n := 63) mc_X11_givesOf l_X11_118 iv_X11_givesOf se_X11_givesOf (ci := 10) ⟨by decide, rfl⟩ L.s (k_X11_givesOf (T := T) (l := l2) (y := p) L (by rw [hJX2]; exact g4) (by rw [hJX2]; exact g2) g1 (by omega)) ⟨rfl, rfl⟩ (l8 rfl) ⟨l8 rfl, l8 rfl⟩ rfl rfl (l8 rfl) dX11_day_60 rfl ?_
      rintro _ _ J3 ⟨rfl, rfl, hE3⟩
      have hJX3 : J3 (m + 1) = dy2 (I (m + 1)) l := hE3.now.trans hJX2
      have hE3 : Eqx (scN m) I J3 := hE2.tr (hE3.mono (fun _ q => Or.inr q))
      rw [hJX2]
      refine v_istore (n := 65) (al' := [.ref m, .int mv, .int 0, JJ, .int (givesX (dy2 (I (m + 1)) l) T l2 p), JJ, JJ]) dX11_day_63 rfl rfl rfl ?_
      refine v_aload_n (n := 66) dX11_day_65 rfl rfl rfl ?_
      refine v_aload_n (n := 67) dX11_day_66 rfl rfl rfl ?_
      refine v_getR (n := 70) f_X11_9 rfl L.s L.g0 dX11_day_67 rfl ?_
      refine v_bipush (n := 72) (v := 6) dX11_day_70 b_6 rfl ?_
      refine v_iald (n := 73) (j := 6) L.c0 (ix_lit rfl rfl rfl) dX11_day_72 rfl ?_
      rw [show J3 (m + 1) 6 = nI p from by rw [hJX3, g6 6 (by decide) (by decide) (by decide) (by decide) (by decide)]; exact h6]
      refine v_iconst (n := 74) (v := 1) dX11_day_73 c_1 rfl ?_
      refine v_aload_n (n := 75) dX11_day_74 rfl rfl rfl ?_
      refine v_aload_n (n := 76) dX11_day_75 rfl rfl rfl ?_
      refine v_getR (n := 79) f_X11_9 rfl L.s L.g0 dX11_day_76 rfl ?_
      refine v_bipush (n := 81) (v := 6) dX11_day_79 b_6 rfl ?_
      refine v_iald (n := 82) (j := 6) L.c0 (ix_lit rfl rfl rfl) dX11_day_81 rfl ?_
      rw [show J3 (m + 1) 6 = nI p from by rw [hJX3, g6 6 (by decide) (by decide) (by decide) (by decide) (by decide)]; exact h6]
      refine v_iconst (n := 83) (v := 1) dX11_day_82 c_1 rfl ?_
      refine v_cVi (n := 86) (x := (J3 (m + 1) (76 + 4 * p + 1))) mc_X11_of l_X11_110 iv_X11_of se_X11_of (ci := 10) ⟨by decide, rfl⟩ L.s (k_X11_of (y := p) (u := 1) L (by omega) (by decide)) ⟨rfl, rfl⟩ (l8 rfl) ⟨l8 rfl, l8 rfl⟩ rfl rfl (l8 rfl) dX11_day_83 rfl ?_
      refine v_iload (n := 88) dX11_day_86 rfl rfl ?_
      refine v_isub (n := 89) dX11_day_88 rfl ?_
      refine v_cVv (n := 92) mc_X11_put l_X11_82 iv_X11_put se_X11_put (ci := 10) ⟨by decide, rfl⟩ L.s (k_X11_put (y := p) (u := 1) L (by omega) (by decide)) ⟨rfl, rfl⟩ (l8 rfl) ⟨l8 rfl, l8 rfl⟩ rfl rfl (l8 rfl) dX11_day_89 rfl ?_
      obtain ⟨J4, hJ4⟩ : ∃ J9q : In, J9q = (row J3 (m + 1) (upd (J3 (m + 1)) (76 + 4 * p + 1) ((J3 (m + 1) (76 + 4 * p + 1)) - (givesX (dy2 (I (m + 1)) l) T l2 p)))) := ⟨_, rfl⟩
      rw [← hJ4]
      have hE4 : Eqx (scN m) I J4 := by rw [hJ4]; exact hE3.row scN.now
      have hJX4 : J4 (m + 1) = dy3 (I (m + 1)) T l := by rw [hJ4, row_s, hJX3, dy3, hpl, g3]
      refine v_iload (n := 94) dX11_day_92 rfl rfl ?_
      refine v_if_le (n := 97) (tgt := 110) dX11_day_94 (by decide) rfl (fun hq94 => ?_) (fun hq94 => ?_)
      · obtain ⟨J5, hJ5⟩ : ∃ J9q : In, J9q = J4 := ⟨_, rfl⟩
        rw [← hJ5]
        have hq94 := Int32.not_lt.mpr hq94
        have hE5 : Eqx (scN m) I J5 := by rw [hJ5]; exact hE4
        have hJX5 : J5 (m + 1) = dy4 (I (m + 1)) T l := by rw [hJ5, hJX4, dy4, hpl, g3, if_neg hq94]
        refine v_aload_n (n := 111) dX11_day_110 rfl rfl rfl ?_
        refine v_aload_n (n := 112) dX11_day_111 rfl rfl rfl ?_
        refine v_getR (n := 115) f_X11_9 rfl L.s L.g0 dX11_day_112 rfl ?_
        refine v_bipush (n := 117) (v := 6) dX11_day_115 b_6 rfl ?_
        refine v_iald (n := 118) (j := 6) L.c0 (ix_lit rfl rfl rfl) dX11_day_117 rfl ?_
        rw [show J5 (m + 1) 6 = nI p from by rw [hJX5, q6 6 (by decide) (by decide) (by decide) (by decide) (by omega)]; exact h6]
        refine v_cVi (n := 121) (x := (kGoes (J5 (m + 1) (76 + 4 * p)) (J5 (m + 1) 2))) mc_X11_goesOnBy l_X11_121 iv_X11_goesOnBy se_X11_goesOnBy (ci := 10) ⟨by decide, rfl⟩ L.s (k_X11_goesOnBy (y := p) L (by omega)) ⟨rfl, rfl⟩ (l8 rfl) ⟨l8 rfl, l8 rfl⟩ rfl rfl (l8 rfl) dX11_day_118 rfl ?_
        refine v_iload_n (n := 122) dX11_day_121 rfl rfl rfl ?_
        refine v_iadd (n := 123) dX11_day_122 rfl ?_
        rw [show kGoes (J5 (m + 1) (76 + 4 * p)) (J5 (m + 1) 2) + mv = dyS (I (m + 1)) mv from by rw [hJX5, q6 _ (by omega) (by omega) (by omega) (by omega) (by omega), q6 2 (by decide) (by decide) (by decide) (by decide) (by omega), dyS, hpl]]
        refine v_istore (n := 125) (al' := [.ref m, .int mv, .int 0, JJ, .int (givesX (dy2 (I (m + 1)) l) T l2 p), .int (dyS (I (m + 1)) mv), JJ]) dX11_day_123 rfl rfl rfl ?_
        refine v_iconst (n := 126) (v := 0) dX11_day_125 c_0 rfl ?_
        refine v_istore (n := 128) (al' := [.ref m, .int mv, .int 0, JJ, .int (givesX (dy2 (I (m + 1)) l) T l2 p), .int (dyS (I (m + 1)) mv), .int 0]) dX11_day_126 rfl rfl rfl ?_
        refine v_drop 1 (al' := [.ref m, JJ, .int 0, JJ, .int (givesX (dy2 (I (m + 1)) l) T l2 p), .int (dyS (I (m + 1)) mv), .int 0]) rfl ?_
        refine v_drop 4 (al' := [.ref m, JJ, .int 0, JJ, JJ, .int (dyS (I (m + 1)) mv), .int 0]) rfl ?_
        refine d128 L (X := dy4 (I (m + 1)) T l) (n := n) (p := p) (T := T) (l := ln (dy4 (I (m + 1)) T l)) ((q6 1 (by decide) (by decide) (by decide) (by decide) (by omega)).trans h.1) hn10 ((q6 6 (by decide) (by decide) (by decide) (by decide) (by omega)).trans h6) hp (by rw [q3]; exact q2) (by rw [q3]; exact q1) q4 (dyS_rng hmv) ?_ ?_ ((dyS (I (m + 1)) mv).toNatClampNeg + 1) 0 (Nat.zero_le _) (by omega) J5 hJX5 hE5
        · rw [dayX, if_neg (by omega)]; rfl
        · rw [dayN, if_neg (by omega)]; rfl
      · refine v_aload_n (n := 98) dX11_day_97 rfl rfl rfl ?_
        refine v_aload_n (n := 99) dX11_day_98 rfl rfl rfl ?_
        refine v_getR (n := 102) f_X11_9 rfl L.s L.g0 dX11_day_99 rfl ?_
        refine v_bipush (n := 104) (v := 6) dX11_day_102 b_6 rfl ?_
        refine v_iald (n := 105) (j := 6) L.c0 (ix_lit rfl rfl rfl) dX11_day_104 rfl ?_
        rw [show J4 (m + 1) 6 = nI p from by rw [hJX4, dy3, pk_un (by omega), g6 6 (by decide) (by decide) (by decide) (by decide) (by decide)]; exact h6]
        refine v_iload (n := 107) dX11_day_105 rfl rfl ?_
        refine v_cVv (n := 110) mc_X11_packs l_X11_144 iv_X11_packs se_X11_packs (ci := 10) ⟨by decide, rfl⟩ L.s (k_X11_packs (l := l2) L (by rw [hJX4, dy3, pk_un (by omega)]; exact g2) g1) ⟨rfl, rfl⟩ (l8 rfl) ⟨l8 rfl, l8 rfl⟩ rfl rfl (l8 rfl) dX11_day_107 rfl ?_
        obtain ⟨J5, hJ5⟩ : ∃ J9q : In, J9q = (row J4 (m + 1) (packX (J4 (m + 1)) l2 (nI p) (givesX (dy2 (I (m + 1)) l) T l2 p))) := ⟨_, rfl⟩
        rw [← hJ5]
        have hq94 := Int32.not_le.mp hq94
        have hE5 : Eqx (scN m) I J5 := by rw [hJ5]; exact hE4.row scN.now
        have hJX5 : J5 (m + 1) = dy4 (I (m + 1)) T l := by rw [hJ5, row_s, hJX4, dy4, hpl, g3, if_pos hq94, h6]
        refine v_aload_n (n := 111) dX11_day_110 rfl rfl rfl ?_
        refine v_aload_n (n := 112) dX11_day_111 rfl rfl rfl ?_
        refine v_getR (n := 115) f_X11_9 rfl L.s L.g0 dX11_day_112 rfl ?_
        refine v_bipush (n := 117) (v := 6) dX11_day_115 b_6 rfl ?_
        refine v_iald (n := 118) (j := 6) L.c0 (ix_lit rfl rfl rfl) dX11_day_117 rfl ?_
        rw [show J5 (m + 1) 6 = nI p from by rw [hJX5, q6 6 (by decide) (by decide) (by decide) (by decide) (by omega)]; exact h6]
        refine v_cVi (n := 121) (x := (kGoes (J5 (m + 1) (76 + 4 * p)) (J5 (m + 1) 2))) mc_X11_goesOnBy l_X11_121 iv_X11_goesOnBy se_X11_goesOnBy (ci := 10) ⟨by decide, rfl⟩ L.s (k_X11_goesOnBy (y := p) L (by omega)) ⟨rfl, rfl⟩ (l8 rfl) ⟨l8 rfl, l8 rfl⟩ rfl rfl (l8 rfl) dX11_day_118 rfl ?_
        refine v_iload_n (n := 122) dX11_day_121 rfl rfl rfl ?_
        refine v_iadd (n := 123) dX11_day_122 rfl ?_
        rw [show kGoes (J5 (m + 1) (76 + 4 * p)) (J5 (m + 1) 2) + mv = dyS (I (m + 1)) mv from by rw [hJX5, q6 _ (by omega) (by omega) (by omega) (by omega) (by omega), q6 2 (by decide) (by decide) (by decide) (by decide) (by omega), dyS, hpl]]
        refine v_istore (n := 125) (al' := [.ref m, .int mv, .int 0, JJ, .int (givesX (dy2 (I (m + 1)) l) T l2 p), .int (dyS (I (m + 1)) mv), JJ]) dX11_day_123 rfl rfl rfl ?_
        refine v_iconst (n := 126) (v := 0) dX11_day_125 c_0 rfl ?_
        refine v_istore (n := 128) (al' := [.ref m, .int mv, .int 0, JJ, .int (givesX (dy2 (I (m + 1)) l) T l2 p), .int (dyS (I (m + 1)) mv), .int 0]) dX11_day_126 rfl rfl rfl ?_
        refine v_drop 1 (al' := [.ref m, JJ, .int 0, JJ, .int (givesX (dy2 (I (m + 1)) l) T l2 p), .int (dyS (I (m + 1)) mv), .int 0]) rfl ?_
        refine v_drop 4 (al' := [.ref m, JJ, .int 0, JJ, JJ, .int (dyS (I (m + 1)) mv), .int 0]) rfl ?_
        refine d128 L (X := dy4 (I (m + 1)) T l) (n := n) (p := p) (T := T) (l := ln (dy4 (I (m + 1)) T l)) ((q6 1 (by decide) (by decide) (by decide) (by decide) (by omega)).trans h.1) hn10 ((q6 6 (by decide) (by decide) (by decide) (by decide) (by omega)).trans h6) hp (by rw [q3]; exact q2) (by rw [q3]; exact q1) q4 (dyS_rng hmv) ?_ ?_ ((dyS (I (m + 1)) mv).toNatClampNeg + 1) 0 (Nat.zero_le _) (by omega) J5 hJX5 hE5
        · rw [dayX, if_neg (by omega)]; rfl
        · rw [dayN, if_neg (by omega)]; rfl
    · rw [hJX1, pk_un (by omega)] at hq39
      refine v_iload_n (n := 43) dX11_day_42 rfl rfl rfl ?_
      refine v_iconst (n := 44) (v := 2) dX11_day_43 c_2 rfl ?_
      refine v_idiv (n := 45) dX11_day_44 (by decide) rfl ?_
      refine v_goto (tgt := 49) dX11_day_45 (by decide) ?_
      refine v_drop 3 (al' := [.ref m, .int mv, .int 0, JJ, JJ, JJ, JJ]) rfl ?_
      rw [show ushr (drawZ ((I (m + 1)) 0)) 8 % (J1 (m + 1) 3 + 1) / 2 = nI a from by rw [← ea, dyT, hpl, if_pos hq39, hJX1, pk_un (by decide)]]
      refine v_cVv (n := 52) mc_X11_thaws l_X11_153 iv_X11_thaws se_X11_thaws (ci := 10) ⟨by decide, rfl⟩ L.s (k_X11_thaws (l := l) (a := a) L (by rw [hJX1, pk_un (by decide)]; exact h.2.2.1) h.2.2.2.1 (by omega) (by rw [hJX1]; exact (h.2.2.2.2.2.1.ok (by omega)).cong0)) ⟨rfl, rfl⟩ (l8 rfl) ⟨l8 rfl, l8 rfl⟩ rfl rfl (l8 rfl) dX11_day_49 rfl ?_
      obtain ⟨J2, hJ2⟩ : ∃ J9q : In, J9q = (row J1 (m + 1) (thawX (J1 (m + 1)) (nI a) l)) := ⟨_, rfl⟩
      rw [← hJ2]
      have hE2 : Eqx (scN m) I J2 := by rw [hJ2]; exact hE1.row scN.now
      have hJX2 : J2 (m + 1) = dy2 (I (m + 1)) l := by rw [hJ2, row_s, hJX1, dy2, ea]
      refine v_aload_n (n := 53) dX11_day_52 rfl rfl rfl ?_
      refine v_aload_n (n := 54) dX11_day_53 rfl rfl rfl ?_
      refine v_getR (n := 57) f_X11_9 rfl L.s L.g0 dX11_day_54 rfl ?_
      refine v_bipush (n := 59) (v := 6) dX11_day_57 b_6 rfl ?_
      refine v_iald (n := 60) (j := 6) L.c0 (ix_lit rfl rfl rfl) dX11_day_59 rfl ?_
      rw [show J2 (m + 1) 6 = nI p from by rw [hJX2, g6 6 (by decide) (by decide) (by decide) (by decide) (by decide)]; exact h6]
      refine v_callV (n := 63) mc_X11_givesOf l_X11_118 iv_X11_givesOf se_X11_givesOf (ci := 10) ⟨by decide, rfl⟩ L.s (k_X11_givesOf (T := T) (l := l2) (y := p) L (by rw [hJX2]; exact g4) (by rw [hJX2]; exact g2) g1 (by omega)) ⟨rfl, rfl⟩ (l8 rfl) ⟨l8 rfl, l8 rfl⟩ rfl rfl (l8 rfl) dX11_day_60 rfl ?_
      rintro _ _ J3 ⟨rfl, rfl, hE3⟩
      have hJX3 : J3 (m + 1) = dy2 (I (m + 1)) l := hE3.now.trans hJX2
      have hE3 : Eqx (scN m) I J3 := hE2.tr (hE3.mono (fun _ q => Or.inr q))
      rw [hJX2]
      refine v_istore (n := 65) (al' := [.ref m, .int mv, .int 0, JJ, .int (givesX (dy2 (I (m + 1)) l) T l2 p), JJ, JJ]) dX11_day_63 rfl rfl rfl ?_
      refine v_aload_n (n := 66) dX11_day_65 rfl rfl rfl ?_
      refine v_aload_n (n := 67) dX11_day_66 rfl rfl rfl ?_
      refine v_getR (n := 70) f_X11_9 rfl L.s L.g0 dX11_day_67 rfl ?_
      refine v_bipush (n := 72) (v := 6) dX11_day_70 b_6 rfl ?_
      refine v_iald (n := 73) (j := 6) L.c0 (ix_lit rfl rfl rfl) dX11_day_72 rfl ?_
      rw [show J3 (m + 1) 6 = nI p from by rw [hJX3, g6 6 (by decide) (by decide) (by decide) (by decide) (by decide)]; exact h6]
      refine v_iconst (n := 74) (v := 1) dX11_day_73 c_1 rfl ?_
      refine v_aload_n (n := 75) dX11_day_74 rfl rfl rfl ?_
      refine v_aload_n (n := 76) dX11_day_75 rfl rfl rfl ?_
      refine v_getR (n := 79) f_X11_9 rfl L.s L.g0 dX11_day_76 rfl ?_
      refine v_bipush (n := 81) (v := 6) dX11_day_79 b_6 rfl ?_
      refine v_iald (n := 82) (j := 6) L.c0 (ix_lit rfl rfl rfl) dX11_day_81 rfl ?_
      rw [show J3 (m + 1) 6 = nI p from by rw [hJX3, g6 6 (by decide) (by decide) (by decide) (by decide) (by decide)]; exact h6]
      refine v_iconst (n := 83) (v := 1) dX11_day_82 c_1 rfl ?_
      refine v_cVi (n := 86) (x := (J3 (m + 1) (76 + 4 * p + 1))) mc_X11_of l_X11_110 iv_X11_of se_X11_of (ci := 10) ⟨by decide, rfl⟩ L.s (k_X11_of (y := p) (u := 1) L (by omega) (by decide)) ⟨rfl, rfl⟩ (l8 rfl) ⟨l8 rfl, l8 rfl⟩ rfl rfl (l8 rfl) dX11_day_83 rfl ?_
      refine v_iload (n := 88) dX11_day_86 rfl rfl ?_
      refine v_isub (n := 89) dX11_day_88 rfl ?_
      refine v_cVv (n := 92) mc_X11_put l_X11_82 iv_X11_put se_X11_put (ci := 10) ⟨by decide, rfl⟩ L.s (k_X11_put (y := p) (u := 1) L (by omega) (by decide)) ⟨rfl, rfl⟩ (l8 rfl) ⟨l8 rfl, l8 rfl⟩ rfl rfl (l8 rfl) dX11_day_89 rfl ?_
      obtain ⟨J4, hJ4⟩ : ∃ J9q : In, J9q = (row J3 (m + 1) (upd (J3 (m + 1)) (76 + 4 * p + 1) ((J3 (m + 1) (76 + 4 * p + 1)) - (givesX (dy2 (I (m + 1)) l) T l2 p)))) := ⟨_, rfl⟩
      rw [← hJ4]
      have hE4 : Eqx (scN m) I J4 := by rw [hJ4]; exact hE3.row scN.now
      have hJX4 : J4 (m + 1) = dy3 (I (m + 1)) T l := by rw [hJ4, row_s, hJX3, dy3, hpl, g3]
      refine v_iload (n := 94) dX11_day_92 rfl rfl ?_
      refine v_if_le (n := 97) (tgt := 110) dX11_day_94 (by decide) rfl (fun hq94 => ?_) (fun hq94 => ?_)
      · obtain ⟨J5, hJ5⟩ : ∃ J9q : In, J9q = J4 := ⟨_, rfl⟩
        rw [← hJ5]
        have hq94 := Int32.not_lt.mpr hq94
        have hE5 : Eqx (scN m) I J5 := by rw [hJ5]; exact hE4
        have hJX5 : J5 (m + 1) = dy4 (I (m + 1)) T l := by rw [hJ5, hJX4, dy4, hpl, g3, if_neg hq94]
        refine v_aload_n (n := 111) dX11_day_110 rfl rfl rfl ?_
        refine v_aload_n (n := 112) dX11_day_111 rfl rfl rfl ?_
        refine v_getR (n := 115) f_X11_9 rfl L.s L.g0 dX11_day_112 rfl ?_
        refine v_bipush (n := 117) (v := 6) dX11_day_115 b_6 rfl ?_
        refine v_iald (n := 118) (j := 6) L.c0 (ix_lit rfl rfl rfl) dX11_day_117 rfl ?_
        rw [show J5 (m + 1) 6 = nI p from by rw [hJX5, q6 6 (by decide) (by decide) (by decide) (by decide) (by omega)]; exact h6]
        refine v_cVi (n := 121) (x := (kGoes (J5 (m + 1) (76 + 4 * p)) (J5 (m + 1) 2))) mc_X11_goesOnBy l_X11_121 iv_X11_goesOnBy se_X11_goesOnBy (ci := 10) ⟨by decide, rfl⟩ L.s (k_X11_goesOnBy (y := p) L (by omega)) ⟨rfl, rfl⟩ (l8 rfl) ⟨l8 rfl, l8 rfl⟩ rfl rfl (l8 rfl) dX11_day_118 rfl ?_
        refine v_iload_n (n := 122) dX11_day_121 rfl rfl rfl ?_
        refine v_iadd (n := 123) dX11_day_122 rfl ?_
        rw [show kGoes (J5 (m + 1) (76 + 4 * p)) (J5 (m + 1) 2) + mv = dyS (I (m + 1)) mv from by rw [hJX5, q6 _ (by omega) (by omega) (by omega) (by omega) (by omega), q6 2 (by decide) (by decide) (by decide) (by decide) (by omega), dyS, hpl]]
        refine v_istore (n := 125) (al' := [.ref m, .int mv, .int 0, JJ, .int (givesX (dy2 (I (m + 1)) l) T l2 p), .int (dyS (I (m + 1)) mv), JJ]) dX11_day_123 rfl rfl rfl ?_
        refine v_iconst (n := 126) (v := 0) dX11_day_125 c_0 rfl ?_
        refine v_istore (n := 128) (al' := [.ref m, .int mv, .int 0, JJ, .int (givesX (dy2 (I (m + 1)) l) T l2 p), .int (dyS (I (m + 1)) mv), .int 0]) dX11_day_126 rfl rfl rfl ?_
        refine v_drop 1 (al' := [.ref m, JJ, .int 0, JJ, .int (givesX (dy2 (I (m + 1)) l) T l2 p), .int (dyS (I (m + 1)) mv), .int 0]) rfl ?_
        refine v_drop 4 (al' := [.ref m, JJ, .int 0, JJ, JJ, .int (dyS (I (m + 1)) mv), .int 0]) rfl ?_
        refine d128 L (X := dy4 (I (m + 1)) T l) (n := n) (p := p) (T := T) (l := ln (dy4 (I (m + 1)) T l)) ((q6 1 (by decide) (by decide) (by decide) (by decide) (by omega)).trans h.1) hn10 ((q6 6 (by decide) (by decide) (by decide) (by decide) (by omega)).trans h6) hp (by rw [q3]; exact q2) (by rw [q3]; exact q1) q4 (dyS_rng hmv) ?_ ?_ ((dyS (I (m + 1)) mv).toNatClampNeg + 1) 0 (Nat.zero_le _) (by omega) J5 hJX5 hE5
        · rw [dayX, if_neg (by omega)]; rfl
        · rw [dayN, if_neg (by omega)]; rfl
      · refine v_aload_n (n := 98) dX11_day_97 rfl rfl rfl ?_
        refine v_aload_n (n := 99) dX11_day_98 rfl rfl rfl ?_
        refine v_getR (n := 102) f_X11_9 rfl L.s L.g0 dX11_day_99 rfl ?_
        refine v_bipush (n := 104) (v := 6) dX11_day_102 b_6 rfl ?_
        refine v_iald (n := 105) (j := 6) L.c0 (ix_lit rfl rfl rfl) dX11_day_104 rfl ?_
        rw [show J4 (m + 1) 6 = nI p from by rw [hJX4, dy3, pk_un (by omega), g6 6 (by decide) (by decide) (by decide) (by decide) (by decide)]; exact h6]
        refine v_iload (n := 107) dX11_day_105 rfl rfl ?_
        refine v_cVv (n := 110) mc_X11_packs l_X11_144 iv_X11_packs se_X11_packs (ci := 10) ⟨by decide, rfl⟩ L.s (k_X11_packs (l := l2) L (by rw [hJX4, dy3, pk_un (by omega)]; exact g2) g1) ⟨rfl, rfl⟩ (l8 rfl) ⟨l8 rfl, l8 rfl⟩ rfl rfl (l8 rfl) dX11_day_107 rfl ?_
        obtain ⟨J5, hJ5⟩ : ∃ J9q : In, J9q = (row J4 (m + 1) (packX (J4 (m + 1)) l2 (nI p) (givesX (dy2 (I (m + 1)) l) T l2 p))) := ⟨_, rfl⟩
        rw [← hJ5]
        have hq94 := Int32.not_le.mp hq94
        have hE5 : Eqx (scN m) I J5 := by rw [hJ5]; exact hE4.row scN.now
        have hJX5 : J5 (m + 1) = dy4 (I (m + 1)) T l := by rw [hJ5, row_s, hJX4, dy4, hpl, g3, if_pos hq94, h6]
        refine v_aload_n (n := 111) dX11_day_110 rfl rfl rfl ?_
        refine v_aload_n (n := 112) dX11_day_111 rfl rfl rfl ?_
        refine v_getR (n := 115) f_X11_9 rfl L.s L.g0 dX11_day_112 rfl ?_
        refine v_bipush (n := 117) (v := 6) dX11_day_115 b_6 rfl ?_
        refine v_iald (n := 118) (j := 6) L.c0 (ix_lit rfl rfl rfl) dX11_day_117 rfl ?_
        rw [show J5 (m + 1) 6 = nI p from by rw [hJX5, q6 6 (by decide) (by decide) (by decide) (by decide) (by omega)]; exact h6]
        refine v_cVi (n := 121) (x := (kGoes (J5 (m + 1) (76 + 4 * p)) (J5 (m + 1) 2))) mc_X11_goesOnBy l_X11_121 iv_X11_goesOnBy se_X11_goesOnBy (ci := 10) ⟨by decide, rfl⟩ L.s (k_X11_goesOnBy (y := p) L (by omega)) ⟨rfl, rfl⟩ (l8 rfl) ⟨l8 rfl, l8 rfl⟩ rfl rfl (l8 rfl) dX11_day_118 rfl ?_
        refine v_iload_n (n := 122) dX11_day_121 rfl rfl rfl ?_
        refine v_iadd (n := 123) dX11_day_122 rfl ?_
        rw [show kGoes (J5 (m + 1) (76 + 4 * p)) (J5 (m + 1) 2) + mv = dyS (I (m + 1)) mv from by rw [hJX5, q6 _ (by omega) (by omega) (by omega) (by omega) (by omega), q6 2 (by decide) (by decide) (by decide) (by decide) (by omega), dyS, hpl]]
        refine v_istore (n := 125) (al' := [.ref m, .int mv, .int 0, JJ, .int (givesX (dy2 (I (m + 1)) l) T l2 p), .int (dyS (I (m + 1)) mv), JJ]) dX11_day_123 rfl rfl rfl ?_
        refine v_iconst (n := 126) (v := 0) dX11_day_125 c_0 rfl ?_
        refine v_istore (n := 128) (al' := [.ref m, .int mv, .int 0, JJ, .int (givesX (dy2 (I (m + 1)) l) T l2 p), .int (dyS (I (m + 1)) mv), .int 0]) dX11_day_126 rfl rfl rfl ?_
        refine v_drop 1 (al' := [.ref m, JJ, .int 0, JJ, .int (givesX (dy2 (I (m + 1)) l) T l2 p), .int (dyS (I (m + 1)) mv), .int 0]) rfl ?_
        refine v_drop 4 (al' := [.ref m, JJ, .int 0, JJ, JJ, .int (dyS (I (m + 1)) mv), .int 0]) rfl ?_
        refine d128 L (X := dy4 (I (m + 1)) T l) (n := n) (p := p) (T := T) (l := ln (dy4 (I (m + 1)) T l)) ((q6 1 (by decide) (by decide) (by decide) (by decide) (by omega)).trans h.1) hn10 ((q6 6 (by decide) (by decide) (by decide) (by decide) (by omega)).trans h6) hp (by rw [q3]; exact q2) (by rw [q3]; exact q1) q4 (dyS_rng hmv) ?_ ?_ ((dyS (I (m + 1)) mv).toNatClampNeg + 1) 0 (Nat.zero_le _) (by omega) J5 hJX5 hE5
        · rw [dayX, if_neg (by omega)]; rfl
        · rw [dayN, if_neg (by omega)]; rfl

