/-! thaws, day -/
/-- kilos of the layers: each 1 or more -/
def KOk (X : Ar) (l : Nat) : Prop := ∀ i, i < l → ∃ k, 1 ≤ k ∧ k < 2 ^ 30 ∧ X (17 + 2 * i) = nI k
theorem win_min {a k : Nat} (ha : a < 2 ^ 31) (hk : k < 2 ^ 31) : win (nI a) 0 (nI k) = nI (min a k) := by
  unfold win
  rw [if_neg (nI_pos ha)]
  by_cases h : k < a
  · rw [if_pos (nI_lt h ha)]; congr 1; omega
  · rw [if_neg (nI_nlt (by omega) hk)]; congr 1; omega
theorem thOut_0 {X : Ar} {l : Nat} : thOut X l 0 = X := by
  funext j
  unfold thOut
  rw [if_neg (by omega)]
theorem thOut_s {X : Ar} {l i : Nat} {x : Int32} (hi : i < 6) (hx : x = if X (10 + i) = nI l then 100 + X 6 else X (10 + i)) : upd (thOut X l i) (10 + i) x = thOut X l (i + 1) := by
  funext j
  unfold upd thOut
  by_cases h : j = 10 + i
  · subst h
    rw [if_pos rfl, hx]
    by_cases h2 : X (10 + i) = nI l
    · rw [if_pos h2, if_pos ⟨by omega, by omega, h2⟩]
    · rw [if_neg h2, if_neg (fun q => h2 q.2.2)]
  · rw [if_neg h]
    by_cases h2 : 10 ≤ j ∧ j < 10 + i ∧ X j = nI l
    · rw [if_pos h2, if_pos ⟨h2.1, by omega, h2.2.2⟩]
    · rw [if_neg h2, if_neg (fun q => h2 ⟨q.1, by omega, q.2.2⟩)]
theorem thOut_o {X : Ar} {l n j : Nat} (h : j < 10 ∨ 10 + n ≤ j) : thOut X l n j = X j := if_neg (by omega)
theorem i_th (i : Nat) : 10 + nI i = nI (10 + i) := by rw [show (10 : Int32) = nI 10 from rfl, nI_add]

set_option maxRecDepth 100000 in
set_option maxHeartbeats 1000000 in
theorem t_X11_thaws {ro : Ro} {S : St} {I : In} {m l : Nat} {a : Int32} {X : Ar} {Q : Option Value → St → In → Prop} (L : LayM S m) (kk : V RX11 cX11_thaws 6 (none) "thaws" ro (rmD 1 0 0) (QM 0 0 Q) 0 0 171 [.ref m, JJ, .int a, .int (nI l), JJ, .int (nI 6)] [] S (row I (m + 1) (thOut X l 6))) : ∀ k i, i ≤ 6 → 6 < i + k → V RX11 cX11_thaws 6 (none) "thaws" ro (rmD 1 0 0) (QM 0 0 Q) 0 0 111 [.ref m, JJ, .int a, .int (nI l), JJ, .int (nI i)] [] S (row I (m + 1) (thOut X l i)) := by
  intro k
  induction k with
  | zero => intro i hi hk; exact absurd hk (by omega)
  | succ k ih =>
    intro i hi hk
    refine v_iload (n := 113) dX11_thaws_111 rfl rfl ?_
    refine v_bipush (n := 115) (v := 6) dX11_thaws_113 b_6 rfl ?_
    refine v_icmp_ge (n := 118) (tgt := 171) dX11_thaws_115 (by decide) rfl (fun hq115 => ?_) (fun hq115 => ?_)
    · rw [lit_nI 6] at hq115
      obtain rfl : i = 6 := Nat.le_antisymm hi (le_out hq115 (by decide) (by omega))
      exact kk
    · rw [lit_nI 6] at hq115
      have hlt := nle_in hq115 (by decide) (by omega)
      refine v_aload_n (n := 119) dX11_thaws_118 rfl rfl rfl ?_
      refine v_getR (n := 122) f_X11_9 rfl L.s L.g0 dX11_thaws_119 rfl ?_
      refine v_bipush (n := 124) (v := 10) dX11_thaws_122 b_10 rfl ?_
      refine v_iload (n := 126) dX11_thaws_124 rfl rfl ?_
      refine v_iadd (n := 127) dX11_thaws_126 rfl ?_
      refine v_aload_n (n := 128) dX11_thaws_127 rfl rfl rfl ?_
      refine v_getR (n := 131) f_X11_9 rfl L.s L.g0 dX11_thaws_128 rfl ?_
      refine v_bipush (n := 133) (v := 10) dX11_thaws_131 b_10 rfl ?_
      refine v_iload (n := 135) dX11_thaws_133 rfl rfl ?_
      refine v_iadd (n := 136) dX11_thaws_135 rfl ?_
      refine v_iald (n := 137) (j := 10 + i) L.c0 (ix_of (i_th i) (by omega) (by decide)) dX11_thaws_136 rfl ?_
      refine v_iload_n (n := 138) dX11_thaws_137 rfl rfl rfl ?_
      refine v_icmp_ne (n := 141) (tgt := 154) dX11_thaws_138 (by decide) rfl (fun hq138 => ?_) (fun hq138 => ?_)
      · rw [row_s, thOut_o (Or.inr (Nat.le_refl _))] at hq138
        refine v_aload_n (n := 155) dX11_thaws_154 rfl rfl rfl ?_
        refine v_getR (n := 158) f_X11_9 rfl L.s L.g0 dX11_thaws_155 rfl ?_
        refine v_bipush (n := 160) (v := 10) dX11_thaws_158 b_10 rfl ?_
        refine v_iload (n := 162) dX11_thaws_160 rfl rfl ?_
        refine v_iadd (n := 163) dX11_thaws_162 rfl ?_
        refine v_iald (n := 164) (j := 10 + i) L.c0 (ix_of (i_th i) (by omega) (by decide)) dX11_thaws_163 rfl ?_
        refine v_iast (n := 165) (j := 10 + i) L.c0 (ix_of (i_th i) (by omega) (by decide)) dX11_thaws_164 rfl ?_
        refine v_iinc (n := 168) (v := (nI i) + 1) (al' := [.ref m, JJ, .int a, .int (nI l), JJ, .int ((nI i) + 1)]) dX11_thaws_165 rfl (by rw [c_1]) rfl rfl rfl ?_
        refine v_goto (tgt := 111) dX11_thaws_168 (by decide) ?_
        rw [nI_1, row_setS, thOut_s hlt (by simp only [row_s]; rw [thOut_o (by omega)]; rw [if_neg hq138])]
        exact ih (i + 1) hlt (by omega)
      · rw [row_s, thOut_o (Or.inr (Nat.le_refl _))] at hq138
        refine v_bipush (n := 143) (v := 100) dX11_thaws_141 b_100 rfl ?_
        refine v_aload_n (n := 144) dX11_thaws_143 rfl rfl rfl ?_
        refine v_getR (n := 147) f_X11_9 rfl L.s L.g0 dX11_thaws_144 rfl ?_
        refine v_bipush (n := 149) (v := 6) dX11_thaws_147 b_6 rfl ?_
        refine v_iald (n := 150) (j := 6) L.c0 (ix_lit rfl rfl rfl) dX11_thaws_149 rfl ?_
        refine v_iadd (n := 151) dX11_thaws_150 rfl ?_
        refine v_goto (tgt := 164) dX11_thaws_151 (by decide) ?_
        refine v_iast (n := 165) (j := 10 + i) L.c0 (ix_of (i_th i) (by omega) (by decide)) dX11_thaws_164 rfl ?_
        refine v_iinc (n := 168) (v := (nI i) + 1) (al' := [.ref m, JJ, .int a, .int (nI l), JJ, .int ((nI i) + 1)]) dX11_thaws_165 rfl (by rw [c_1]) rfl rfl rfl ?_
        refine v_goto (tgt := 111) dX11_thaws_168 (by decide) ?_
        rw [nI_1, row_setS, thOut_s hlt (by simp only [row_s]; rw [thOut_o (by omega)]; rw [if_pos hq138])]
        exact ih (i + 1) hlt (by omega)

set_option maxRecDepth 100000 in
set_option maxHeartbeats 1000000 in
theorem l_X11_thaws {ro : Ro} {S : St} {I : In} {m : Nat} {E : Ar} (L : LayM S m) : ∀ l (X : Ar) (a : Nat), l ≤ 30 → a < 2 ^ 31 → X 7 = nI l → KOk X l → E = thawX X (nI a) l → V RX11 cX11_thaws 6 (none) "thaws" ro (rmD 1 0 0) (QM 0 0 (RV S (row I (m + 1) E))) 0 0 2 [.ref m, JJ, .int (nI a), JJ, JJ, JJ] [] S (row I (m + 1) X) := by
  intro l
  induction l with
  | zero =>
    intro X a hl30 ha hl hK hE
    refine v_iload_n (n := 3) dX11_thaws_2 rfl rfl rfl ?_
    refine v_if_le (n := 6) (tgt := 174) dX11_thaws_3 (by decide) rfl (fun hq3 => ?_) (fun hq3 => ?_)
    · exact v_rV rfl rfl (by rw [hE]; rfl) ⟨l8 rfl, l8 rfl⟩ dX11_thaws_174
    · refine v_aload_n (n := 7) dX11_thaws_6 rfl rfl rfl ?_
      refine v_getR (n := 10) f_X11_9 rfl L.s L.g0 dX11_thaws_7 rfl ?_
      refine v_bipush (n := 12) (v := 7) dX11_thaws_10 b_7 rfl ?_
      refine v_iald (n := 13) (j := 7) L.c0 (ix_lit rfl rfl rfl) dX11_thaws_12 rfl ?_
      refine v_if_le (n := 16) (tgt := 174) dX11_thaws_13 (by decide) rfl (fun hq13 => ?_) (fun hq13 => ?_)
      · exact v_rV rfl rfl (by rw [hE]; rfl) ⟨l8 rfl, l8 rfl⟩ dX11_thaws_174
      · exact absurd (by rw [row_s, hl]; decide) hq13
  | succ l ih =>
    intro X a hl30 ha hl hK hE
    refine v_iload_n (n := 3) dX11_thaws_2 rfl rfl rfl ?_
    refine v_if_le (n := 6) (tgt := 174) dX11_thaws_3 (by decide) rfl (fun hq3 => ?_) (fun hq3 => ?_)
    · rw [thawX, if_pos hq3] at hE
      exact v_rV rfl rfl (by rw [hE]) ⟨l8 rfl, l8 rfl⟩ dX11_thaws_174
    · obtain ⟨k0, hk1, hk2, hk3⟩ := hK l (Nat.lt_succ_self l)
      rw [thawX, if_neg hq3] at hE
      refine v_aload_n (n := 7) dX11_thaws_6 rfl rfl rfl ?_
      refine v_getR (n := 10) f_X11_9 rfl L.s L.g0 dX11_thaws_7 rfl ?_
      refine v_bipush (n := 12) (v := 7) dX11_thaws_10 b_7 rfl ?_
      refine v_iald (n := 13) (j := 7) L.c0 (ix_lit rfl rfl rfl) dX11_thaws_12 rfl ?_
      refine v_if_le (n := 16) (tgt := 174) dX11_thaws_13 (by decide) rfl (fun hq13 => ?_) (fun hq13 => ?_)
      · exact absurd hq13 (by rw [row_s, hl]; exact nI_nle (by omega) (by omega))
      · refine v_aload_n (n := 17) dX11_thaws_16 rfl rfl rfl ?_
        refine v_getR (n := 20) f_X11_9 rfl L.s L.g0 dX11_thaws_17 rfl ?_
        refine v_bipush (n := 22) (v := 7) dX11_thaws_20 b_7 rfl ?_
        refine v_iald (n := 23) (j := 7) L.c0 (ix_lit rfl rfl rfl) dX11_thaws_22 rfl ?_
        refine v_iconst (n := 24) (v := 1) dX11_thaws_23 c_1 rfl ?_
        refine v_isub (n := 25) dX11_thaws_24 rfl ?_
        rw [row_s, hl, nI_pred]
        refine v_istore_n (n := 26) (al' := [.ref m, JJ, .int (nI a), .int (nI l), JJ, JJ]) dX11_thaws_25 rfl rfl rfl rfl ?_
        refine v_iload_n (n := 27) dX11_thaws_26 rfl rfl rfl ?_
        refine v_iconst (n := 28) (v := 0) dX11_thaws_27 c_0 rfl ?_
        refine v_aload_n (n := 29) dX11_thaws_28 rfl rfl rfl ?_
        refine v_getR (n := 32) f_X11_9 rfl L.s L.g0 dX11_thaws_29 rfl ?_
        refine v_bipush (n := 34) (v := 16) dX11_thaws_32 b_16 rfl ?_
        refine v_iconst (n := 35) (v := 2) dX11_thaws_34 c_2 rfl ?_
        refine v_iload_n (n := 36) dX11_thaws_35 rfl rfl rfl ?_
        refine v_imul (n := 37) dX11_thaws_36 rfl ?_
        refine v_iadd (n := 38) dX11_thaws_37 rfl ?_
        refine v_iconst (n := 39) (v := 1) dX11_thaws_38 c_1 rfl ?_
        refine v_iadd (n := 40) dX11_thaws_39 rfl ?_
        refine v_iald (n := 41) (j := 17 + 2 * l) L.c0 (ix_of (i_lb l) (by omega) (by decide)) dX11_thaws_40 rfl ?_
        rw [row_s]
        refine v_cSi (n := 44) (x := (win (nI a) 0 (X (17 + 2 * l)))) mc_X11_within l_X11_107 sta_X11_within k_X11_within ⟨rfl, rfl⟩ (l8 rfl) ⟨l8 rfl, l8 rfl⟩ rfl rfl (l8 rfl) dX11_thaws_41 rfl ?_
        refine v_istore (n := 46) (al' := [.ref m, JJ, .int (nI a), .int (nI l), .int (win (nI a) 0 (X (17 + 2 * l))), JJ]) dX11_thaws_44 rfl rfl rfl ?_
        refine v_aload_n (n := 47) dX11_thaws_46 rfl rfl rfl ?_
        refine v_getR (n := 50) f_X11_9 rfl L.s L.g0 dX11_thaws_47 rfl ?_
        refine v_bipush (n := 52) (v := 16) dX11_thaws_50 b_16 rfl ?_
        refine v_iconst (n := 53) (v := 2) dX11_thaws_52 c_2 rfl ?_
        refine v_iload_n (n := 54) dX11_thaws_53 rfl rfl rfl ?_
        refine v_imul (n := 55) dX11_thaws_54 rfl ?_
        refine v_iadd (n := 56) dX11_thaws_55 rfl ?_
        refine v_iconst (n := 57) (v := 1) dX11_thaws_56 c_1 rfl ?_
        refine v_iadd (n := 58) dX11_thaws_57 rfl ?_
        refine v_dup2 (n := 59) dX11_thaws_58 ⟨rfl, rfl⟩ rfl ?_
        refine v_iald (n := 60) (j := 17 + 2 * l) L.c0 (ix_of (i_lb l) (by omega) (by decide)) dX11_thaws_59 rfl ?_
        refine v_iload (n := 62) dX11_thaws_60 rfl rfl ?_
        refine v_isub (n := 63) dX11_thaws_62 rfl ?_
        refine v_iast (n := 64) (j := 17 + 2 * l) L.c0 (ix_of (i_lb l) (by omega) (by decide)) dX11_thaws_63 rfl ?_
        refine v_aload_n (n := 65) dX11_thaws_64 rfl rfl rfl ?_
        refine v_getR (n := 68) f_X11_9 rfl L.s L.g0 dX11_thaws_65 rfl ?_
        refine v_bipush (n := 70) (v := 8) dX11_thaws_68 b_8 rfl ?_
        refine v_dup2 (n := 71) dX11_thaws_70 ⟨rfl, rfl⟩ rfl ?_
        refine v_iald (n := 72) (j := 8) L.c0 (ix_lit rfl rfl rfl) dX11_thaws_71 rfl ?_
        refine v_iload (n := 74) dX11_thaws_72 rfl rfl ?_
        refine v_iadd (n := 75) dX11_thaws_74 rfl ?_
        refine v_iast (n := 76) (j := 8) L.c0 (ix_lit rfl rfl rfl) dX11_thaws_75 rfl ?_
        refine v_iload_n (n := 77) dX11_thaws_76 rfl rfl rfl ?_
        refine v_iload (n := 79) dX11_thaws_77 rfl rfl ?_
        refine v_isub (n := 80) dX11_thaws_79 rfl ?_
        refine v_istore_n (n := 81) (al' := [.ref m, JJ, .int ((nI a) - (win (nI a) 0 (X (17 + 2 * l)))), .int (nI l), .int (win (nI a) 0 (X (17 + 2 * l))), JJ]) dX11_thaws_80 rfl rfl rfl rfl ?_
        refine v_aload_n (n := 82) dX11_thaws_81 rfl rfl rfl ?_
        refine v_getR (n := 85) f_X11_9 rfl L.s L.g0 dX11_thaws_82 rfl ?_
        refine v_bipush (n := 87) (v := 16) dX11_thaws_85 b_16 rfl ?_
        refine v_iconst (n := 88) (v := 2) dX11_thaws_87 c_2 rfl ?_
        refine v_iload_n (n := 89) dX11_thaws_88 rfl rfl rfl ?_
        refine v_imul (n := 90) dX11_thaws_89 rfl ?_
        refine v_iadd (n := 91) dX11_thaws_90 rfl ?_
        refine v_iconst (n := 92) (v := 1) dX11_thaws_91 c_1 rfl ?_
        refine v_iadd (n := 93) dX11_thaws_92 rfl ?_
        refine v_iald (n := 94) (j := 17 + 2 * l) L.c0 (ix_of (i_lb l) (by omega) (by decide)) dX11_thaws_93 rfl ?_
        refine v_if_ne (n := 97) (tgt := 171) dX11_thaws_94 (by decide) rfl (fun hq94 => ?_) (fun hq94 => ?_)
        · simp only [row_setS, row_s, pk_us, pk_un (show 17 + 2 * l ≠ 8 by omega)] at hq94
          rw [if_neg hq94] at hE
          refine v_drop 4 (al' := [.ref m, JJ, .int ((nI a) - (win (nI a) 0 (X (17 + 2 * l)))), .int (nI l), JJ, JJ]) rfl ?_
          refine v_goto (tgt := 2) dX11_thaws_171 (by decide) ?_
          refine v_drop 3 (al' := [.ref m, JJ, .int ((nI a - win (nI a) 0 (X (17 + 2 * l)))), JJ, JJ, JJ]) rfl ?_
          have hak : a < k0 := by
            rw [hk3, win_min (by omega) (by omega)] at hq94
            rcases Nat.lt_or_ge a k0 with h9 | h9
            · exact h9
            · exact absurd (by rw [show min a k0 = k0 by omega]; exact Int32.sub_self _) hq94
          rw [show nI a - win (nI a) 0 (X (17 + 2 * l)) = nI 0 from by rw [hk3, win_min (by omega) (by omega), show min a k0 = a by omega]; exact Int32.sub_self _]
          simp only [row_setS, row_s, pk_un (show 8 ≠ 17 + 2 * l by omega)]
          rw [hE]
          refine v_iload_n (n := 3) dX11_thaws_2 rfl rfl rfl ?_
          refine v_if_le (n := 6) (tgt := 174) dX11_thaws_3 (by decide) rfl (fun hq9 => ?_) (fun hq9 => ?_)
          · exact v_rV rfl rfl rfl ⟨l8 rfl, l8 rfl⟩ dX11_thaws_174
          · exact absurd (by decide) hq9
        · simp only [row_setS, row_s, pk_us, pk_un (show 17 + 2 * l ≠ 8 by omega)] at hq94
          rw [if_pos hq94] at hE
          refine v_aload_n (n := 98) dX11_thaws_97 rfl rfl rfl ?_
          refine v_getR (n := 101) f_X11_9 rfl L.s L.g0 dX11_thaws_98 rfl ?_
          refine v_bipush (n := 103) (v := 7) dX11_thaws_101 b_7 rfl ?_
          refine v_dup2 (n := 104) dX11_thaws_103 ⟨rfl, rfl⟩ rfl ?_
          refine v_iald (n := 105) (j := 7) L.c0 (ix_lit rfl rfl rfl) dX11_thaws_104 rfl ?_
          refine v_iconst (n := 106) (v := 1) dX11_thaws_105 c_1 rfl ?_
          refine v_isub (n := 107) dX11_thaws_106 rfl ?_
          refine v_iast (n := 108) (j := 7) L.c0 (ix_lit rfl rfl rfl) dX11_thaws_107 rfl ?_
          refine v_iconst (n := 109) (v := 0) dX11_thaws_108 c_0 rfl ?_
          refine v_istore (n := 111) (al' := [.ref m, JJ, .int ((nI a) - (win (nI a) 0 (X (17 + 2 * l)))), .int (nI l), .int (win (nI a) 0 (X (17 + 2 * l))), .int 0]) dX11_thaws_109 rfl rfl rfl ?_
          refine v_drop 4 (al' := [.ref m, JJ, .int ((nI a) - (win (nI a) 0 (X (17 + 2 * l)))), .int (nI l), JJ, .int 0]) rfl ?_
          simp only [row_setS, row_s, pk_un (show 8 ≠ 17 + 2 * l by omega), hq94]
          have e7 : upd (upd X (17 + 2 * l) 0) 8 (X 8 + win (nI a) 0 (X (17 + 2 * l))) 7 - 1 = nI l := by rw [pk_un (by decide), pk_un (by omega), hl, nI_pred]
          rw [e7]
          generalize hX9 : upd (upd (upd X (17 + 2 * l) 0) 8 (X 8 + win (nI a) 0 (X (17 + 2 * l)))) 7 (nI l) = X9 at hE ⊢
          rw [← thOut_0 (X := X9) (l := l)]
          have e8 : nI a - win (nI a) 0 (X (17 + 2 * l)) = nI (a - min a k0) := by rw [hk3, win_min (by omega) (by omega), pk_sub (by omega)]
          rw [e8] at hE ⊢
          refine t_X11_thaws L ?_ 7 0 (by decide) (by decide)
          refine v_goto (tgt := 2) dX11_thaws_171 (by decide) ?_
          refine v_drop 3 (al' := [.ref m, JJ, .int (nI (a - min a k0)), JJ, JJ, .int (nI 6)]) rfl ?_
          refine v_drop 5 (al' := [.ref m, JJ, .int (nI (a - min a k0)), JJ, JJ, JJ]) rfl ?_
          refine ih (thOut X9 l 6) (a - min a k0) (by omega) (by omega) ?_ (fun i hi => ?_) hE
          · rw [thOut_o (by omega), ← hX9, pk_us]
          · obtain ⟨k1, g1, g2, g3⟩ := hK i (by omega)
            refine ⟨k1, g1, g2, ?_⟩
            rw [thOut_o (by omega), ← hX9, pk_un (by omega), pk_un (by omega), pk_un (by omega)]
            exact g3

set_option maxRecDepth 100000 in
set_option maxHeartbeats 1000000 in
theorem k_X11_thaws {ro : Ro} {S : St} {I : In} {m l a : Nat} (L : LayM S m) (hl : I (m + 1) 7 = nI l) (hl30 : l ≤ 30) (ha : a < 2 ^ 31) (hK : KOk (I (m + 1)) l) : Ok mX11_thaws ro 1 0 0 [.ref m, .int (nI a)] S I (RV S (row I (m + 1) (thawX (I (m + 1)) (nI a) l))) := by
  refine ok_of (al := [.ref m, .int (nI a), JJ, JJ, JJ, JJ]) (by decide) (l8 rfl) rfl ?_
  refine v_iload_n (n := 1) dX11_thaws_0 rfl rfl rfl ?_
  refine v_istore_n (n := 2) (al' := [.ref m, .int (nI a), .int (nI a), JJ, JJ, JJ]) dX11_thaws_1 rfl rfl rfl rfl ?_
  refine v_drop 1 (al' := [.ref m, JJ, .int (nI a), JJ, JJ, JJ]) rfl ?_
  refine v_I (I' := row I (m + 1) (I (m + 1))) row_id.symm ?_
  exact l_X11_thaws L l _ a hl30 ha hl hK rfl

