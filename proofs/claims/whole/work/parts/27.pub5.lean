/-! ===== copy, lay, gone, deal ===== -/
theorem sub_fit {z k p : Nat} (hz : z ≤ 24) (hk : k < 2 ^ 31) (hp : p < 2 ^ 31) (h : ¬ nI z - nI k < nI p) : p + k ≤ z := by
  rw [Int32.lt_iff_toInt_lt, nI_toInt hp, Int32.toInt_sub, nI_toInt (by omega), nI_toInt hk, Int.bmod_eq_of_le (by omega) (by omega)] at h
  omega
theorem sub_fit2 {z k p : Nat} (hz : z ≤ 24) (hk : k < 2 ^ 31) (hp : p < 2 ^ 31) (h : nI p ≤ nI z - nI k) : p + k ≤ z := sub_fit hz hk hp (Int32.not_lt.mpr h)

set_option maxRecDepth 100000 in
set_option maxHeartbeats 1000000 in
theorem l2_X11_copy {ro : Ro} {S : St} {I : In} {m s p t q K : Nat} (L : LayM S m) (hs : s < 4) (ht : t < 4) (hp : p + K ≤ 24) (hq : q + K ≤ 24) : ∀ k i, i ≤ K → K < i + k → V RX11 cX11_copy 7 (some .int) "copy" ro (rmD 2 0 0) (QM 0 0 (RI (nI K) S (uO (uP I (m + 21) (fun k => I (m + 16) (24 * s + p + k)) K) (m + 16) (24 * t + q) (fun k => I (m + 16) (24 * s + p + k)) K))) 0 0 140 [.ref m, .int (nI s), .int (nI p), .int (nI t), .int (nI q), .int (nI K), .int (nI i)] [] S (uO (uP I (m + 21) (fun k => I (m + 16) (24 * s + p + k)) K) (m + 16) (24 * t + q) (fun k => I (m + 16) (24 * s + p + k)) i) := by
  intro k
  induction k with
  | zero => intro i hi hk; exact absurd hk (by omega)
  | succ k ih =>
    intro i hi hk
    refine v_iload (n := 142) dX11_copy_140 rfl rfl ?_
    refine v_iload (n := 144) dX11_copy_142 rfl rfl ?_
    refine v_icmp_ge (n := 147) (tgt := 175) dX11_copy_144 (by decide) rfl (fun hq144 => ?_) (fun hq144 => ?_)
    · obtain rfl : i = K := Nat.le_antisymm hi (le_out hq144 (by omega) (by omega))
      refine v_iload (n := 177) dX11_copy_175 rfl rfl ?_
      exact v_rI rfl rfl rfl rfl ⟨l8 rfl, l8 rfl⟩ dX11_copy_177
    · have hlt := nle_in hq144 (by omega) (by omega)
      refine v_aload_n (n := 148) dX11_copy_147 rfl rfl rfl ?_
      refine v_getR (n := 151) f_X11_57 rfl L.s L.g26 dX11_copy_148 rfl ?_
      refine v_bipush (n := 153) (v := 24) dX11_copy_151 b_24 rfl ?_
      refine v_iload_n (n := 154) dX11_copy_153 rfl rfl rfl ?_
      refine v_imul (n := 155) dX11_copy_154 rfl ?_
      refine v_iload (n := 157) dX11_copy_155 rfl rfl ?_
      refine v_iadd (n := 158) dX11_copy_157 rfl ?_
      refine v_iload (n := 160) dX11_copy_158 rfl rfl ?_
      refine v_iadd (n := 161) dX11_copy_160 rfl ?_
      refine v_aload_n (n := 162) dX11_copy_161 rfl rfl rfl ?_
      refine v_getR (n := 165) f_X11_72 rfl L.s L.g31 dX11_copy_162 rfl ?_
      refine v_iload (n := 167) dX11_copy_165 rfl rfl ?_
      refine v_iald (n := 168) (j := i) L.c31 (ix_nI (by omega) (by decide)) dX11_copy_167 rfl ?_
      rw [uO_ne (by omega), uP_in hlt]
      refine v_iast (n := 169) (j := 24 * t + q + i) L.c26 (ix_of (i_24c t q i) (by omega) (by decide)) dX11_copy_168 rfl ?_
      refine v_iinc (n := 172) (v := (nI i) + 1) (al' := [.ref m, .int (nI s), .int (nI p), .int (nI t), .int (nI q), .int (nI K), .int ((nI i) + 1)]) dX11_copy_169 rfl (by rw [c_1]) rfl rfl rfl ?_
      refine v_goto (tgt := 140) dX11_copy_172 (by decide) ?_
      rw [nI_1]
      refine v_I (I' := uO (uP I (m + 21) (fun k => I (m + 16) (24 * s + p + k)) K) (m + 16) (24 * t + q) (fun k => I (m + 16) (24 * s + p + k)) (i + 1)) uO_s ?_
      exact ih (i + 1) hlt (by omega)

set_option maxRecDepth 100000 in
set_option maxHeartbeats 1000000 in
theorem l_X11_copy {ro : Ro} {S : St} {I : In} {m s p t q K : Nat} (L : LayM S m) (hs : s < 4) (ht : t < 4) (hp : p + K ≤ 24) (hq : q + K ≤ 24) : ∀ k i, i ≤ K → K < i + k → V RX11 cX11_copy 7 (some .int) "copy" ro (rmD 2 0 0) (QM 0 0 (RI (nI K) S (uO (uP I (m + 21) (fun k => I (m + 16) (24 * s + p + k)) K) (m + 16) (24 * t + q) (fun k => I (m + 16) (24 * s + p + k)) K))) 0 0 103 [.ref m, .int (nI s), .int (nI p), .int (nI t), .int (nI q), .int (nI K), .int (nI i)] [] S (uP I (m + 21) (fun k => I (m + 16) (24 * s + p + k)) i) := by
  intro k
  induction k with
  | zero => intro i hi hk; exact absurd hk (by omega)
  | succ k ih =>
    intro i hi hk
    refine v_iload (n := 105) dX11_copy_103 rfl rfl ?_
    refine v_iload (n := 107) dX11_copy_105 rfl rfl ?_
    refine v_icmp_ge (n := 110) (tgt := 137) dX11_copy_107 (by decide) rfl (fun hq107 => ?_) (fun hq107 => ?_)
    · have hiK : i = K := Nat.le_antisymm hi (le_out hq107 (by omega) (by omega))
      rw [hiK]
      refine v_iconst (n := 138) (v := 0) dX11_copy_137 c_0 rfl ?_
      refine v_istore (n := 140) (al' := [.ref m, .int (nI s), .int (nI p), .int (nI t), .int (nI q), .int (nI K), .int 0]) dX11_copy_138 rfl rfl rfl ?_
      refine v_I (I' := uO (uP I (m + 21) (fun k => I (m + 16) (24 * s + p + k)) K) (m + 16) (24 * t + q) (fun k => I (m + 16) (24 * s + p + k)) 0) uO_0.symm ?_
      exact l2_X11_copy L hs ht hp hq (K + 1) 0 (Nat.zero_le _) (by omega)
    · have hlt := nle_in hq107 (by omega) (by omega)
      refine v_aload_n (n := 111) dX11_copy_110 rfl rfl rfl ?_
      refine v_getR (n := 114) f_X11_72 rfl L.s L.g31 dX11_copy_111 rfl ?_
      refine v_iload (n := 116) dX11_copy_114 rfl rfl ?_
      refine v_aload_n (n := 117) dX11_copy_116 rfl rfl rfl ?_
      refine v_getR (n := 120) f_X11_57 rfl L.s L.g26 dX11_copy_117 rfl ?_
      refine v_bipush (n := 122) (v := 24) dX11_copy_120 b_24 rfl ?_
      refine v_iload_n (n := 123) dX11_copy_122 rfl rfl rfl ?_
      refine v_imul (n := 124) dX11_copy_123 rfl ?_
      refine v_iload_n (n := 125) dX11_copy_124 rfl rfl rfl ?_
      refine v_iadd (n := 126) dX11_copy_125 rfl ?_
      refine v_iload (n := 128) dX11_copy_126 rfl rfl ?_
      refine v_iadd (n := 129) dX11_copy_128 rfl ?_
      refine v_iald (n := 130) (j := 24 * s + p + i) L.c26 (ix_of (i_24c s p i) (by omega) (by decide)) dX11_copy_129 rfl ?_
      rw [uP_ne (by omega)]
      refine v_iast (n := 131) (j := i) L.c31 (ix_nI (by omega) (by decide)) dX11_copy_130 rfl ?_
      refine v_iinc (n := 134) (v := (nI i) + 1) (al' := [.ref m, .int (nI s), .int (nI p), .int (nI t), .int (nI q), .int (nI K), .int ((nI i) + 1)]) dX11_copy_131 rfl (by rw [c_1]) rfl rfl rfl ?_
      refine v_goto (tgt := 103) dX11_copy_134 (by decide) ?_
      rw [nI_1]
      refine v_I (I' := uP I (m + 21) (fun k => I (m + 16) (24 * s + p + k)) (i + 1)) uP_s ?_
      exact ih (i + 1) hlt (by omega)

set_option maxRecDepth 100000 in
set_option maxHeartbeats 1000000 in
theorem k_X11_copy {ro : Ro} {S : St} {I : In} {xa xb xc xd xe : Int32} {m : Nat} (L : LayM S m) (h : MW I m) : Ok mX11_copy ro 2 0 0 [.ref m, .int xa, .int xb, .int xc, .int xd, .int xe] S I (RI (copyM I m xa xb xc xd xe).1 S (copyM I m xa xb xc xd xe).2) := by
  refine ok_of (al := [.ref m, .int xa, .int xb, .int xc, .int xd, .int xe, JJ]) (by decide) (l8 rfl) rfl ?_
  refine v_iload_n (n := 1) dX11_copy_0 rfl rfl rfl ?_
  refine v_cSi (n := 4) (x := (bi (inn xa 0 3))) mc_X11_isSheet l_X11_178 sta_X11_isSheet k_X11_isSheet ⟨rfl, rfl⟩ (l8 rfl) ⟨l8 rfl, l8 rfl⟩ rfl rfl (l8 rfl) dX11_copy_1 rfl ?_
  refine v_if_eq (n := 7) (tgt := 14) dX11_copy_4 (by decide) rfl (fun hq4 => ?_) (fun hq4 => ?_)
  · refine v_ldc (n := 16) k_X11_90 dX11_copy_14 rfl ?_
    exact v_rI rfl (by clear h; simp_all [-Int32.not_lt, -Int32.not_le, bi_0, bi_n0, copyM]) rfl (by clear h; simp_all [-Int32.not_lt, -Int32.not_le, bi_0, bi_n0, copyM]) ⟨l8 rfl, l8 rfl⟩ dX11_copy_16
  · refine v_iload_n (n := 8) dX11_copy_7 rfl rfl rfl ?_
    refine v_cSi (n := 11) (x := (bi (inn xc 0 3))) mc_X11_isSheet l_X11_178 sta_X11_isSheet k_X11_isSheet ⟨rfl, rfl⟩ (l8 rfl) ⟨l8 rfl, l8 rfl⟩ rfl rfl (l8 rfl) dX11_copy_8 rfl ?_
    refine v_if_ne (n := 14) (tgt := 17) dX11_copy_11 (by decide) rfl (fun hq11 => ?_) (fun hq11 => ?_)
    · obtain ⟨s, hs, rfl⟩ := inn_get (a := 3) (bi_n0.mp hq4) (by decide)
      obtain ⟨t, ht, rfl⟩ := inn_get (a := 3) (bi_n0.mp hq11) (by decide)
      obtain ⟨-, z1, hz1, ez1⟩ := h.1 s (by omega)
      obtain ⟨-, z2, hz2, ez2⟩ := h.1 t (by omega)
      refine v_aload_n (n := 18) dX11_copy_17 rfl rfl rfl ?_
      refine v_getR (n := 21) f_X11_51 rfl L.s L.g24 dX11_copy_18 rfl ?_
      refine v_iload_n (n := 22) dX11_copy_21 rfl rfl rfl ?_
      refine v_iald (n := 23) (j := s) L.c24 (ix_nI (by omega) (by decide)) dX11_copy_22 rfl ?_
      refine v_if_lt (n := 26) (tgt := 35) dX11_copy_23 (by decide) rfl (fun hq23 => ?_) (fun hq23 => ?_)
      · refine v_ldc (n := 37) k_X11_181 dX11_copy_35 rfl ?_
        exact v_rI rfl (by clear h; simp_all [-Int32.not_lt, -Int32.not_le, bi_0, bi_n0, copyM, nI_clamp (show s < 2 ^ 31 by omega), nI_clamp (show t < 2 ^ 31 by omega)]) rfl (by clear h; simp_all [-Int32.not_lt, -Int32.not_le, bi_0, bi_n0, copyM, nI_clamp (show s < 2 ^ 31 by omega), nI_clamp (show t < 2 ^ 31 by omega)]) ⟨l8 rfl, l8 rfl⟩ dX11_copy_37
      · refine v_aload_n (n := 27) dX11_copy_26 rfl rfl rfl ?_
        refine v_getR (n := 30) f_X11_51 rfl L.s L.g24 dX11_copy_27 rfl ?_
        refine v_iload_n (n := 31) dX11_copy_30 rfl rfl rfl ?_
        refine v_iald (n := 32) (j := t) L.c24 (ix_nI (by omega) (by decide)) dX11_copy_31 rfl ?_
        refine v_if_ge (n := 35) (tgt := 38) dX11_copy_32 (by decide) rfl (fun hq32 => ?_) (fun hq32 => ?_)
        · refine v_aload_n (n := 39) dX11_copy_38 rfl rfl rfl ?_
          refine v_getR (n := 42) f_X11_51 rfl L.s L.g24 dX11_copy_39 rfl ?_
          refine v_iload_n (n := 43) dX11_copy_42 rfl rfl rfl ?_
          refine v_iald (n := 44) (j := s) L.c24 (ix_nI (by omega) (by decide)) dX11_copy_43 rfl ?_
          refine v_aload_n (n := 45) dX11_copy_44 rfl rfl rfl ?_
          refine v_getR (n := 48) f_X11_51 rfl L.s L.g24 dX11_copy_45 rfl ?_
          refine v_iload_n (n := 49) dX11_copy_48 rfl rfl rfl ?_
          refine v_iald (n := 50) (j := t) L.c24 (ix_nI (by omega) (by decide)) dX11_copy_49 rfl ?_
          refine v_icmp_eq (n := 53) (tgt := 56) dX11_copy_50 (by decide) rfl (fun hq50 => ?_) (fun hq50 => ?_)
          · refine v_iload_n (n := 57) dX11_copy_56 rfl rfl rfl ?_
            refine v_if_lt (n := 60) (tgt := 97) dX11_copy_57 (by decide) rfl (fun hq57 => ?_) (fun hq57 => ?_)
            · refine v_ldc (n := 99) k_X11_255 dX11_copy_97 rfl ?_
              exact v_rI rfl (by clear h; simp_all [-Int32.not_lt, -Int32.not_le, bi_0, bi_n0, copyM, nI_clamp (show s < 2 ^ 31 by omega), nI_clamp (show t < 2 ^ 31 by omega)]) rfl (by clear h; simp_all [-Int32.not_lt, -Int32.not_le, bi_0, bi_n0, copyM, nI_clamp (show s < 2 ^ 31 by omega), nI_clamp (show t < 2 ^ 31 by omega)]) ⟨l8 rfl, l8 rfl⟩ dX11_copy_99
            · refine v_iload (n := 62) dX11_copy_60 rfl rfl ?_
              refine v_if_lt (n := 65) (tgt := 97) dX11_copy_62 (by decide) rfl (fun hq62 => ?_) (fun hq62 => ?_)
              · refine v_ldc (n := 99) k_X11_255 dX11_copy_97 rfl ?_
                exact v_rI rfl (by clear h; simp_all [-Int32.not_lt, -Int32.not_le, bi_0, bi_n0, copyM, nI_clamp (show s < 2 ^ 31 by omega), nI_clamp (show t < 2 ^ 31 by omega)]) rfl (by clear h; simp_all [-Int32.not_lt, -Int32.not_le, bi_0, bi_n0, copyM, nI_clamp (show s < 2 ^ 31 by omega), nI_clamp (show t < 2 ^ 31 by omega)]) ⟨l8 rfl, l8 rfl⟩ dX11_copy_99
              · refine v_iload (n := 67) dX11_copy_65 rfl rfl ?_
                refine v_if_lt (n := 70) (tgt := 97) dX11_copy_67 (by decide) rfl (fun hq67 => ?_) (fun hq67 => ?_)
                · refine v_ldc (n := 99) k_X11_255 dX11_copy_97 rfl ?_
                  exact v_rI rfl (by clear h; simp_all [-Int32.not_lt, -Int32.not_le, bi_0, bi_n0, copyM, nI_clamp (show s < 2 ^ 31 by omega), nI_clamp (show t < 2 ^ 31 by omega)]) rfl (by clear h; simp_all [-Int32.not_lt, -Int32.not_le, bi_0, bi_n0, copyM, nI_clamp (show s < 2 ^ 31 by omega), nI_clamp (show t < 2 ^ 31 by omega)]) ⟨l8 rfl, l8 rfl⟩ dX11_copy_99
                · refine v_iload_n (n := 71) dX11_copy_70 rfl rfl rfl ?_
                  refine v_aload_n (n := 72) dX11_copy_71 rfl rfl rfl ?_
                  refine v_getR (n := 75) f_X11_54 rfl L.s L.g25 dX11_copy_72 rfl ?_
                  refine v_iload_n (n := 76) dX11_copy_75 rfl rfl rfl ?_
                  refine v_iald (n := 77) (j := s) L.c25 (ix_nI (by omega) (by decide)) dX11_copy_76 rfl ?_
                  refine v_iload (n := 79) dX11_copy_77 rfl rfl ?_
                  refine v_isub (n := 80) dX11_copy_79 rfl ?_
                  refine v_icmp_gt (n := 83) (tgt := 97) dX11_copy_80 (by decide) rfl (fun hq80 => ?_) (fun hq80 => ?_)
                  · refine v_ldc (n := 99) k_X11_255 dX11_copy_97 rfl ?_
                    exact v_rI rfl (by clear h; simp_all [-Int32.not_lt, -Int32.not_le, bi_0, bi_n0, copyM, nI_clamp (show s < 2 ^ 31 by omega), nI_clamp (show t < 2 ^ 31 by omega)]) rfl (by clear h; simp_all [-Int32.not_lt, -Int32.not_le, bi_0, bi_n0, copyM, nI_clamp (show s < 2 ^ 31 by omega), nI_clamp (show t < 2 ^ 31 by omega)]) ⟨l8 rfl, l8 rfl⟩ dX11_copy_99
                  · refine v_iload (n := 85) dX11_copy_83 rfl rfl ?_
                    refine v_aload_n (n := 86) dX11_copy_85 rfl rfl rfl ?_
                    refine v_getR (n := 89) f_X11_54 rfl L.s L.g25 dX11_copy_86 rfl ?_
                    refine v_iload_n (n := 90) dX11_copy_89 rfl rfl rfl ?_
                    refine v_iald (n := 91) (j := t) L.c25 (ix_nI (by omega) (by decide)) dX11_copy_90 rfl ?_
                    refine v_iload (n := 93) dX11_copy_91 rfl rfl ?_
                    refine v_isub (n := 94) dX11_copy_93 rfl ?_
                    refine v_icmp_le (n := 97) (tgt := 100) dX11_copy_94 (by decide) rfl (fun hq94 => ?_) (fun hq94 => ?_)
                    · obtain ⟨p, hp, rfl⟩ := nI_of hq57
                      obtain ⟨q, hq, rfl⟩ := nI_of hq62
                      obtain ⟨K, hK, rfl⟩ := nI_of hq67
                      have f1 := sub_fit hz1 hK hp (by rw [← ez1]; exact hq80)
                      have f2 := sub_fit2 hz2 hK hq (by rw [← ez2]; exact hq94)
                      refine v_iconst (n := 101) (v := 0) dX11_copy_100 c_0 rfl ?_
                      refine v_istore (n := 103) (al' := [.ref m, .int (nI s), .int (nI p), .int (nI t), .int (nI q), .int (nI K), .int 0]) dX11_copy_101 rfl rfl rfl ?_
                      rw [show copyM I m (nI s) (nI p) (nI t) (nI q) (nI K) = (nI K, uO (uP I (m + 21) (fun k => I (m + 16) (24 * s + p + k)) K) (m + 16) (24 * t + q) (fun k => I (m + 16) (24 * s + p + k)) K) from by rw [copyM, if_pos (by simp only [Bool.and_eq_true]; exact ⟨bi_n0.mp hq4, bi_n0.mp hq11⟩), nI_clamp (show s < 2 ^ 31 by omega), if_neg hq23, nI_clamp (show t < 2 ^ 31 by omega), if_pos hq32, if_pos hq50, if_neg hq57, if_neg hq62, if_neg hq67, if_neg hq80, if_pos hq94, nI_clamp hK, nI_clamp hq, show cpF I m (nI s) (nI p) = (fun k => I (m + 16) (24 * s + p + k)) from by unfold cpF; rw [nI_clamp (by omega), nI_clamp hp]]]
                      refine v_I (I' := uP I (m + 21) (fun k => I (m + 16) (24 * s + p + k)) 0) uP_0.symm ?_
                      exact l_X11_copy L (by omega) (by omega) (by omega) (by omega) (K + 1) 0 (Nat.zero_le _) (by omega)
                    · refine v_ldc (n := 99) k_X11_255 dX11_copy_97 rfl ?_
                      exact v_rI rfl (by clear h; simp_all [-Int32.not_lt, -Int32.not_le, bi_0, bi_n0, copyM, nI_clamp (show s < 2 ^ 31 by omega), nI_clamp (show t < 2 ^ 31 by omega)]) rfl (by clear h; simp_all [-Int32.not_lt, -Int32.not_le, bi_0, bi_n0, copyM, nI_clamp (show s < 2 ^ 31 by omega), nI_clamp (show t < 2 ^ 31 by omega)]) ⟨l8 rfl, l8 rfl⟩ dX11_copy_99
          · refine v_ldc (n := 55) k_X11_133 dX11_copy_53 rfl ?_
            exact v_rI rfl (by clear h; simp_all [-Int32.not_lt, -Int32.not_le, bi_0, bi_n0, copyM, nI_clamp (show s < 2 ^ 31 by omega), nI_clamp (show t < 2 ^ 31 by omega)]) rfl (by clear h; simp_all [-Int32.not_lt, -Int32.not_le, bi_0, bi_n0, copyM, nI_clamp (show s < 2 ^ 31 by omega), nI_clamp (show t < 2 ^ 31 by omega)]) ⟨l8 rfl, l8 rfl⟩ dX11_copy_55
        · refine v_ldc (n := 37) k_X11_181 dX11_copy_35 rfl ?_
          exact v_rI rfl (by clear h; simp_all [-Int32.not_lt, -Int32.not_le, bi_0, bi_n0, copyM, nI_clamp (show s < 2 ^ 31 by omega), nI_clamp (show t < 2 ^ 31 by omega)]) rfl (by clear h; simp_all [-Int32.not_lt, -Int32.not_le, bi_0, bi_n0, copyM, nI_clamp (show s < 2 ^ 31 by omega), nI_clamp (show t < 2 ^ 31 by omega)]) ⟨l8 rfl, l8 rfl⟩ dX11_copy_37
    · refine v_ldc (n := 16) k_X11_90 dX11_copy_14 rfl ?_
      exact v_rI rfl (by clear h; simp_all [-Int32.not_lt, -Int32.not_le, bi_0, bi_n0, copyM]) rfl (by clear h; simp_all [-Int32.not_lt, -Int32.not_le, bi_0, bi_n0, copyM]) ⟨l8 rfl, l8 rfl⟩ dX11_copy_16

set_option maxRecDepth 100000 in
set_option maxHeartbeats 1000000 in
theorem k1_X11_lay {ro : Ro} {S : St} {I : In} {xa xc : Int32} {n : Nat} {m : Nat} (L : LayM S m) (h : MW I m) (h1 : I (m + 1) 1 = nI n) (hn10 : n ≤ 10) : Ok mX11_lay ro 2 0 0 [.ref m, .int xa, .int 1, .int xc] S I (RI (layM I m xa 1 xc).1 S (layM I m xa 1 xc).2) := by
  refine ok_of (al := [.ref m, .int xa, .int 1, .int xc, JJ, JJ]) (by decide) (l8 rfl) rfl ?_
  refine v_iload_n (n := 1) dX11_lay_0 rfl rfl rfl ?_
  refine v_cSi (n := 4) (x := (bi (inn xa 0 4))) mc_X11_isSlot l_X11_258 sta_X11_isSlot k_X11_isSlot ⟨rfl, rfl⟩ (l8 rfl) ⟨l8 rfl, l8 rfl⟩ rfl rfl (l8 rfl) dX11_lay_1 rfl ?_
  refine v_if_eq (n := 7) (tgt := 41) dX11_lay_4 (by decide) rfl (fun hq4 => ?_) (fun hq4 => ?_)
  · refine v_ldc (n := 43) k_X11_90 dX11_lay_41 rfl ?_
    exact v_rI rfl (by clear h; simp_all [-Int32.not_lt, -Int32.not_le, bi_0, bi_n0, layM]) rfl (by clear h; simp_all [-Int32.not_lt, -Int32.not_le, bi_0, bi_n0, layM]) ⟨l8 rfl, l8 rfl⟩ dX11_lay_43
  · refine v_iload_n (n := 8) dX11_lay_7 rfl rfl rfl ?_
    refine v_iconst (n := 9) (v := 0) dX11_lay_8 c_0 rfl ?_
    refine v_iconst (n := 10) (v := 3) dX11_lay_9 c_3 rfl ?_
    refine v_cSi (n := 13) (x := (bi (inn 1 0 3))) mc_X11_in l_X11_78 sta_X11_in k_X11_in ⟨rfl, rfl⟩ (l8 rfl) ⟨l8 rfl, l8 rfl⟩ rfl rfl (l8 rfl) dX11_lay_10 rfl ?_
    refine v_if_eq (n := 16) (tgt := 41) dX11_lay_13 (by decide) rfl (fun hq13 => ?_) (fun hq13 => ?_)
    · exact absurd hq13 (by decide)
    · refine v_iload_n (n := 17) dX11_lay_16 rfl rfl rfl ?_
      refine v_iconst (n := 18) (v := 1) dX11_lay_17 c_1 rfl ?_
      refine v_icmp_ne (n := 21) (tgt := 29) dX11_lay_18 (by decide) rfl (fun hq18 => ?_) (fun hq18 => ?_)
      · exact absurd rfl hq18
      · refine v_aload_n (n := 22) dX11_lay_21 rfl rfl rfl ?_
        refine v_iload_n (n := 23) dX11_lay_22 rfl rfl rfl ?_
        refine v_cVi (n := 26) (x := (bi (yd (I (m + 1)) xc))) mc_X11_isYard l_X11_114 iv_X11_isYard se_X11_isYard (ci := 10) ⟨by decide, rfl⟩ L.s (k_X11_isYard L) ⟨rfl, rfl⟩ (l8 rfl) ⟨l8 rfl, l8 rfl⟩ rfl rfl (l8 rfl) dX11_lay_23 rfl ?_
        refine v_if_eq (n := 29) (tgt := 41) dX11_lay_26 (by decide) rfl (fun hq26 => ?_) (fun hq26 => ?_)
        · refine v_ldc (n := 43) k_X11_90 dX11_lay_41 rfl ?_
          exact v_rI rfl (by clear h; simp_all [-Int32.not_lt, -Int32.not_le, bi_0, bi_n0, layM]) rfl (by clear h; simp_all [-Int32.not_lt, -Int32.not_le, bi_0, bi_n0, layM]) ⟨l8 rfl, l8 rfl⟩ dX11_lay_43
        · obtain ⟨s, hs, rfl⟩ := inn_get (a := 4) (bi_n0.mp hq4) (by decide)
          obtain ⟨y, hy, rfl⟩ := yd_get (bi_n0.mp hq26) h1 hn10
          refine v_iload_n (n := 30) dX11_lay_29 rfl rfl rfl ?_
          refine v_iconst (n := 31) (v := 2) dX11_lay_30 c_2 rfl ?_
          refine v_icmp_ne (n := 34) (tgt := 44) dX11_lay_31 (by decide) rfl (fun hq31 => ?_) (fun hq31 => ?_)
          · refine v_iload_n (n := 45) dX11_lay_44 rfl rfl rfl ?_
            refine v_iconst (n := 46) (v := 2) dX11_lay_45 c_2 rfl ?_
            refine v_icmp_ne (n := 49) (tgt := 61) dX11_lay_46 (by decide) rfl (fun hq46 => ?_) (fun hq46 => ?_)
            · refine v_aload_n (n := 62) dX11_lay_61 rfl rfl rfl ?_
              refine v_getR (n := 65) f_X11_60 rfl L.s L.g27 dX11_lay_62 rfl ?_
              refine v_iload_n (n := 66) dX11_lay_65 rfl rfl rfl ?_
              refine v_iald (n := 67) (j := s) L.c27 (ix_nI (by omega) (by decide)) dX11_lay_66 rfl ?_
              refine v_istore (n := 69) (al' := [.ref m, .int (nI s), .int 1, .int (nI y), .int (I (m + 17) s), JJ]) dX11_lay_67 rfl rfl rfl ?_
              refine v_aload_n (n := 70) dX11_lay_69 rfl rfl rfl ?_
              refine v_getR (n := 73) f_X11_60 rfl L.s L.g27 dX11_lay_70 rfl ?_
              refine v_iload_n (n := 74) dX11_lay_73 rfl rfl rfl ?_
              refine v_iload_n (n := 75) dX11_lay_74 rfl rfl rfl ?_
              refine v_iast (n := 76) (j := s) L.c27 (ix_nI (by omega) (by decide)) dX11_lay_75 rfl ?_
              refine v_aload_n (n := 77) dX11_lay_76 rfl rfl rfl ?_
              refine v_getR (n := 80) f_X11_63 rfl L.s L.g28 dX11_lay_77 rfl ?_
              refine v_iload_n (n := 81) dX11_lay_80 rfl rfl rfl ?_
              refine v_iload_n (n := 82) dX11_lay_81 rfl rfl rfl ?_
              refine v_iconst (n := 83) (v := 1) dX11_lay_82 c_1 rfl ?_
              refine v_icmp_ne (n := 86) (tgt := 95) dX11_lay_83 (by decide) rfl (fun hq83 => ?_) (fun hq83 => ?_)
              · exact absurd rfl hq83
              · refine v_aload_n (n := 87) dX11_lay_86 rfl rfl rfl ?_
                refine v_iload_n (n := 88) dX11_lay_87 rfl rfl rfl ?_
                refine v_iconst (n := 89) (v := 0) dX11_lay_88 c_0 rfl ?_
                refine v_cVi (n := 92) (x := ((setI I (m + 17) s 1) (m + 1) (76 + 4 * y + 0))) mc_X11_of l_X11_110 iv_X11_of se_X11_of (ci := 10) ⟨by decide, rfl⟩ L.s (k_X11_of (y := y) (u := 0) L (by omega) (by decide)) ⟨rfl, rfl⟩ (l8 rfl) ⟨l8 rfl, l8 rfl⟩ rfl rfl (l8 rfl) dX11_lay_89 rfl ?_
                rw [setI_ne (by omega)]
                refine v_goto (tgt := 110) dX11_lay_92 (by decide) ?_
                refine v_iast (n := 111) (j := s) L.c28 (ix_nI (by omega) (by decide)) dX11_lay_110 rfl ?_
                refine v_aload_n (n := 112) dX11_lay_111 rfl rfl rfl ?_
                refine v_getR (n := 115) f_X11_66 rfl L.s L.g29 dX11_lay_112 rfl ?_
                refine v_iload_n (n := 116) dX11_lay_115 rfl rfl rfl ?_
                refine v_iload_n (n := 117) dX11_lay_116 rfl rfl rfl ?_
                refine v_iconst (n := 118) (v := 1) dX11_lay_117 c_1 rfl ?_
                refine v_icmp_ne (n := 121) (tgt := 129) dX11_lay_118 (by decide) rfl (fun hq118 => ?_) (fun hq118 => ?_)
                · exact absurd rfl hq118
                · refine v_aload_n (n := 122) dX11_lay_121 rfl rfl rfl ?_
                  refine v_iload_n (n := 123) dX11_lay_122 rfl rfl rfl ?_
                  refine v_cVi (n := 126) (x := (kWorthM ((setI (setI I (m + 17) s 1) (m + 18) s (I (m + 1) (76 + 4 * y))) (m + 1) (76 + 4 * y)) ((setI (setI I (m + 17) s 1) (m + 18) s (I (m + 1) (76 + 4 * y))) (m + 1) (76 + 4 * y + 1)) ((setI (setI I (m + 17) s 1) (m + 18) s (I (m + 1) (76 + 4 * y))) (m + 1) (76 + 4 * y + 2)))) mc_X11_worthOf l_X11_124 iv_X11_worthOf se_X11_worthOf (ci := 10) ⟨by decide, rfl⟩ L.s (k_X11_worthOf (y := y) L (by omega)) ⟨rfl, rfl⟩ (l8 rfl) ⟨l8 rfl, l8 rfl⟩ rfl rfl (l8 rfl) dX11_lay_123 rfl ?_
                  rw [setI_ne (by omega), setI_ne (by omega)]
                  refine v_goto (tgt := 130) dX11_lay_126 (by decide) ?_
                  refine v_iast (n := 131) (j := s) L.c29 (ix_nI (by omega) (by decide)) dX11_lay_130 rfl ?_
                  refine v_iconst (n := 132) (v := 0) dX11_lay_131 c_0 rfl ?_
                  refine v_istore (n := 134) (al' := [.ref m, .int (nI s), .int 1, .int (nI y), .int (I (m + 17) s), .int 0]) dX11_lay_132 rfl rfl rfl ?_
                  refine v_iload (n := 136) dX11_lay_134 rfl rfl ?_
                  refine v_bipush (n := 138) (v := 24) dX11_lay_136 b_24 rfl ?_
                  refine v_icmp_ge (n := 141) (tgt := 176) dX11_lay_138 (by decide) rfl (fun hq138 => ?_) (fun hq138 => ?_)
                  · exact absurd hq138 (by decide)
                  · refine v_iload_n (n := 142) dX11_lay_141 rfl rfl rfl ?_
                    refine v_iconst (n := 143) (v := 2) dX11_lay_142 c_2 rfl ?_
                    refine v_icmp_ne (n := 146) (tgt := 176) dX11_lay_143 (by decide) rfl (fun hq143 => ?_) (fun hq143 => ?_)
                    · refine v_iload (n := 178) dX11_lay_176 rfl rfl ?_
                      have e : layM I m (nI s) 1 (nI y) = (I (m + 17) s, layI I m (nI s) 1 (nI y)) := by
                        rw [layM, if_pos (by simp only [Bool.and_eq_true]; exact ⟨bi_n0.mp hq4, by decide⟩), if_neg (fun q => absurd q.2 (by rw [bi_n0.mp hq26]; decide)), if_neg (fun q => absurd q.1 (by decide)), if_neg (fun q => absurd q.1 (by decide)), if_neg (by decide), nI_clamp (by omega)]
                      exact v_rI rfl (by rw [e]) rfl (by rw [e]; unfold layI layA layB; rw [if_pos rfl, if_pos rfl, nI_clamp (by omega), nI_clamp (by omega)]; rfl) ⟨l8 rfl, l8 rfl⟩ dX11_lay_178
                    · exact absurd hq143 (by decide)
            · exact absurd hq46 (by decide)
          · exact absurd hq31 (by decide)

set_option maxRecDepth 100000 in
set_option maxHeartbeats 1000000 in
theorem l_X11_lay {ro : Ro} {S : St} {I : In} {m s t : Nat} (L : LayM S m) (hs : s < 5) (ht : t < 4) : ∀ k i, i ≤ 24 → 24 < i + k → V RX11 cX11_lay 6 (some .int) "lay" ro (rmD 2 0 0) (QM 0 0 (RI (I (m + 17) s) S (uO (setI (setI (setI I (m + 17) s 2) (m + 18) s (I (m + 15) t)) (m + 19) s 0) (m + 20) (24 * s) (fun i => I (m + 16) (24 * t + i)) 24))) 0 0 134 [.ref m, .int (nI s), .int 2, .int (nI t), .int (I (m + 17) s), .int (nI i)] [] S (uO (setI (setI (setI I (m + 17) s 2) (m + 18) s (I (m + 15) t)) (m + 19) s 0) (m + 20) (24 * s) (fun i => I (m + 16) (24 * t + i)) i) := by
  intro k
  induction k with
  | zero => intro i hi hk; exact absurd hk (by omega)
  | succ k ih =>
    intro i hi hk
    refine v_iload (n := 136) dX11_lay_134 rfl rfl ?_
    refine v_bipush (n := 138) (v := 24) dX11_lay_136 b_24 rfl ?_
    refine v_icmp_ge (n := 141) (tgt := 176) dX11_lay_138 (by decide) rfl (fun hq138 => ?_) (fun hq138 => ?_)
    · rw [lit_nI 24] at hq138
      obtain rfl : i = 24 := Nat.le_antisymm hi (le_out hq138 (by omega) (by omega))
      refine v_iload (n := 178) dX11_lay_176 rfl rfl ?_
      exact v_rI rfl rfl rfl rfl ⟨l8 rfl, l8 rfl⟩ dX11_lay_178
    · rw [lit_nI 24] at hq138
      have hlt := nle_in hq138 (by omega) (by omega)
      refine v_iload_n (n := 142) dX11_lay_141 rfl rfl rfl ?_
      refine v_iconst (n := 143) (v := 2) dX11_lay_142 c_2 rfl ?_
      refine v_icmp_ne (n := 146) (tgt := 176) dX11_lay_143 (by decide) rfl (fun hq143 => ?_) (fun hq143 => ?_)
      · exact absurd rfl hq143
      · refine v_aload_n (n := 147) dX11_lay_146 rfl rfl rfl ?_
        refine v_getR (n := 150) f_X11_69 rfl L.s L.g30 dX11_lay_147 rfl ?_
        refine v_bipush (n := 152) (v := 24) dX11_lay_150 b_24 rfl ?_
        refine v_iload_n (n := 153) dX11_lay_152 rfl rfl rfl ?_
        refine v_imul (n := 154) dX11_lay_153 rfl ?_
        refine v_iload (n := 156) dX11_lay_154 rfl rfl ?_
        refine v_iadd (n := 157) dX11_lay_156 rfl ?_
        refine v_aload_n (n := 158) dX11_lay_157 rfl rfl rfl ?_
        refine v_getR (n := 161) f_X11_57 rfl L.s L.g26 dX11_lay_158 rfl ?_
        refine v_bipush (n := 163) (v := 24) dX11_lay_161 b_24 rfl ?_
        refine v_iload_n (n := 164) dX11_lay_163 rfl rfl rfl ?_
        refine v_imul (n := 165) dX11_lay_164 rfl ?_
        refine v_iload (n := 167) dX11_lay_165 rfl rfl ?_
        refine v_iadd (n := 168) dX11_lay_167 rfl ?_
        refine v_iald (n := 169) (j := 24 * t + i) L.c26 (ix_of (i_24 t i) (by omega) (by decide)) dX11_lay_168 rfl ?_
        rw [uO_ne (by omega), setI_ne (by omega), setI_ne (by omega), setI_ne (by omega)]
        refine v_iast (n := 170) (j := 24 * s + i) L.c30 (ix_of (i_24 s i) (by omega) (by decide)) dX11_lay_169 rfl ?_
        refine v_iinc (n := 173) (v := (nI i) + 1) (al' := [.ref m, .int (nI s), .int 2, .int (nI t), .int (I (m + 17) s), .int ((nI i) + 1)]) dX11_lay_170 rfl (by rw [c_1]) rfl rfl rfl ?_
        refine v_goto (tgt := 134) dX11_lay_173 (by decide) ?_
        rw [nI_1]
        refine v_I (I' := uO (setI (setI (setI I (m + 17) s 2) (m + 18) s (I (m + 15) t)) (m + 19) s 0) (m + 20) (24 * s) (fun i => I (m + 16) (24 * t + i)) (i + 1)) uO_s ?_
        exact ih (i + 1) hlt (by omega)

set_option maxRecDepth 100000 in
set_option maxHeartbeats 1000000 in
theorem k2_X11_lay {ro : Ro} {S : St} {I : In} {xa xc : Int32} {m : Nat} (L : LayM S m) (h : MW I m) : Ok mX11_lay ro 2 0 0 [.ref m, .int xa, .int 2, .int xc] S I (RI (layM I m xa 2 xc).1 S (layM I m xa 2 xc).2) := by
  refine ok_of (al := [.ref m, .int xa, .int 2, .int xc, JJ, JJ]) (by decide) (l8 rfl) rfl ?_
  refine v_iload_n (n := 1) dX11_lay_0 rfl rfl rfl ?_
  refine v_cSi (n := 4) (x := (bi (inn xa 0 4))) mc_X11_isSlot l_X11_258 sta_X11_isSlot k_X11_isSlot ⟨rfl, rfl⟩ (l8 rfl) ⟨l8 rfl, l8 rfl⟩ rfl rfl (l8 rfl) dX11_lay_1 rfl ?_
  refine v_if_eq (n := 7) (tgt := 41) dX11_lay_4 (by decide) rfl (fun hq4 => ?_) (fun hq4 => ?_)
  · refine v_ldc (n := 43) k_X11_90 dX11_lay_41 rfl ?_
    exact v_rI rfl (by clear h; simp_all [-Int32.not_lt, -Int32.not_le, bi_0, bi_n0, layM]) rfl (by clear h; simp_all [-Int32.not_lt, -Int32.not_le, bi_0, bi_n0, layM]) ⟨l8 rfl, l8 rfl⟩ dX11_lay_43
  · refine v_iload_n (n := 8) dX11_lay_7 rfl rfl rfl ?_
    refine v_iconst (n := 9) (v := 0) dX11_lay_8 c_0 rfl ?_
    refine v_iconst (n := 10) (v := 3) dX11_lay_9 c_3 rfl ?_
    refine v_cSi (n := 13) (x := (bi (inn 2 0 3))) mc_X11_in l_X11_78 sta_X11_in k_X11_in ⟨rfl, rfl⟩ (l8 rfl) ⟨l8 rfl, l8 rfl⟩ rfl rfl (l8 rfl) dX11_lay_10 rfl ?_
    refine v_if_eq (n := 16) (tgt := 41) dX11_lay_13 (by decide) rfl (fun hq13 => ?_) (fun hq13 => ?_)
    · exact absurd hq13 (by decide)
    · refine v_iload_n (n := 17) dX11_lay_16 rfl rfl rfl ?_
      refine v_iconst (n := 18) (v := 1) dX11_lay_17 c_1 rfl ?_
      refine v_icmp_ne (n := 21) (tgt := 29) dX11_lay_18 (by decide) rfl (fun hq18 => ?_) (fun hq18 => ?_)
      · refine v_iload_n (n := 30) dX11_lay_29 rfl rfl rfl ?_
        refine v_iconst (n := 31) (v := 2) dX11_lay_30 c_2 rfl ?_
        refine v_icmp_ne (n := 34) (tgt := 44) dX11_lay_31 (by decide) rfl (fun hq31 => ?_) (fun hq31 => ?_)
        · exact absurd rfl hq31
        · refine v_iload_n (n := 35) dX11_lay_34 rfl rfl rfl ?_
          refine v_cSi (n := 38) (x := (bi (inn xc 0 3))) mc_X11_isSheet l_X11_178 sta_X11_isSheet k_X11_isSheet ⟨rfl, rfl⟩ (l8 rfl) ⟨l8 rfl, l8 rfl⟩ rfl rfl (l8 rfl) dX11_lay_35 rfl ?_
          refine v_if_ne (n := 41) (tgt := 44) dX11_lay_38 (by decide) rfl (fun hq38 => ?_) (fun hq38 => ?_)
          · obtain ⟨s, hs, rfl⟩ := inn_get (a := 4) (bi_n0.mp hq4) (by decide)
            obtain ⟨t, ht, rfl⟩ := inn_get (a := 3) (bi_n0.mp hq38) (by decide)
            refine v_iload_n (n := 45) dX11_lay_44 rfl rfl rfl ?_
            refine v_iconst (n := 46) (v := 2) dX11_lay_45 c_2 rfl ?_
            refine v_icmp_ne (n := 49) (tgt := 61) dX11_lay_46 (by decide) rfl (fun hq46 => ?_) (fun hq46 => ?_)
            · exact absurd rfl hq46
            · refine v_aload_n (n := 50) dX11_lay_49 rfl rfl rfl ?_
              refine v_getR (n := 53) f_X11_51 rfl L.s L.g24 dX11_lay_50 rfl ?_
              refine v_iload_n (n := 54) dX11_lay_53 rfl rfl rfl ?_
              refine v_iald (n := 55) (j := t) L.c24 (ix_nI (by omega) (by decide)) dX11_lay_54 rfl ?_
              refine v_if_ge (n := 58) (tgt := 61) dX11_lay_55 (by decide) rfl (fun hq55 => ?_) (fun hq55 => ?_)
              · refine v_aload_n (n := 62) dX11_lay_61 rfl rfl rfl ?_
                refine v_getR (n := 65) f_X11_60 rfl L.s L.g27 dX11_lay_62 rfl ?_
                refine v_iload_n (n := 66) dX11_lay_65 rfl rfl rfl ?_
                refine v_iald (n := 67) (j := s) L.c27 (ix_nI (by omega) (by decide)) dX11_lay_66 rfl ?_
                refine v_istore (n := 69) (al' := [.ref m, .int (nI s), .int 2, .int (nI t), .int (I (m + 17) s), JJ]) dX11_lay_67 rfl rfl rfl ?_
                refine v_aload_n (n := 70) dX11_lay_69 rfl rfl rfl ?_
                refine v_getR (n := 73) f_X11_60 rfl L.s L.g27 dX11_lay_70 rfl ?_
                refine v_iload_n (n := 74) dX11_lay_73 rfl rfl rfl ?_
                refine v_iload_n (n := 75) dX11_lay_74 rfl rfl rfl ?_
                refine v_iast (n := 76) (j := s) L.c27 (ix_nI (by omega) (by decide)) dX11_lay_75 rfl ?_
                refine v_aload_n (n := 77) dX11_lay_76 rfl rfl rfl ?_
                refine v_getR (n := 80) f_X11_63 rfl L.s L.g28 dX11_lay_77 rfl ?_
                refine v_iload_n (n := 81) dX11_lay_80 rfl rfl rfl ?_
                refine v_iload_n (n := 82) dX11_lay_81 rfl rfl rfl ?_
                refine v_iconst (n := 83) (v := 1) dX11_lay_82 c_1 rfl ?_
                refine v_icmp_ne (n := 86) (tgt := 95) dX11_lay_83 (by decide) rfl (fun hq83 => ?_) (fun hq83 => ?_)
                · refine v_iload_n (n := 96) dX11_lay_95 rfl rfl rfl ?_
                  refine v_iconst (n := 97) (v := 2) dX11_lay_96 c_2 rfl ?_
                  refine v_icmp_ne (n := 100) (tgt := 109) dX11_lay_97 (by decide) rfl (fun hq97 => ?_) (fun hq97 => ?_)
                  · exact absurd rfl hq97
                  · refine v_aload_n (n := 101) dX11_lay_100 rfl rfl rfl ?_
                    refine v_getR (n := 104) f_X11_54 rfl L.s L.g25 dX11_lay_101 rfl ?_
                    refine v_iload_n (n := 105) dX11_lay_104 rfl rfl rfl ?_
                    refine v_iald (n := 106) (j := t) L.c25 (ix_nI (by omega) (by decide)) dX11_lay_105 rfl ?_
                    rw [setI_ne (by omega)]
                    refine v_goto (tgt := 110) dX11_lay_106 (by decide) ?_
                    refine v_iast (n := 111) (j := s) L.c28 (ix_nI (by omega) (by decide)) dX11_lay_110 rfl ?_
                    refine v_aload_n (n := 112) dX11_lay_111 rfl rfl rfl ?_
                    refine v_getR (n := 115) f_X11_66 rfl L.s L.g29 dX11_lay_112 rfl ?_
                    refine v_iload_n (n := 116) dX11_lay_115 rfl rfl rfl ?_
                    refine v_iload_n (n := 117) dX11_lay_116 rfl rfl rfl ?_
                    refine v_iconst (n := 118) (v := 1) dX11_lay_117 c_1 rfl ?_
                    refine v_icmp_ne (n := 121) (tgt := 129) dX11_lay_118 (by decide) rfl (fun hq118 => ?_) (fun hq118 => ?_)
                    · refine v_iconst (n := 130) (v := 0) dX11_lay_129 c_0 rfl ?_
                      refine v_iast (n := 131) (j := s) L.c29 (ix_nI (by omega) (by decide)) dX11_lay_130 rfl ?_
                      refine v_iconst (n := 132) (v := 0) dX11_lay_131 c_0 rfl ?_
                      refine v_istore (n := 134) (al' := [.ref m, .int (nI s), .int 2, .int (nI t), .int (I (m + 17) s), .int 0]) dX11_lay_132 rfl rfl rfl ?_
                      have e : layM I m (nI s) 2 (nI t) = (I (m + 17) s, uO (layI I m (nI s) 2 (nI t)) (m + 20) (24 * s) (fun i => I (m + 16) (24 * t + i)) 24) := by
                        rw [layM, if_pos (by simp only [Bool.and_eq_true]; exact ⟨bi_n0.mp hq4, by decide⟩), if_neg (fun q => absurd q.1 (by decide)), if_neg (fun q => absurd q.2 (by rw [bi_n0.mp hq38]; decide)), nI_clamp (show t < 2 ^ 31 by omega), if_neg (fun q => q.2 hq55), if_pos rfl, nI_clamp (by omega)]
                      have e2 : layI I m (nI s) 2 (nI t) = (setI (setI (setI I (m + 17) s 2) (m + 18) s (I (m + 15) t)) (m + 19) s 0) := by
                        unfold layI layA layB; rw [if_neg (by decide), if_pos rfl, if_neg (by decide), nI_clamp (by omega), nI_clamp (by omega)]
                      rw [e, e2]
                      refine v_I (I' := uO (setI (setI (setI I (m + 17) s 2) (m + 18) s (I (m + 15) t)) (m + 19) s 0) (m + 20) (24 * s) (fun i => I (m + 16) (24 * t + i)) 0) uO_0.symm ?_
                      exact l_X11_lay L (by omega) (by omega) 25 0 (Nat.zero_le _) (by omega)
                    · exact absurd hq118 (by decide)
                · exact absurd hq83 (by decide)
              · refine v_ldc (n := 60) k_X11_181 dX11_lay_58 rfl ?_
                exact v_rI rfl (by clear h; simp_all [-Int32.not_lt, -Int32.not_le, bi_0, bi_n0, layM, nI_clamp (show s < 2 ^ 31 by omega), nI_clamp (show t < 2 ^ 31 by omega)]) rfl (by clear h; simp_all [-Int32.not_lt, -Int32.not_le, bi_0, bi_n0, layM, nI_clamp (show s < 2 ^ 31 by omega), nI_clamp (show t < 2 ^ 31 by omega)]) ⟨l8 rfl, l8 rfl⟩ dX11_lay_60
          · refine v_ldc (n := 43) k_X11_90 dX11_lay_41 rfl ?_
            exact v_rI rfl (by clear h; simp_all [-Int32.not_lt, -Int32.not_le, bi_0, bi_n0, layM]) rfl (by clear h; simp_all [-Int32.not_lt, -Int32.not_le, bi_0, bi_n0, layM]) ⟨l8 rfl, l8 rfl⟩ dX11_lay_43
      · exact absurd hq18 (by decide)

set_option maxRecDepth 100000 in
set_option maxHeartbeats 1000000 in
theorem k3_X11_lay {ro : Ro} {S : St} {I : In} {xa xb xc : Int32} {m : Nat} (L : LayM S m) (h : MW I m) (h1 : ¬ xb = 1) (h2 : ¬ xb = 2) : Ok mX11_lay ro 2 0 0 [.ref m, .int xa, .int xb, .int xc] S I (RI (layM I m xa xb xc).1 S (layM I m xa xb xc).2) := by
  refine ok_of (al := [.ref m, .int xa, .int xb, .int xc, JJ, JJ]) (by decide) (l8 rfl) rfl ?_
  refine v_iload_n (n := 1) dX11_lay_0 rfl rfl rfl ?_
  refine v_cSi (n := 4) (x := (bi (inn xa 0 4))) mc_X11_isSlot l_X11_258 sta_X11_isSlot k_X11_isSlot ⟨rfl, rfl⟩ (l8 rfl) ⟨l8 rfl, l8 rfl⟩ rfl rfl (l8 rfl) dX11_lay_1 rfl ?_
  refine v_if_eq (n := 7) (tgt := 41) dX11_lay_4 (by decide) rfl (fun hq4 => ?_) (fun hq4 => ?_)
  · refine v_ldc (n := 43) k_X11_90 dX11_lay_41 rfl ?_
    exact v_rI rfl (by clear h; simp_all [-Int32.not_lt, -Int32.not_le, bi_0, bi_n0, layM]) rfl (by clear h; simp_all [-Int32.not_lt, -Int32.not_le, bi_0, bi_n0, layM]) ⟨l8 rfl, l8 rfl⟩ dX11_lay_43
  · refine v_iload_n (n := 8) dX11_lay_7 rfl rfl rfl ?_
    refine v_iconst (n := 9) (v := 0) dX11_lay_8 c_0 rfl ?_
    refine v_iconst (n := 10) (v := 3) dX11_lay_9 c_3 rfl ?_
    refine v_cSi (n := 13) (x := (bi (inn xb 0 3))) mc_X11_in l_X11_78 sta_X11_in k_X11_in ⟨rfl, rfl⟩ (l8 rfl) ⟨l8 rfl, l8 rfl⟩ rfl rfl (l8 rfl) dX11_lay_10 rfl ?_
    refine v_if_eq (n := 16) (tgt := 41) dX11_lay_13 (by decide) rfl (fun hq13 => ?_) (fun hq13 => ?_)
    · refine v_ldc (n := 43) k_X11_90 dX11_lay_41 rfl ?_
      exact v_rI rfl (by clear h; simp_all [-Int32.not_lt, -Int32.not_le, bi_0, bi_n0, layM]) rfl (by clear h; simp_all [-Int32.not_lt, -Int32.not_le, bi_0, bi_n0, layM]) ⟨l8 rfl, l8 rfl⟩ dX11_lay_43
    · obtain ⟨s, hs, rfl⟩ := inn_get (a := 4) (bi_n0.mp hq4) (by decide)
      refine v_iload_n (n := 17) dX11_lay_16 rfl rfl rfl ?_
      refine v_iconst (n := 18) (v := 1) dX11_lay_17 c_1 rfl ?_
      refine v_icmp_ne (n := 21) (tgt := 29) dX11_lay_18 (by decide) rfl (fun hq18 => ?_) (fun hq18 => ?_)
      · refine v_iload_n (n := 30) dX11_lay_29 rfl rfl rfl ?_
        refine v_iconst (n := 31) (v := 2) dX11_lay_30 c_2 rfl ?_
        refine v_icmp_ne (n := 34) (tgt := 44) dX11_lay_31 (by decide) rfl (fun hq31 => ?_) (fun hq31 => ?_)
        · refine v_iload_n (n := 45) dX11_lay_44 rfl rfl rfl ?_
          refine v_iconst (n := 46) (v := 2) dX11_lay_45 c_2 rfl ?_
          refine v_icmp_ne (n := 49) (tgt := 61) dX11_lay_46 (by decide) rfl (fun hq46 => ?_) (fun hq46 => ?_)
          · refine v_aload_n (n := 62) dX11_lay_61 rfl rfl rfl ?_
            refine v_getR (n := 65) f_X11_60 rfl L.s L.g27 dX11_lay_62 rfl ?_
            refine v_iload_n (n := 66) dX11_lay_65 rfl rfl rfl ?_
            refine v_iald (n := 67) (j := s) L.c27 (ix_nI (by omega) (by decide)) dX11_lay_66 rfl ?_
            refine v_istore (n := 69) (al' := [.ref m, .int (nI s), .int xb, .int xc, .int (I (m + 17) s), JJ]) dX11_lay_67 rfl rfl rfl ?_
            refine v_aload_n (n := 70) dX11_lay_69 rfl rfl rfl ?_
            refine v_getR (n := 73) f_X11_60 rfl L.s L.g27 dX11_lay_70 rfl ?_
            refine v_iload_n (n := 74) dX11_lay_73 rfl rfl rfl ?_
            refine v_iload_n (n := 75) dX11_lay_74 rfl rfl rfl ?_
            refine v_iast (n := 76) (j := s) L.c27 (ix_nI (by omega) (by decide)) dX11_lay_75 rfl ?_
            refine v_aload_n (n := 77) dX11_lay_76 rfl rfl rfl ?_
            refine v_getR (n := 80) f_X11_63 rfl L.s L.g28 dX11_lay_77 rfl ?_
            refine v_iload_n (n := 81) dX11_lay_80 rfl rfl rfl ?_
            refine v_iload_n (n := 82) dX11_lay_81 rfl rfl rfl ?_
            refine v_iconst (n := 83) (v := 1) dX11_lay_82 c_1 rfl ?_
            refine v_icmp_ne (n := 86) (tgt := 95) dX11_lay_83 (by decide) rfl (fun hq83 => ?_) (fun hq83 => ?_)
            · refine v_iload_n (n := 96) dX11_lay_95 rfl rfl rfl ?_
              refine v_iconst (n := 97) (v := 2) dX11_lay_96 c_2 rfl ?_
              refine v_icmp_ne (n := 100) (tgt := 109) dX11_lay_97 (by decide) rfl (fun hq97 => ?_) (fun hq97 => ?_)
              · refine v_iload_n (n := 110) dX11_lay_109 rfl rfl rfl ?_
                refine v_iast (n := 111) (j := s) L.c28 (ix_nI (by omega) (by decide)) dX11_lay_110 rfl ?_
                refine v_aload_n (n := 112) dX11_lay_111 rfl rfl rfl ?_
                refine v_getR (n := 115) f_X11_66 rfl L.s L.g29 dX11_lay_112 rfl ?_
                refine v_iload_n (n := 116) dX11_lay_115 rfl rfl rfl ?_
                refine v_iload_n (n := 117) dX11_lay_116 rfl rfl rfl ?_
                refine v_iconst (n := 118) (v := 1) dX11_lay_117 c_1 rfl ?_
                refine v_icmp_ne (n := 121) (tgt := 129) dX11_lay_118 (by decide) rfl (fun hq118 => ?_) (fun hq118 => ?_)
                · refine v_iconst (n := 130) (v := 0) dX11_lay_129 c_0 rfl ?_
                  refine v_iast (n := 131) (j := s) L.c29 (ix_nI (by omega) (by decide)) dX11_lay_130 rfl ?_
                  refine v_iconst (n := 132) (v := 0) dX11_lay_131 c_0 rfl ?_
                  refine v_istore (n := 134) (al' := [.ref m, .int (nI s), .int xb, .int xc, .int (I (m + 17) s), .int 0]) dX11_lay_132 rfl rfl rfl ?_
                  refine v_iload (n := 136) dX11_lay_134 rfl rfl ?_
                  refine v_bipush (n := 138) (v := 24) dX11_lay_136 b_24 rfl ?_
                  refine v_icmp_ge (n := 141) (tgt := 176) dX11_lay_138 (by decide) rfl (fun hq138 => ?_) (fun hq138 => ?_)
                  · exact absurd hq138 (by decide)
                  · refine v_iload_n (n := 142) dX11_lay_141 rfl rfl rfl ?_
                    refine v_iconst (n := 143) (v := 2) dX11_lay_142 c_2 rfl ?_
                    refine v_icmp_ne (n := 146) (tgt := 176) dX11_lay_143 (by decide) rfl (fun hq143 => ?_) (fun hq143 => ?_)
                    · refine v_iload (n := 178) dX11_lay_176 rfl rfl ?_
                      have e : layM I m (nI s) xb xc = (I (m + 17) s, layI I m (nI s) xb xc) := by
                        rw [layM, if_pos (by simp only [Bool.and_eq_true]; exact ⟨bi_n0.mp hq4, bi_n0.mp hq13⟩), if_neg (fun q => h1 q.1), if_neg (fun q => h2 q.1), if_neg (fun q => h2 q.1), if_neg h2, nI_clamp (by omega)]
                      exact v_rI rfl (by rw [e]) rfl (by rw [e]; unfold layI layA layB; rw [if_neg h1, if_neg h2, if_neg h1, nI_clamp (by omega)]) ⟨l8 rfl, l8 rfl⟩ dX11_lay_178
                    · exact absurd hq143 h2
                · exact absurd hq118 h1
              · exact absurd hq97 h2
            · exact absurd hq83 h1
          · exact absurd hq46 h2
        · exact absurd hq31 h2
      · exact absurd hq18 h1

theorem k_X11_lay {ro : Ro} {S : St} {I : In} {xa xb xc : Int32} {n : Nat} {m : Nat} (L : LayM S m) (h : MW I m) (h1 : I (m + 1) 1 = nI n) (hn10 : n ≤ 10) : Ok mX11_lay ro 2 0 0 [.ref m, .int xa, .int xb, .int xc] S I (RI (layM I m xa xb xc).1 S (layM I m xa xb xc).2) := by
  by_cases q1 : xb = 1
  · subst q1; exact k1_X11_lay L h h1 hn10
  · by_cases q2 : xb = 2
    · subst q2; exact k2_X11_lay L h
    · exact k3_X11_lay L h q1 q2

set_option maxRecDepth 100000 in
set_option maxHeartbeats 1000000 in
theorem l_X11_gone {ro : Ro} {S : St} {I : In} {m T n l b : Nat} (L : LayM S m) (h : WX (I (m + 1)) T n l b) (hm : mvOk (I (m + 1))) (hb : b < 900000000) : ∀ r i, i + r = 301 → ∀ J, J (m + 1) = itX (I (m + 1)) T n i → Eqx (scN m) (uP I (m + 4) (I (m + 1)) 116) J → V RX11 cX11_gone 3 (some .int) "gone" ro (rmD 6 0 0) (QM 0 0 (fun r0 S' I' => r0 = some (.int (goneF (I (m + 1)) T n r i)) ∧ S' = S ∧ Eqx (scP m) I I')) 0 0 6 [.ref m, .int (nI i), JJ] [] S J := by
  intro r
  induction r with
  | zero =>
    intro i hi J hX hE
    have hi : i = 301 := hi
    subst hi
    refine v_iload_n (n := 7) dX11_gone_6 rfl rfl rfl ?_
    refine v_sipush (n := 10) (v := 300) dX11_gone_7 s_300 rfl ?_
    refine v_icmp_gt (n := 13) (tgt := 40) dX11_gone_10 (by decide) rfl (fun hq10 => ?_) (fun hq10 => ?_)
    · refine v_aload_n (n := 41) dX11_gone_40 rfl rfl rfl ?_
      refine v_cVv (n := 44) mc_X11_putsBack l_X11_172 iv_X11_putsBack se_X11_putsBack (ci := 10) ⟨by decide, rfl⟩ L.s (k_X11_putsBack L) ⟨rfl, rfl⟩ (l8 rfl) ⟨l8 rfl, l8 rfl⟩ rfl rfl (l8 rfl) dX11_gone_41 rfl ?_
      refine v_iload_n (n := 45) dX11_gone_44 rfl rfl rfl ?_
      refine v_sipush (n := 48) (v := 300) dX11_gone_45 s_300 rfl ?_
      refine v_icmp_gt (n := 51) (tgt := 55) dX11_gone_48 (by decide) rfl (fun hq48 => ?_) (fun hq48 => ?_)
      · refine v_ldc (n := 57) k_X11_152 dX11_gone_55 rfl ?_
        exact v_iret rfl ⟨rfl, rfl, back_eq hE (fun j hj => by rw [hX]; exact (it_WX h 301 (by omega)).2 j (by omega) (by omega) (by omega) (by omega) (by omega) (by omega))⟩ ⟨l8 rfl, l8 rfl⟩ dX11_gone_57
      · exact absurd (by decide) hq48
    · exact absurd (by decide) hq10
  | succ r ih =>
    intro i hi J hX hE
    refine v_iload_n (n := 7) dX11_gone_6 rfl rfl rfl ?_
    refine v_sipush (n := 10) (v := 300) dX11_gone_7 s_300 rfl ?_
    refine v_icmp_gt (n := 13) (tgt := 40) dX11_gone_10 (by decide) rfl (fun hq10 => ?_) (fun hq10 => ?_)
    · exact absurd hq10 (Int32.not_lt.mpr (by rw [lit_nI 300]; exact (nI_leI (by omega) (by decide)).mpr (by omega)))
    · obtain ⟨g1, g2⟩ := it_WX h i (by omega)
      refine v_aload_n (n := 14) dX11_gone_13 rfl rfl rfl ?_
      refine v_getR (n := 17) f_X11_9 rfl L.s L.g0 dX11_gone_14 rfl ?_
      refine v_bipush (n := 19) (v := 7) dX11_gone_17 b_7 rfl ?_
      refine v_iald (n := 20) (j := 7) L.c0 (ix_lit rfl rfl rfl) dX11_gone_19 rfl ?_
      refine v_if_le (n := 23) (tgt := 40) dX11_gone_20 (by decide) rfl (fun hq20 => ?_) (fun hq20 => ?_)
      · rw [hX] at hq20
        refine v_aload_n (n := 41) dX11_gone_40 rfl rfl rfl ?_
        refine v_cVv (n := 44) mc_X11_putsBack l_X11_172 iv_X11_putsBack se_X11_putsBack (ci := 10) ⟨by decide, rfl⟩ L.s (k_X11_putsBack L) ⟨rfl, rfl⟩ (l8 rfl) ⟨l8 rfl, l8 rfl⟩ rfl rfl (l8 rfl) dX11_gone_41 rfl ?_
        refine v_iload_n (n := 45) dX11_gone_44 rfl rfl rfl ?_
        refine v_sipush (n := 48) (v := 300) dX11_gone_45 s_300 rfl ?_
        refine v_icmp_gt (n := 51) (tgt := 55) dX11_gone_48 (by decide) rfl (fun hq48 => ?_) (fun hq48 => ?_)
        · exact absurd hq48 (Int32.not_lt.mpr (by rw [lit_nI 300]; exact (nI_leI (by omega) (by decide)).mpr (by omega)))
        · refine v_iload_n (n := 52) dX11_gone_51 rfl rfl rfl ?_
          refine v_goto (tgt := 57) dX11_gone_52 (by decide) ?_
          exact v_iret rfl ⟨by rw [goneF, if_pos hq20], rfl, back_eq hE (fun j hj => by rw [hX]; exact (it_WX h i (by omega)).2 j (by omega) (by omega) (by omega) (by omega) (by omega) (by omega))⟩ ⟨l8 rfl, l8 rfl⟩ dX11_gone_57
      · rw [hX] at hq20
        have h5 : J (m + 1) 5 = I (m + 1) 5 := by rw [hX]; exact it_5 h (by omega)
        refine v_aload_n (n := 24) dX11_gone_23 rfl rfl rfl ?_
        refine v_aload_n (n := 25) dX11_gone_24 rfl rfl rfl ?_
        refine v_getR (n := 28) f_X11_9 rfl L.s L.g0 dX11_gone_25 rfl ?_
        refine v_iconst (n := 29) (v := 5) dX11_gone_28 c_5 rfl ?_
        refine v_iald (n := 30) (j := 5) L.c0 (ix_lit rfl rfl rfl) dX11_gone_29 rfl ?_
        refine v_callV (n := 33) mc_X11_day l_X11_160 iv_X11_day se_X11_day (ci := 10) ⟨by decide, rfl⟩ L.s (k_X11_day (T := T) (n := n) L (by rw [hX]; exact g1) (by omega) (by rw [h5]; exact ⟨by have := hm.1; omega, by have := hm.2; omega⟩)) ⟨rfl, rfl⟩ (l8 rfl) ⟨l8 rfl, l8 rfl⟩ rfl rfl (l8 rfl) dX11_gone_30 rfl ?_
        rintro _ _ J1 ⟨rfl, rfl, hJ1, hE1⟩
        refine v_istore_n (n := 34) (al' := [.ref m, .int (nI i), .int (dayN (J (m + 1)) T n (ln (itX (I (m + 1)) T n i)) (J (m + 1) 5))]) dX11_gone_33 rfl rfl rfl rfl ?_
        refine v_iinc (n := 37) (v := (nI i) + 1) (al' := [.ref m, .int ((nI i) + 1), .int (dayN (J (m + 1)) T n (ln (itX (I (m + 1)) T n i)) (J (m + 1) 5))]) dX11_gone_34 rfl (by rw [c_1]) rfl rfl rfl ?_
        refine v_goto (tgt := 6) dX11_gone_37 (by decide) ?_
        refine v_drop 2 (al' := [.ref m, .int ((nI i) + 1), JJ]) rfl ?_
        rw [nI_1, goneF, if_neg hq20]
        exact ih (i + 1) (by omega) J1 (by rw [hJ1, hX, itX]) (hE.tr hE1)

set_option maxRecDepth 100000 in
set_option maxHeartbeats 1000000 in
theorem k_X11_gone {ro : Ro} {S : St} {I : In} {m T n l b : Nat} (L : LayM S m) (h : WX (I (m + 1)) T n l b) (hm : mvOk (I (m + 1))) (hb : b < 900000000) : Ok mX11_gone ro 6 0 0 [.ref m] S I (fun r S' I' => r = some (.int (goneF (I (m + 1)) T n 301 0)) ∧ S' = S ∧ Eqx (scP m) I I') := by
  refine ok_of (al := [.ref m, JJ, JJ]) (by decide) (l8 rfl) rfl ?_
  refine v_aload_n (n := 1) dX11_gone_0 rfl rfl rfl ?_
  refine v_cVv (n := 4) mc_X11_thinks l_X11_166 iv_X11_thinks se_X11_thinks (ci := 10) ⟨by decide, rfl⟩ L.s (k_X11_thinks L) ⟨rfl, rfl⟩ (l8 rfl) ⟨l8 rfl, l8 rfl⟩ rfl rfl (l8 rfl) dX11_gone_1 rfl ?_
  refine v_iconst (n := 5) (v := 0) dX11_gone_4 c_0 rfl ?_
  refine v_istore_n (n := 6) (al' := [.ref m, .int 0, JJ]) dX11_gone_5 rfl rfl rfl rfl ?_
  exact l_X11_gone L h hm hb 301 0 rfl _ (uP_ne (by omega)) Eqx.rf

theorem comes_1 {X : Ar} {a b c : Int32} {n : Nat} (h : X 1 = nI n) (hn : n < 2 ^ 31) : comesX X a b c 1 = nI (n + 1) := by rw [comesX, pk_us, h, nI_clamp hn]
theorem dl_1 {X : Ar} {n : Nat} (h : X 1 = nI n) : ∀ i, n + i ≤ 10 → dlX X i 1 = nI (n + i)
  | 0, _ => h
  | i + 1, hi => by
    rw [dlX, dealOne, comes_1 (n := n + i) (by rw [pk_un (by decide)]; exact dl_1 h i (by omega)) (by omega)]; congr 1

set_option maxRecDepth 100000 in
set_option maxHeartbeats 1000000 in
theorem l_X11_deal {ro : Ro} {S : St} {I : In} {m T n l b : Nat} (L : LayM S m) (h : WX (I (m + 1)) T n l b) {a K : Nat} (hK : K = min a (10 - n)) (ha : a ≤ 10) : ∀ k i, i ≤ K → K < i + k → V RX11 cX11_deal 6 (some .int) "deal" ro (rmD 2 0 0) (QM 0 0 (RI (nI K) S (row I (m + 1) (dlX (I (m + 1)) K)))) 0 0 15 [.ref m, .int (nI a), .int (nI i), JJ, JJ, JJ] [] S (row I (m + 1) (dlX (I (m + 1)) i)) := by
  have hn10 := h.2.1
  intro k
  induction k with
  | zero => intro i hi hk; exact absurd hk (by omega)
  | succ k ih =>
    intro i hi hk
    have h1 := dl_1 h.1 i (by omega)
    refine v_iload_n (n := 16) dX11_deal_15 rfl rfl rfl ?_
    refine v_iload_n (n := 17) dX11_deal_16 rfl rfl rfl ?_
    refine v_icmp_ge (n := 20) (tgt := 73) dX11_deal_17 (by decide) rfl (fun hq17 => ?_) (fun hq17 => ?_)
    · have hq17 := le_out hq17 (by omega) (by omega)
      obtain rfl : i = K := by omega
      refine v_iload_n (n := 74) dX11_deal_73 rfl rfl rfl ?_
      exact v_rI rfl rfl rfl rfl ⟨l8 rfl, l8 rfl⟩ dX11_deal_74
    · have hq17 := nle_in hq17 (by omega) (by omega)
      refine v_aload_n (n := 21) dX11_deal_20 rfl rfl rfl ?_
      refine v_getR (n := 24) f_X11_9 rfl L.s L.g0 dX11_deal_21 rfl ?_
      refine v_iconst (n := 25) (v := 1) dX11_deal_24 c_1 rfl ?_
      refine v_iald (n := 26) (j := 1) L.c0 (ix_lit rfl rfl rfl) dX11_deal_25 rfl ?_
      refine v_bipush (n := 28) (v := 10) dX11_deal_26 b_10 rfl ?_
      refine v_icmp_ge (n := 31) (tgt := 73) dX11_deal_28 (by decide) rfl (fun hq28 => ?_) (fun hq28 => ?_)
      · rw [row_s, h1, lit_nI 10] at hq28
        have hq28 := le_out hq28 (by omega) (by omega)
        obtain rfl : i = K := by omega
        refine v_iload_n (n := 74) dX11_deal_73 rfl rfl rfl ?_
        exact v_rI rfl rfl rfl rfl ⟨l8 rfl, l8 rfl⟩ dX11_deal_74
      · rw [row_s, h1, lit_nI 10] at hq28
        have hq28 := nle_in hq28 (by omega) (by omega)
        refine v_aload_n (n := 32) dX11_deal_31 rfl rfl rfl ?_
        refine v_cVi (n := 35) (x := (ushr (drawZ ((row I (m + 1) (dlX (I (m + 1)) i)) (m + 1) 0)) 8)) mc_X11_draw l_X11_138 iv_X11_draw se_X11_draw (ci := 10) ⟨by decide, rfl⟩ L.s (k_X11_draw L) ⟨rfl, rfl⟩ (l8 rfl) ⟨l8 rfl, l8 rfl⟩ rfl rfl (l8 rfl) dX11_deal_32 rfl ?_
        simp only [row_s, row_row, upd_r, pk_us]
        refine v_bipush (n := 37) (v := 6) dX11_deal_35 b_6 rfl ?_
        refine v_irem (n := 38) dX11_deal_37 (by decide) rfl ?_
        refine v_istore_n (n := 39) (al' := [.ref m, .int (nI a), .int (nI i), .int ((ushr (drawZ ((dlX (I (m + 1)) i) 0)) 8) % 6), JJ, JJ]) dX11_deal_38 rfl rfl rfl rfl ?_
        refine v_aload_n (n := 40) dX11_deal_39 rfl rfl rfl ?_
        refine v_cVi (n := 43) (x := (ushr (drawZ ((row I (m + 1) (upd (dlX (I (m + 1)) i) 0 (drawZ ((dlX (I (m + 1)) i) 0)))) (m + 1) 0)) 8)) mc_X11_draw l_X11_138 iv_X11_draw se_X11_draw (ci := 10) ⟨by decide, rfl⟩ L.s (k_X11_draw L) ⟨rfl, rfl⟩ (l8 rfl) ⟨l8 rfl, l8 rfl⟩ rfl rfl (l8 rfl) dX11_deal_40 rfl ?_
        simp only [row_s, row_row, upd_r, pk_us]
        refine v_sipush (n := 46) (v := 200) dX11_deal_43 s_200 rfl ?_
        refine v_irem (n := 47) dX11_deal_46 (by decide) rfl ?_
        refine v_istore (n := 49) (al' := [.ref m, .int (nI a), .int (nI i), .int ((ushr (drawZ ((dlX (I (m + 1)) i) 0)) 8) % 6), .int ((ushr (drawZ (drawZ ((dlX (I (m + 1)) i) 0))) 8) % 200), JJ]) dX11_deal_47 rfl rfl rfl ?_
        refine v_aload_n (n := 50) dX11_deal_49 rfl rfl rfl ?_
        refine v_iload_n (n := 51) dX11_deal_50 rfl rfl rfl ?_
        refine v_iload (n := 53) dX11_deal_51 rfl rfl ?_
        refine v_iconst (n := 54) (v := 1) dX11_deal_53 c_1 rfl ?_
        refine v_aload_n (n := 55) dX11_deal_54 rfl rfl rfl ?_
        refine v_cVi (n := 58) (x := (ushr (drawZ ((row I (m + 1) (upd (dlX (I (m + 1)) i) 0 (drawZ (drawZ ((dlX (I (m + 1)) i) 0))))) (m + 1) 0)) 8)) mc_X11_draw l_X11_138 iv_X11_draw se_X11_draw (ci := 10) ⟨by decide, rfl⟩ L.s (k_X11_draw L) ⟨rfl, rfl⟩ (l8 rfl) ⟨l8 rfl, l8 rfl⟩ rfl rfl (l8 rfl) dX11_deal_55 rfl ?_
        simp only [row_s, row_row, upd_r, pk_us]
        refine v_bipush (n := 60) (v := 100) dX11_deal_58 b_100 rfl ?_
        refine v_irem (n := 61) dX11_deal_60 (by decide) rfl ?_
        refine v_iadd (n := 62) dX11_deal_61 rfl ?_
        refine v_cVi (n := 65) (x := (nI (n + i))) mc_X11_comes l_X11_92 iv_X11_comes se_X11_comes (ci := 10) ⟨by decide, rfl⟩ L.s (k_X11_comes (n := n + i) L (by rw [row_s, pk_un (by decide)]; exact h1) (by omega)) ⟨rfl, rfl⟩ (l8 rfl) ⟨l8 rfl, l8 rfl⟩ rfl rfl (l8 rfl) dX11_deal_62 rfl ?_
        simp only [row_s, row_row]
        refine v_I (I' := row I (m + 1) (dlX (I (m + 1)) (i + 1))) (by rw [dlX, dealOne, comesX, pk_un (by decide), h1, nI_clamp (by omega)]) ?_
        refine v_istore (n := 67) (al' := [.ref m, .int (nI a), .int (nI i), .int ((ushr (drawZ ((dlX (I (m + 1)) i) 0)) 8) % 6), .int ((ushr (drawZ (drawZ ((dlX (I (m + 1)) i) 0))) 8) % 200), .int (nI (n + i))]) dX11_deal_65 rfl rfl rfl ?_
        refine v_iinc (n := 70) (v := (nI i) + 1) (al' := [.ref m, .int (nI a), .int ((nI i) + 1), .int ((ushr (drawZ ((dlX (I (m + 1)) i) 0)) 8) % 6), .int ((ushr (drawZ (drawZ ((dlX (I (m + 1)) i) 0))) 8) % 200), .int (nI (n + i))]) dX11_deal_67 rfl (by rw [c_1]) rfl rfl rfl ?_
        refine v_goto (tgt := 15) dX11_deal_70 (by decide) ?_
        refine v_drop 3 (al' := [.ref m, .int (nI a), .int ((nI i) + 1), JJ, .int ((ushr (drawZ (drawZ ((dlX (I (m + 1)) i) 0))) 8) % 200), .int (nI (n + i))]) rfl ?_
        refine v_drop 4 (al' := [.ref m, .int (nI a), .int ((nI i) + 1), JJ, JJ, .int (nI (n + i))]) rfl ?_
        refine v_drop 5 (al' := [.ref m, .int (nI a), .int ((nI i) + 1), JJ, JJ, JJ]) rfl ?_
        rw [nI_1]
        exact ih (i + 1) (by omega) (by omega)

set_option maxRecDepth 100000 in
set_option maxHeartbeats 1000000 in
theorem k_X11_deal {ro : Ro} {S : St} {I : In} {xa : Int32} {m T n l b : Nat} (L : LayM S m) (h : WX (I (m + 1)) T n l b) : Ok mX11_deal ro 2 0 0 [.ref m, .int xa] S I (RI (dealS (I (m + 1)) n xa).1 S (row I (m + 1) (dealS (I (m + 1)) n xa).2)) := by
  refine ok_of (al := [.ref m, .int xa, JJ, JJ, JJ, JJ]) (by decide) (l8 rfl) rfl ?_
  refine v_iload_n (n := 1) dX11_deal_0 rfl rfl rfl ?_
  refine v_iconst (n := 2) (v := 1) dX11_deal_1 c_1 rfl ?_
  refine v_bipush (n := 4) (v := 10) dX11_deal_2 b_10 rfl ?_
  refine v_cSi (n := 7) (x := (bi (inn xa 1 10))) mc_X11_in l_X11_78 sta_X11_in k_X11_in ⟨rfl, rfl⟩ (l8 rfl) ⟨l8 rfl, l8 rfl⟩ rfl rfl (l8 rfl) dX11_deal_4 rfl ?_
  refine v_if_ne (n := 10) (tgt := 13) dX11_deal_7 (by decide) rfl (fun hq7 => ?_) (fun hq7 => ?_)
  · obtain ⟨a, ha1, ha2, rfl⟩ := inn_get1 (a := 10) (c := 1) (bi_n0.mp hq7) (by decide) (by decide)
    refine v_iconst (n := 14) (v := 0) dX11_deal_13 c_0 rfl ?_
    refine v_istore_n (n := 15) (al' := [.ref m, .int (nI a), .int 0, JJ, JJ, JJ]) dX11_deal_14 rfl rfl rfl rfl ?_
    rw [show dealS (I (m + 1)) n (nI a) = (nI (min a (10 - n)), dlX (I (m + 1)) (min a (10 - n))) from by rw [dealS, if_pos (bi_n0.mp hq7), nI_clamp (by omega)]]
    refine v_I (I' := row I (m + 1) (dlX (I (m + 1)) 0)) row_same ?_
    exact l_X11_deal L h rfl ha2 (min a (10 - n) + 1) 0 (Nat.zero_le _) (by omega)
  · refine v_ldc (n := 12) k_X11_90 dX11_deal_10 rfl ?_
    exact v_rI rfl (by rw [dealS, if_neg (by rw [bi_0.mp hq7]; decide)]) rfl (by rw [dealS, if_neg (by rw [bi_0.mp hq7]; decide)]; exact row_same) ⟨l8 rfl, l8 rfl⟩ dX11_deal_12

