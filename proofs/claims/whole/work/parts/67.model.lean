/-! ===== what is made: the reference ===== -/
def X0f : Ar := fun j => if j = 0 then 1 else if j = 3 then 5 else if j = 4 then 3 else if 10 ≤ j ∧ j < 16 then -1 else 0
def IniM (I : In) (m : Nat) : Prop := (∀ j, I (m + 1) j = X0f j) ∧ KyM I m ∧ (∀ j, I (m + 6) j = 0) ∧ ((∀ s, s < 4 → I (m + 14) s = -1) ∧ (∀ j, I (m + 15) j = 0) ∧ (∀ j, I (m + 16) j = 0)) ∧ (∀ j, I (m + 17) j = 0) ∧ (∀ j, I (m + 22) j = 0) ∧ ∀ j, I (m + 2) j = 0

set_option maxRecDepth 100000 in
set_option maxHeartbeats 1000000 in
theorem l_X11_init {ro : Ro} {S : St} {I : In} {m : Nat} (L : S.1 m = some (10, 0)) (Lg : S.2.1 m 0 = .ref (m + 1)) (L3 : S.1 (m + 1) = some (20, 1488)) : ∀ k i J, i ≤ 6 → 6 < i + k → (∀ c, c ≠ m + 1 → J c = I c) → (∀ j, J (m + 1) j = if 10 ≤ j ∧ j < 10 + i then -1 else I (m + 1) j) → V RX11 cX11_init 2 (none) "<init>" ro (rmD 1 22 5320) (QM 22 5320 (fun rr S' I' => rr = none ∧ S' = S ∧ (∀ c, c ≠ m + 1 → I' c = I c) ∧ ∀ j, I' (m + 1) j = if 10 ≤ j ∧ j < 10 + 6 then -1 else I (m + 1) j)) 22 5320 298 [.ref m, .int (nI i)] [] S J := by
  intro k
  induction k with
  | zero => intro i J hi hk; exact absurd hk (by omega)
  | succ k ih =>
    intro i J hi hk hJ hV
    refine v_iload_n (n := 299) dX11_init_298 rfl rfl rfl ?_
    refine v_bipush (n := 301) (v := 6) dX11_init_299 b_6 rfl ?_
    refine v_icmp_ge (n := 304) (tgt := 320) dX11_init_301 (by decide) rfl (fun hq301 => ?_) (fun hq301 => ?_)
    · have hi6 : i = 6 := Nat.le_antisymm hi (le_out (a := 6) hq301 (by decide) (by omega))
      exact v_vret rfl ⟨rfl, rfl, hJ, fun j => by rw [hV j, hi6]⟩ ⟨l8 rfl, l8 rfl⟩ dX11_init_320
    · have hlt := nle_in (a := 6) hq301 (by decide) (by omega)
      refine v_aload_n (n := 305) dX11_init_304 rfl rfl rfl ?_
      refine v_getR (n := 308) f_X11_9 rfl L Lg dX11_init_305 rfl ?_
      refine v_bipush (n := 310) (v := 10) dX11_init_308 b_10 rfl ?_
      refine v_iload_n (n := 311) dX11_init_310 rfl rfl rfl ?_
      refine v_iadd (n := 312) dX11_init_311 rfl ?_
      refine v_iconst (n := 313) (v := (-1)) dX11_init_312 c_m1 rfl ?_
      refine v_iast (n := 314) (j := 10 + i) L3 (ix_of (nI_add 10 i) (by omega) (by decide)) dX11_init_313 rfl ?_
      refine v_iinc (n := 317) (v := (nI i) + 1) (al' := [.ref m, .int ((nI i) + 1)]) dX11_init_314 rfl (by rw [c_1]) rfl rfl rfl ?_
      refine v_goto (tgt := 298) dX11_init_317 (by decide) ?_
      rw [nI_1]
      refine ih (i + 1) _ hlt (by omega) (fun c hc => by rw [setI_ne hc]; exact hJ c hc) (fun j => ?_)
      by_cases e : j = 10 + i
      · rw [e, sI_s, if_pos (by omega)]
      · rw [sI_k e, hV j]
        by_cases e2 : 10 ≤ j ∧ j < 10 + i
        · rw [if_pos e2, if_pos (by omega)]
        · rw [if_neg e2, if_neg (by omega)]

set_option maxRecDepth 100000 in
set_option maxHeartbeats 1000000 in
theorem k_X11_init {ro : Ro} {S : St} {I : In} {m : Nat} (hz : S.2.2 = m + 1) (h0 : S.1 m = some (10, 0)) : Ok mX11_init ro 1 22 5320 [.ref m] S I (fun rr S' I' => rr = none ∧ LayM S' m ∧ IniM I' m ∧ I' m = I m ∧ S'.2.2 = m + 23 ∧ EqB 0 m S I S' I' ∧ (Fre S → Fre S')) := by
  refine ok_of (al := [.ref m, JJ]) (by decide) (l8 rfl) rfl ?_
  have hM := MA.z (I := I) hz h0
  refine v_aload_n (n := 1) dX11_init_0 rfl rfl rfl ?_
  refine v_objInit (n := 4) l_X11_1 oi_iv oi_code ⟨rfl, rfl⟩ (l8 rfl) dX11_init_1 rfl ?_
  refine v_aload_n (n := 5) dX11_init_4 rfl rfl rfl ?_
  refine v_sipush (n := 8) (v := 1488) dX11_init_5 s_1488 rfl ?_
  refine v_mn (n := 10) (t := 0) (N := 1488) (e := m + 1 + 0) hM rfl rfl (by decide) rfl ac_int ⟨by decide, rfl, by decide⟩ ⟨l8 rfl, l8 rfl⟩ dX11_init_8 rfl (fun S9 I9 hM => ?_)
  refine v_mr (n := 13) hM f_X11_9 rfl (Or.inr ⟨rfl, rfl, rfl⟩) dX11_init_10 rfl (fun S9 hM => ?_)
  refine v_aload_n (n := 14) dX11_init_13 rfl rfl rfl ?_
  refine v_sipush (n := 17) (v := 1488) dX11_init_14 s_1488 rfl ?_
  refine v_mn (n := 19) (t := 0) (N := 1488) (e := m + 1 + 1) hM rfl rfl (by decide) rfl ac_int ⟨by decide, rfl, by decide⟩ ⟨l8 rfl, l8 rfl⟩ dX11_init_17 rfl (fun S9 I9 hM => ?_)
  refine v_mr (n := 22) hM f_X11_13 rfl (Or.inr ⟨rfl, rfl, rfl⟩) dX11_init_19 rfl (fun S9 hM => ?_)
  refine v_aload_n (n := 23) dX11_init_22 rfl rfl rfl ?_
  refine v_sipush (n := 26) (v := 1488) dX11_init_23 s_1488 rfl ?_
  refine v_mn (n := 28) (t := 0) (N := 1488) (e := m + 1 + 2) hM rfl rfl (by decide) rfl ac_int ⟨by decide, rfl, by decide⟩ ⟨l8 rfl, l8 rfl⟩ dX11_init_26 rfl (fun S9 I9 hM => ?_)
  refine v_mr (n := 31) hM f_X11_16 rfl (Or.inr ⟨rfl, rfl, rfl⟩) dX11_init_28 rfl (fun S9 hM => ?_)
  refine v_aload_n (n := 32) dX11_init_31 rfl rfl rfl ?_
  refine v_bipush (n := 34) (v := 116) dX11_init_32 b_116 rfl ?_
  refine v_mn (n := 36) (t := 0) (N := 116) (e := m + 1 + 3) hM rfl rfl (by decide) rfl ac_int ⟨by decide, rfl, by decide⟩ ⟨l8 rfl, l8 rfl⟩ dX11_init_34 rfl (fun S9 I9 hM => ?_)
  refine v_mr (n := 39) hM f_X11_19 rfl (Or.inr ⟨rfl, rfl, rfl⟩) dX11_init_36 rfl (fun S9 hM => ?_)
  refine v_aload_n (n := 40) dX11_init_39 rfl rfl rfl ?_
  refine v_iconst (n := 41) (v := 3) dX11_init_40 c_3 rfl ?_
  refine v_mn (n := 43) (t := 0) (N := 3) (e := m + 1 + 4) hM rfl rfl (by decide) rfl ac_int ⟨by decide, rfl, by decide⟩ ⟨l8 rfl, l8 rfl⟩ dX11_init_41 rfl (fun S9 I9 hM => ?_)
  refine v_mr (n := 46) hM f_X11_22 rfl (Or.inr ⟨rfl, rfl, rfl⟩) dX11_init_43 rfl (fun S9 hM => ?_)
  refine v_aload_n (n := 47) dX11_init_46 rfl rfl rfl ?_
  refine v_bipush (n := 49) (v := 96) dX11_init_47 b_96 rfl ?_
  refine v_mn (n := 51) (t := 0) (N := 96) (e := m + 1 + 5) hM rfl rfl (by decide) rfl ac_int ⟨by decide, rfl, by decide⟩ ⟨l8 rfl, l8 rfl⟩ dX11_init_49 rfl (fun S9 I9 hM => ?_)
  refine v_mr (n := 54) hM f_X11_25 rfl (Or.inr ⟨rfl, rfl, rfl⟩) dX11_init_51 rfl (fun S9 hM => ?_)
  refine v_aload_n (n := 55) dX11_init_54 rfl rfl rfl ?_
  refine v_bipush (n := 57) (v := 12) dX11_init_55 b_12 rfl ?_
  refine v_mn (n := 59) (t := 2) (N := 12) (e := m + 1 + 6) hM rfl rfl (by decide) rfl ac_char ⟨by decide, rfl, by decide⟩ ⟨l8 rfl, l8 rfl⟩ dX11_init_57 rfl (fun S9 I9 hM => ?_)
  refine v_dup (n := 60) dX11_init_59 rfl rfl ?_
  refine v_iconst (n := 61) (v := 0) dX11_init_60 c_0 rfl ?_
  refine v_bipush (n := 63) (v := 115) dX11_init_61 b_115 rfl ?_
  refine v_mcs (n := 64) (i := 6) (j := 0) hM rfl (ix_lit rfl rfl rfl) (by rfl) dX11_init_63 rfl (fun I9 hM => ?_)
  refine v_dup (n := 65) dX11_init_64 rfl rfl ?_
  refine v_iconst (n := 66) (v := 1) dX11_init_65 c_1 rfl ?_
  refine v_bipush (n := 68) (v := 105) dX11_init_66 b_105 rfl ?_
  refine v_mcs (n := 69) (i := 6) (j := 1) hM rfl (ix_lit rfl rfl rfl) (by rfl) dX11_init_68 rfl (fun I9 hM => ?_)
  refine v_dup (n := 70) dX11_init_69 rfl rfl ?_
  refine v_iconst (n := 71) (v := 2) dX11_init_70 c_2 rfl ?_
  refine v_bipush (n := 73) (v := 122) dX11_init_71 b_122 rfl ?_
  refine v_mcs (n := 74) (i := 6) (j := 2) hM rfl (ix_lit rfl rfl rfl) (by rfl) dX11_init_73 rfl (fun I9 hM => ?_)
  refine v_dup (n := 75) dX11_init_74 rfl rfl ?_
  refine v_iconst (n := 76) (v := 3) dX11_init_75 c_3 rfl ?_
  refine v_bipush (n := 78) (v := 101) dX11_init_76 b_101 rfl ?_
  refine v_mcs (n := 79) (i := 6) (j := 3) hM rfl (ix_lit rfl rfl rfl) (by rfl) dX11_init_78 rfl (fun I9 hM => ?_)
  refine v_dup (n := 80) dX11_init_79 rfl rfl ?_
  refine v_iconst (n := 81) (v := 4) dX11_init_80 c_4 rfl ?_
  refine v_bipush (n := 83) (v := 103) dX11_init_81 b_103 rfl ?_
  refine v_mcs (n := 84) (i := 6) (j := 4) hM rfl (ix_lit rfl rfl rfl) (by rfl) dX11_init_83 rfl (fun I9 hM => ?_)
  refine v_dup (n := 85) dX11_init_84 rfl rfl ?_
  refine v_iconst (n := 86) (v := 5) dX11_init_85 c_5 rfl ?_
  refine v_bipush (n := 88) (v := 105) dX11_init_86 b_105 rfl ?_
  refine v_mcs (n := 89) (i := 6) (j := 5) hM rfl (ix_lit rfl rfl rfl) (by rfl) dX11_init_88 rfl (fun I9 hM => ?_)
  refine v_dup (n := 90) dX11_init_89 rfl rfl ?_
  refine v_bipush (n := 92) (v := 6) dX11_init_90 b_6 rfl ?_
  refine v_bipush (n := 94) (v := 118) dX11_init_92 b_118 rfl ?_
  refine v_mcs (n := 95) (i := 6) (j := 6) hM rfl (ix_lit rfl rfl rfl) (by rfl) dX11_init_94 rfl (fun I9 hM => ?_)
  refine v_dup (n := 96) dX11_init_95 rfl rfl ?_
  refine v_bipush (n := 98) (v := 7) dX11_init_96 b_7 rfl ?_
  refine v_bipush (n := 100) (v := 101) dX11_init_98 b_101 rfl ?_
  refine v_mcs (n := 101) (i := 6) (j := 7) hM rfl (ix_lit rfl rfl rfl) (by rfl) dX11_init_100 rfl (fun I9 hM => ?_)
  refine v_dup (n := 102) dX11_init_101 rfl rfl ?_
  refine v_bipush (n := 104) (v := 8) dX11_init_102 b_8 rfl ?_
  refine v_bipush (n := 106) (v := 102) dX11_init_104 b_102 rfl ?_
  refine v_mcs (n := 107) (i := 6) (j := 8) hM rfl (ix_lit rfl rfl rfl) (by rfl) dX11_init_106 rfl (fun I9 hM => ?_)
  refine v_dup (n := 108) dX11_init_107 rfl rfl ?_
  refine v_bipush (n := 110) (v := 9) dX11_init_108 b_9 rfl ?_
  refine v_bipush (n := 112) (v := 105) dX11_init_110 b_105 rfl ?_
  refine v_mcs (n := 113) (i := 6) (j := 9) hM rfl (ix_lit rfl rfl rfl) (by rfl) dX11_init_112 rfl (fun I9 hM => ?_)
  refine v_dup (n := 114) dX11_init_113 rfl rfl ?_
  refine v_bipush (n := 116) (v := 10) dX11_init_114 b_10 rfl ?_
  refine v_bipush (n := 118) (v := 110) dX11_init_116 b_110 rfl ?_
  refine v_mcs (n := 119) (i := 6) (j := 10) hM rfl (ix_lit rfl rfl rfl) (by rfl) dX11_init_118 rfl (fun I9 hM => ?_)
  refine v_dup (n := 120) dX11_init_119 rfl rfl ?_
  refine v_bipush (n := 122) (v := 11) dX11_init_120 b_11 rfl ?_
  refine v_bipush (n := 124) (v := 101) dX11_init_122 b_101 rfl ?_
  refine v_mcs (n := 125) (i := 6) (j := 11) hM rfl (ix_lit rfl rfl rfl) (by rfl) dX11_init_124 rfl (fun I9 hM => ?_)
  refine v_mr (n := 128) hM f_X11_28 rfl (Or.inr ⟨rfl, rfl, rfl⟩) dX11_init_125 rfl (fun S9 hM => ?_)
  refine v_aload_n (n := 129) dX11_init_128 rfl rfl rfl ?_
  refine v_iconst (n := 130) (v := 4) dX11_init_129 c_4 rfl ?_
  refine v_mn (n := 132) (t := 0) (N := 4) (e := m + 1 + 7) hM rfl rfl (by decide) rfl ac_int ⟨by decide, rfl, by decide⟩ ⟨l8 rfl, l8 rfl⟩ dX11_init_130 rfl (fun S9 I9 hM => ?_)
  refine v_dup (n := 133) dX11_init_132 rfl rfl ?_
  refine v_iconst (n := 134) (v := 0) dX11_init_133 c_0 rfl ?_
  refine v_iconst (n := 135) (v := 0) dX11_init_134 c_0 rfl ?_
  refine v_ms (n := 136) (i := 7) (j := 0) hM rfl (ix_lit rfl rfl rfl) dX11_init_135 rfl (fun I9 hM => ?_)
  refine v_dup (n := 137) dX11_init_136 rfl rfl ?_
  refine v_iconst (n := 138) (v := 1) dX11_init_137 c_1 rfl ?_
  refine v_iconst (n := 139) (v := 4) dX11_init_138 c_4 rfl ?_
  refine v_ms (n := 140) (i := 7) (j := 1) hM rfl (ix_lit rfl rfl rfl) dX11_init_139 rfl (fun I9 hM => ?_)
  refine v_dup (n := 141) dX11_init_140 rfl rfl ?_
  refine v_iconst (n := 142) (v := 2) dX11_init_141 c_2 rfl ?_
  refine v_bipush (n := 144) (v := 8) dX11_init_142 b_8 rfl ?_
  refine v_ms (n := 145) (i := 7) (j := 2) hM rfl (ix_lit rfl rfl rfl) dX11_init_144 rfl (fun I9 hM => ?_)
  refine v_dup (n := 146) dX11_init_145 rfl rfl ?_
  refine v_iconst (n := 147) (v := 3) dX11_init_146 c_3 rfl ?_
  refine v_bipush (n := 149) (v := 12) dX11_init_147 b_12 rfl ?_
  refine v_ms (n := 150) (i := 7) (j := 3) hM rfl (ix_lit rfl rfl rfl) dX11_init_149 rfl (fun I9 hM => ?_)
  refine v_mr (n := 153) hM f_X11_32 rfl (Or.inr ⟨rfl, rfl, rfl⟩) dX11_init_150 rfl (fun S9 hM => ?_)
  refine v_aload_n (n := 154) dX11_init_153 rfl rfl rfl ?_
  refine v_bipush (n := 156) (v := 96) dX11_init_154 b_96 rfl ?_
  refine v_mn (n := 158) (t := 0) (N := 96) (e := m + 1 + 8) hM rfl rfl (by decide) rfl ac_int ⟨by decide, rfl, by decide⟩ ⟨l8 rfl, l8 rfl⟩ dX11_init_156 rfl (fun S9 I9 hM => ?_)
  refine v_mr (n := 161) hM f_X11_35 rfl (Or.inr ⟨rfl, rfl, rfl⟩) dX11_init_158 rfl (fun S9 hM => ?_)
  refine v_aload_n (n := 162) dX11_init_161 rfl rfl rfl ?_
  refine v_bipush (n := 164) (v := 96) dX11_init_162 b_96 rfl ?_
  refine v_mn (n := 166) (t := 0) (N := 96) (e := m + 1 + 9) hM rfl rfl (by decide) rfl ac_int ⟨by decide, rfl, by decide⟩ ⟨l8 rfl, l8 rfl⟩ dX11_init_164 rfl (fun S9 I9 hM => ?_)
  refine v_mr (n := 169) hM f_X11_38 rfl (Or.inr ⟨rfl, rfl, rfl⟩) dX11_init_166 rfl (fun S9 hM => ?_)
  refine v_aload_n (n := 170) dX11_init_169 rfl rfl rfl ?_
  refine v_bipush (n := 172) (v := 10) dX11_init_170 b_10 rfl ?_
  refine v_mn (n := 174) (t := 1) (N := 10) (e := m + 1 + 10) hM rfl rfl (by decide) rfl ac_boolean ⟨by decide, rfl, by decide⟩ ⟨l8 rfl, l8 rfl⟩ dX11_init_172 rfl (fun S9 I9 hM => ?_)
  refine v_mr (n := 177) hM f_X11_41 rfl (Or.inr ⟨rfl, rfl, rfl⟩) dX11_init_174 rfl (fun S9 hM => ?_)
  refine v_aload_n (n := 178) dX11_init_177 rfl rfl rfl ?_
  refine v_bipush (n := 180) (v := 96) dX11_init_178 b_96 rfl ?_
  refine v_mn (n := 182) (t := 0) (N := 96) (e := m + 1 + 11) hM rfl rfl (by decide) rfl ac_int ⟨by decide, rfl, by decide⟩ ⟨l8 rfl, l8 rfl⟩ dX11_init_180 rfl (fun S9 I9 hM => ?_)
  refine v_mr (n := 185) hM f_X11_45 rfl (Or.inr ⟨rfl, rfl, rfl⟩) dX11_init_182 rfl (fun S9 hM => ?_)
  refine v_aload_n (n := 186) dX11_init_185 rfl rfl rfl ?_
  refine v_iconst (n := 187) (v := 4) dX11_init_186 c_4 rfl ?_
  refine v_mn (n := 189) (t := 0) (N := 4) (e := m + 1 + 12) hM rfl rfl (by decide) rfl ac_int ⟨by decide, rfl, by decide⟩ ⟨l8 rfl, l8 rfl⟩ dX11_init_187 rfl (fun S9 I9 hM => ?_)
  refine v_mr (n := 192) hM f_X11_48 rfl (Or.inr ⟨rfl, rfl, rfl⟩) dX11_init_189 rfl (fun S9 hM => ?_)
  refine v_aload_n (n := 193) dX11_init_192 rfl rfl rfl ?_
  refine v_iconst (n := 194) (v := 4) dX11_init_193 c_4 rfl ?_
  refine v_mn (n := 196) (t := 0) (N := 4) (e := m + 1 + 13) hM rfl rfl (by decide) rfl ac_int ⟨by decide, rfl, by decide⟩ ⟨l8 rfl, l8 rfl⟩ dX11_init_194 rfl (fun S9 I9 hM => ?_)
  refine v_dup (n := 197) dX11_init_196 rfl rfl ?_
  refine v_iconst (n := 198) (v := 0) dX11_init_197 c_0 rfl ?_
  refine v_iconst (n := 199) (v := (-1)) dX11_init_198 c_m1 rfl ?_
  refine v_ms (n := 200) (i := 13) (j := 0) hM rfl (ix_lit rfl rfl rfl) dX11_init_199 rfl (fun I9 hM => ?_)
  refine v_dup (n := 201) dX11_init_200 rfl rfl ?_
  refine v_iconst (n := 202) (v := 1) dX11_init_201 c_1 rfl ?_
  refine v_iconst (n := 203) (v := (-1)) dX11_init_202 c_m1 rfl ?_
  refine v_ms (n := 204) (i := 13) (j := 1) hM rfl (ix_lit rfl rfl rfl) dX11_init_203 rfl (fun I9 hM => ?_)
  refine v_dup (n := 205) dX11_init_204 rfl rfl ?_
  refine v_iconst (n := 206) (v := 2) dX11_init_205 c_2 rfl ?_
  refine v_iconst (n := 207) (v := (-1)) dX11_init_206 c_m1 rfl ?_
  refine v_ms (n := 208) (i := 13) (j := 2) hM rfl (ix_lit rfl rfl rfl) dX11_init_207 rfl (fun I9 hM => ?_)
  refine v_dup (n := 209) dX11_init_208 rfl rfl ?_
  refine v_iconst (n := 210) (v := 3) dX11_init_209 c_3 rfl ?_
  refine v_iconst (n := 211) (v := (-1)) dX11_init_210 c_m1 rfl ?_
  refine v_ms (n := 212) (i := 13) (j := 3) hM rfl (ix_lit rfl rfl rfl) dX11_init_211 rfl (fun I9 hM => ?_)
  refine v_mr (n := 215) hM f_X11_51 rfl (Or.inr ⟨rfl, rfl, rfl⟩) dX11_init_212 rfl (fun S9 hM => ?_)
  refine v_aload_n (n := 216) dX11_init_215 rfl rfl rfl ?_
  refine v_iconst (n := 217) (v := 4) dX11_init_216 c_4 rfl ?_
  refine v_mn (n := 219) (t := 0) (N := 4) (e := m + 1 + 14) hM rfl rfl (by decide) rfl ac_int ⟨by decide, rfl, by decide⟩ ⟨l8 rfl, l8 rfl⟩ dX11_init_217 rfl (fun S9 I9 hM => ?_)
  refine v_mr (n := 222) hM f_X11_54 rfl (Or.inr ⟨rfl, rfl, rfl⟩) dX11_init_219 rfl (fun S9 hM => ?_)
  refine v_aload_n (n := 223) dX11_init_222 rfl rfl rfl ?_
  refine v_bipush (n := 225) (v := 96) dX11_init_223 b_96 rfl ?_
  refine v_mn (n := 227) (t := 0) (N := 96) (e := m + 1 + 15) hM rfl rfl (by decide) rfl ac_int ⟨by decide, rfl, by decide⟩ ⟨l8 rfl, l8 rfl⟩ dX11_init_225 rfl (fun S9 I9 hM => ?_)
  refine v_mr (n := 230) hM f_X11_57 rfl (Or.inr ⟨rfl, rfl, rfl⟩) dX11_init_227 rfl (fun S9 hM => ?_)
  refine v_aload_n (n := 231) dX11_init_230 rfl rfl rfl ?_
  refine v_iconst (n := 232) (v := 5) dX11_init_231 c_5 rfl ?_
  refine v_mn (n := 234) (t := 0) (N := 5) (e := m + 1 + 16) hM rfl rfl (by decide) rfl ac_int ⟨by decide, rfl, by decide⟩ ⟨l8 rfl, l8 rfl⟩ dX11_init_232 rfl (fun S9 I9 hM => ?_)
  refine v_mr (n := 237) hM f_X11_60 rfl (Or.inr ⟨rfl, rfl, rfl⟩) dX11_init_234 rfl (fun S9 hM => ?_)
  refine v_aload_n (n := 238) dX11_init_237 rfl rfl rfl ?_
  refine v_iconst (n := 239) (v := 5) dX11_init_238 c_5 rfl ?_
  refine v_mn (n := 241) (t := 0) (N := 5) (e := m + 1 + 17) hM rfl rfl (by decide) rfl ac_int ⟨by decide, rfl, by decide⟩ ⟨l8 rfl, l8 rfl⟩ dX11_init_239 rfl (fun S9 I9 hM => ?_)
  refine v_mr (n := 244) hM f_X11_63 rfl (Or.inr ⟨rfl, rfl, rfl⟩) dX11_init_241 rfl (fun S9 hM => ?_)
  refine v_aload_n (n := 245) dX11_init_244 rfl rfl rfl ?_
  refine v_iconst (n := 246) (v := 5) dX11_init_245 c_5 rfl ?_
  refine v_mn (n := 248) (t := 0) (N := 5) (e := m + 1 + 18) hM rfl rfl (by decide) rfl ac_int ⟨by decide, rfl, by decide⟩ ⟨l8 rfl, l8 rfl⟩ dX11_init_246 rfl (fun S9 I9 hM => ?_)
  refine v_mr (n := 251) hM f_X11_66 rfl (Or.inr ⟨rfl, rfl, rfl⟩) dX11_init_248 rfl (fun S9 hM => ?_)
  refine v_aload_n (n := 252) dX11_init_251 rfl rfl rfl ?_
  refine v_bipush (n := 254) (v := 120) dX11_init_252 b_120 rfl ?_
  refine v_mn (n := 256) (t := 0) (N := 120) (e := m + 1 + 19) hM rfl rfl (by decide) rfl ac_int ⟨by decide, rfl, by decide⟩ ⟨l8 rfl, l8 rfl⟩ dX11_init_254 rfl (fun S9 I9 hM => ?_)
  refine v_mr (n := 259) hM f_X11_69 rfl (Or.inr ⟨rfl, rfl, rfl⟩) dX11_init_256 rfl (fun S9 hM => ?_)
  refine v_aload_n (n := 260) dX11_init_259 rfl rfl rfl ?_
  refine v_bipush (n := 262) (v := 24) dX11_init_260 b_24 rfl ?_
  refine v_mn (n := 264) (t := 0) (N := 24) (e := m + 1 + 20) hM rfl rfl (by decide) rfl ac_int ⟨by decide, rfl, by decide⟩ ⟨l8 rfl, l8 rfl⟩ dX11_init_262 rfl (fun S9 I9 hM => ?_)
  refine v_mr (n := 267) hM f_X11_72 rfl (Or.inr ⟨rfl, rfl, rfl⟩) dX11_init_264 rfl (fun S9 hM => ?_)
  refine v_aload_n (n := 268) dX11_init_267 rfl rfl rfl ?_
  refine v_bipush (n := 270) (v := 60) dX11_init_268 b_60 rfl ?_
  refine v_mn (n := 272) (t := 0) (N := 60) (e := m + 1 + 21) hM rfl rfl (by decide) rfl ac_int ⟨by decide, rfl, by decide⟩ ⟨l8 rfl, l8 rfl⟩ dX11_init_270 rfl (fun S9 I9 hM => ?_)
  refine v_mr (n := 275) hM f_X11_75 rfl (Or.inr ⟨rfl, rfl, rfl⟩) dX11_init_272 rfl (fun S9 hM => ?_)
  refine v_aload_n (n := 276) dX11_init_275 rfl rfl rfl ?_
  refine v_mg (n := 279) (e := m + 1 + 0) hM f_X11_9 rfl rfl dX11_init_276 rfl ?_
  refine v_iconst (n := 280) (v := 0) dX11_init_279 c_0 rfl ?_
  refine v_iconst (n := 281) (v := 1) dX11_init_280 c_1 rfl ?_
  refine v_ms (n := 282) (i := 0) (j := 0) hM rfl (ix_lit rfl rfl rfl) dX11_init_281 rfl (fun I9 hM => ?_)
  refine v_aload_n (n := 283) dX11_init_282 rfl rfl rfl ?_
  refine v_mg (n := 286) (e := m + 1 + 0) hM f_X11_9 rfl rfl dX11_init_283 rfl ?_
  refine v_iconst (n := 287) (v := 3) dX11_init_286 c_3 rfl ?_
  refine v_iconst (n := 288) (v := 5) dX11_init_287 c_5 rfl ?_
  refine v_ms (n := 289) (i := 0) (j := 3) hM rfl (ix_lit rfl rfl rfl) dX11_init_288 rfl (fun I9 hM => ?_)
  refine v_aload_n (n := 290) dX11_init_289 rfl rfl rfl ?_
  refine v_mg (n := 293) (e := m + 1 + 0) hM f_X11_9 rfl rfl dX11_init_290 rfl ?_
  refine v_iconst (n := 294) (v := 4) dX11_init_293 c_4 rfl ?_
  refine v_iconst (n := 295) (v := 3) dX11_init_294 c_3 rfl ?_
  refine v_ms (n := 296) (i := 0) (j := 4) hM rfl (ix_lit rfl rfl rfl) dX11_init_295 rfl (fun I9 hM => ?_)
  refine v_iconst (n := 297) (v := 0) dX11_init_296 c_0 rfl ?_
  refine v_istore_n (n := 298) (al' := [.ref m, .int 0]) dX11_init_297 rfl rfl rfl rfl ?_
  have g0 : S9.2.1 m 0 = .ref (m + 1) := by rw [hM.1.2.2.1]; rfl
  refine V.mono ?_ (l_X11_init (I := I9) hM.1.2.1 g0 (hM.2.1 0 _ rfl).1 7 0 I9 (by decide) (by decide) (fun _ _ => rfl) (fun j => by rw [if_neg (by omega)]))
  rintro rr S8 I8 ⟨h1, hS8, h2, h3⟩
  subst hS8
  refine ⟨h1, ⟨hM.1.2.1, fun k hk => ?_, fun j hj => ?_⟩, ⟨fun j => ?_, ⟨fun j hj => ?_, fun j hj => ?_⟩, fun j => ?_, ⟨fun s hs => ?_, fun j => ?_, fun j => ?_⟩, fun j => ?_, fun j => ?_, fun j => ?_⟩, ?_, ?_, ?_, ?_⟩
  · rw [hM.1.2.2.1]
    rcases (show k = 0 ∨ k = 1 ∨ k = 2 ∨ k = 3 ∨ k = 4 ∨ k = 5 ∨ k = 6 ∨ k = 7 ∨ k = 8 ∨ k = 9 ∨ k = 10 ∨ k = 11 ∨ k = 12 ∨ k = 13 ∨ k = 14 ∨ k = 15 ∨ k = 16 ∨ k = 17 ∨ k = 18 ∨ k = 19 ∨ k = 20 ∨ k = 21 ∨ k = 22 ∨ k = 23 ∨ k = 24 ∨ k = 25 ∨ k = 26 ∨ k = 27 ∨ k = 28 ∨ k = 29 ∨ k = 30 ∨ k = 31 ∨ k = 32 ∨ k = 33 by omega) with rfl | rfl | rfl | rfl | rfl | rfl | rfl | rfl | rfl | rfl | rfl | rfl | rfl | rfl | rfl | rfl | rfl | rfl | rfl | rfl | rfl | rfl | rfl | rfl | rfl | rfl | rfl | rfl | rfl | rfl | rfl | rfl | rfl | rfl
    all_goals (intro hr; first | rfl | exact absurd hr (by decide))
  · rcases (show j = 0 ∨ j = 1 ∨ j = 2 ∨ j = 3 ∨ j = 4 ∨ j = 5 ∨ j = 6 ∨ j = 7 ∨ j = 8 ∨ j = 9 ∨ j = 10 ∨ j = 11 ∨ j = 12 ∨ j = 13 ∨ j = 14 ∨ j = 15 ∨ j = 16 ∨ j = 17 ∨ j = 18 ∨ j = 19 ∨ j = 20 ∨ j = 21 ∨ j = 22 by omega) with rfl | rfl | rfl | rfl | rfl | rfl | rfl | rfl | rfl | rfl | rfl | rfl | rfl | rfl | rfl | rfl | rfl | rfl | rfl | rfl | rfl | rfl | rfl
    · exact hM.1.2.1
    · exact (hM.2.1 0 _ rfl).1
    · exact (hM.2.1 1 _ rfl).1
    · exact (hM.2.1 2 _ rfl).1
    · exact (hM.2.1 3 _ rfl).1
    · exact (hM.2.1 4 _ rfl).1
    · exact (hM.2.1 5 _ rfl).1
    · exact (hM.2.1 6 _ rfl).1
    · exact (hM.2.1 7 _ rfl).1
    · exact (hM.2.1 8 _ rfl).1
    · exact (hM.2.1 9 _ rfl).1
    · exact (hM.2.1 10 _ rfl).1
    · exact (hM.2.1 11 _ rfl).1
    · exact (hM.2.1 12 _ rfl).1
    · exact (hM.2.1 13 _ rfl).1
    · exact (hM.2.1 14 _ rfl).1
    · exact (hM.2.1 15 _ rfl).1
    · exact (hM.2.1 16 _ rfl).1
    · exact (hM.2.1 17 _ rfl).1
    · exact (hM.2.1 18 _ rfl).1
    · exact (hM.2.1 19 _ rfl).1
    · exact (hM.2.1 20 _ rfl).1
    · exact (hM.2.1 21 _ rfl).1
  · rw [h3 j, (hM.2.1 0 _ rfl).2.2]
    unfold X0f
    by_cases e0 : j = 0
    · subst e0; rfl
    by_cases e3 : j = 3
    · subst e3; rfl
    by_cases e4 : j = 4
    · subst e4; rfl
    rw [sI_k e4, sI_k e3, sI_k e0, sI_o (by decide), sI_o (by decide), sI_o (by decide), sI_o (by decide), sI_o (by decide), sI_o (by decide), sI_o (by decide), sI_o (by decide), sI_o (by decide), sI_o (by decide), sI_o (by decide), sI_o (by decide), sI_o (by decide), sI_o (by decide), sI_o (by decide), sI_o (by decide), sI_o (by decide), sI_o (by decide), sI_o (by decide), sI_o (by decide), if_neg e0, if_neg e3, if_neg e4]
  · rw [h2 _ (by omega), (hM.2.1 6 _ rfl).2.2]
    rcases (show j = 0 ∨ j = 1 ∨ j = 2 ∨ j = 3 ∨ j = 4 ∨ j = 5 ∨ j = 6 ∨ j = 7 ∨ j = 8 ∨ j = 9 ∨ j = 10 ∨ j = 11 by omega) with rfl | rfl | rfl | rfl | rfl | rfl | rfl | rfl | rfl | rfl | rfl | rfl <;> rfl
  · rw [h2 _ (by omega), (hM.2.1 7 _ rfl).2.2]
    rcases (show j = 0 ∨ j = 1 ∨ j = 2 ∨ j = 3 by omega) with rfl | rfl | rfl | rfl <;> rfl
  · rw [h2 _ (by omega), (hM.2.1 5 _ rfl).2.2]; rfl
  · rw [h2 _ (by omega), (hM.2.1 13 _ rfl).2.2]
    rcases (show s = 0 ∨ s = 1 ∨ s = 2 ∨ s = 3 by omega) with rfl | rfl | rfl | rfl <;> rfl
  · rw [h2 _ (by omega), (hM.2.1 14 _ rfl).2.2]; rfl
  · rw [h2 _ (by omega), (hM.2.1 15 _ rfl).2.2]; rfl
  · rw [h2 _ (by omega), (hM.2.1 16 _ rfl).2.2]; rfl
  · rw [h2 _ (by omega), (hM.2.1 21 _ rfl).2.2]; rfl
  · rw [h2 _ (by omega), (hM.2.1 1 _ rfl).2.2]; rfl
  · rw [h2 _ (by omega)]; exact hM.1.2.2.2.1
  · rw [hM.1.1]; rfl
  · intro c c1 c2
    have q := hM.2.2.1 c (by omega)
    exact ⟨q.1, (q.2 (by omega)).1, by rw [h2 c (by omega)]; exact (q.2 (by omega)).2⟩
  · exact hM.fr

