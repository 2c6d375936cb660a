/-! ===== a TEXT as the class keeps it ===== -/
def sgC (c : Int32) : Int32 := if c = -1 then 10224 else if c = -2 then 10138 else if c = -3 then 10160 else if c = -4 then 10161 else if c = -5 then 10162 else if c = -6 then 10143 else if c = -7 then 10145 else if c = -8 then 10142 else if c = -10 then 10133 else 10147
def trC (key : Nat) (c : Int32) : Int32 := if c < 0 then sgC c else if key = 1 ∧ c = 10000 then 10001 else if key = 1 ∧ c = 10001 then 10000 else c
def LayL (S : St) (c n na : Nat) : Prop := S.1 c = some (20, n) ∧ S.1 (c + 1) = some (1, 0) ∧ S.1 (c + 2) = some (20, na) ∧ S.2.1 (c + 1) 3 = .ref c ∧ S.2.1 (c + 1) 4 = .ref (c + 2)
theorem LayL.s {S : St} {c n na : Nat} (h : LayL S c n na) : S.1 (c + 1) = some (1, 0) := h.2.1
theorem LayL.c3 {S : St} {c n na : Nat} (h : LayL S c n na) : S.1 c = some (20, n) := h.1
theorem LayL.c4 {S : St} {c n na : Nat} (h : LayL S c n na) : S.1 (c + 2) = some (20, na) := h.2.2.1
theorem LayL.g3 {S : St} {c n na : Nat} (h : LayL S c n na) : S.2.1 (c + 1) 3 = .ref c := h.2.2.2.1
theorem LayL.g4 {S : St} {c n na : Nat} (h : LayL S c n na) : S.2.1 (c + 1) 4 = .ref (c + 2) := h.2.2.2.2
def nmF (i a b d : Int32) : Int32 := if i = 0 then a else if i = 1 then b else d
def jnF (s a b : Int32) : Int32 := if s = 38 then (if a = 0 then 0 else if b = 0 then 0 else 1) else if s = 42 then a * b else if s = 43 then a + b else if s = 45 then a - b else if s = 60 then (if b ≤ a then 0 else 1) else if s = 61 then (if a = b then 1 else 0) else if s = 62 then (if a ≤ b then 0 else 1) else if s = 124 then (if a = 0 then (if b = 0 then 0 else 1) else 1) else if b = 0 then 0 else a / b
theorem jn_two (c a b : Int32) (h : ¬ c = -10) : jnF (sgC c - 10100) a b = twoF c a b := by
  unfold sgC twoF
  by_cases h1 : c = -1
  · rw [if_pos h1, if_pos h1]; rfl
  · rw [if_neg h1, if_neg h1]
    by_cases h1 : c = -2
    · rw [if_pos h1, if_pos h1]; rfl
    · rw [if_neg h1, if_neg h1]
      by_cases h1 : c = -3
      · rw [if_pos h1, if_pos h1]; rfl
      · rw [if_neg h1, if_neg h1]
        by_cases h1 : c = -4
        · rw [if_pos h1, if_pos h1]; rfl
        · rw [if_neg h1, if_neg h1]
          by_cases h1 : c = -5
          · rw [if_pos h1, if_pos h1]; rfl
          · rw [if_neg h1, if_neg h1]
            by_cases h1 : c = -6
            · rw [if_pos h1, if_pos h1]; rfl
            · rw [if_neg h1, if_neg h1]
              by_cases h1 : c = -7
              · rw [if_pos h1, if_pos h1]; rfl
              · rw [if_neg h1, if_neg h1]
                by_cases h1 : c = -8
                · rw [if_pos h1, if_pos h1]; rfl
                · rw [if_neg h1, if_neg h1, if_neg h]; rfl
theorem sg_ge (c : Int32) : 10100 ≤ sgC c := by
  unfold sgC
  repeat' split
  all_goals decide
theorem sg_133 {c : Int32} (h : ¬ c = -10) : ¬ sgC c = 10133 := by
  unfold sgC
  rw [if_neg h]
  repeat' split
  all_goals decide

set_option maxRecDepth 100000 in
set_option maxHeartbeats 1000000 in
theorem k_X2_named {ro : Ro} {S : St} {I : In} {x a b d : Int32} : Ok mX2_named ro 0 0 0 [.int x, .int a, .int b, .int d] S I (RI (nmF x a b d) S I) := by
  refine ok_of (al := [.int x, .int a, .int b, .int d]) (by decide) (l8 rfl) rfl ?_
  refine v_iload_n (n := 1) dX2_named_0 rfl rfl rfl ?_
  refine v_if_ne (n := 4) (tgt := 8) dX2_named_1 (by decide) rfl (fun hq1 => ?_) (fun hq1 => ?_)
  · refine v_iload_n (n := 9) dX2_named_8 rfl rfl rfl ?_
    refine v_iconst (n := 10) (v := 1) dX2_named_9 c_1 rfl ?_
    refine v_icmp_ne (n := 13) (tgt := 17) dX2_named_10 (by decide) rfl (fun hq10 => ?_) (fun hq10 => ?_)
    · refine v_iload_n (n := 18) dX2_named_17 rfl rfl rfl ?_
      exact v_rI rfl (by simp [nmF, *]) rfl rfl ⟨l8 rfl, l8 rfl⟩ dX2_named_18
    · refine v_iload_n (n := 14) dX2_named_13 rfl rfl rfl ?_
      refine v_goto (tgt := 18) dX2_named_14 (by decide) ?_
      exact v_rI rfl (by simp [nmF, *]) rfl rfl ⟨l8 rfl, l8 rfl⟩ dX2_named_18
  · refine v_iload_n (n := 5) dX2_named_4 rfl rfl rfl ?_
    refine v_goto (tgt := 18) dX2_named_5 (by decide) ?_
    exact v_rI rfl (by simp [nmF, *]) rfl rfl ⟨l8 rfl, l8 rfl⟩ dX2_named_18

set_option maxRecDepth 100000 in
set_option maxHeartbeats 1000000 in
theorem k_X2_joined {ro : Ro} {S : St} {I : In} {x a b : Int32} : Ok mX2_joined ro 0 0 0 [.int x, .int a, .int b] S I (RI (jnF x a b) S I) := by
  refine ok_of (al := [.int x, .int a, .int b]) (by decide) (l8 rfl) rfl ?_
  refine v_iload_n (n := 1) dX2_joined_0 rfl rfl rfl ?_
  by_cases hw1_0 : x = 38
  · refine v_lookup (tgt := 90) (off := 89) dX2_joined_1 (by decide) (by rw [hw1_0, t_38]; decide) (by decide) ?_
    refine v_iload_n (n := 91) dX2_joined_90 rfl rfl rfl ?_
    refine v_if_eq (n := 94) (tgt := 102) dX2_joined_91 (by decide) rfl (fun hq91 => ?_) (fun hq91 => ?_)
    · refine v_iconst (n := 103) (v := 0) dX2_joined_102 c_0 rfl ?_
      exact v_rI rfl (by simp [jnF, *]) rfl rfl ⟨l8 rfl, l8 rfl⟩ dX2_joined_103
    · refine v_iload_n (n := 95) dX2_joined_94 rfl rfl rfl ?_
      refine v_if_eq (n := 98) (tgt := 102) dX2_joined_95 (by decide) rfl (fun hq95 => ?_) (fun hq95 => ?_)
      · refine v_iconst (n := 103) (v := 0) dX2_joined_102 c_0 rfl ?_
        exact v_rI rfl (by simp [jnF, *]) rfl rfl ⟨l8 rfl, l8 rfl⟩ dX2_joined_103
      · refine v_iconst (n := 99) (v := 1) dX2_joined_98 c_1 rfl ?_
        refine v_goto (tgt := 103) dX2_joined_99 (by decide) ?_
        exact v_rI rfl (by simp [jnF, *]) rfl rfl ⟨l8 rfl, l8 rfl⟩ dX2_joined_103
  by_cases hw1_1 : x = 42
  · refine v_lookup (tgt := 145) (off := 144) dX2_joined_1 (by decide) (by rw [hw1_1, t_42]; decide) (by decide) ?_
    refine v_iload_n (n := 146) dX2_joined_145 rfl rfl rfl ?_
    refine v_iload_n (n := 147) dX2_joined_146 rfl rfl rfl ?_
    refine v_imul (n := 148) dX2_joined_147 rfl ?_
    exact v_rI rfl (by simp [jnF, *]) rfl rfl ⟨l8 rfl, l8 rfl⟩ dX2_joined_148
  by_cases hw1_2 : x = 43
  · refine v_lookup (tgt := 137) (off := 136) dX2_joined_1 (by decide) (by rw [hw1_2, t_43]; decide) (by decide) ?_
    refine v_iload_n (n := 138) dX2_joined_137 rfl rfl rfl ?_
    refine v_iload_n (n := 139) dX2_joined_138 rfl rfl rfl ?_
    refine v_iadd (n := 140) dX2_joined_139 rfl ?_
    exact v_rI rfl (by simp [jnF, *]) rfl rfl ⟨l8 rfl, l8 rfl⟩ dX2_joined_140
  by_cases hw1_3 : x = 45
  · refine v_lookup (tgt := 141) (off := 140) dX2_joined_1 (by decide) (by rw [hw1_3, t_45]; decide) (by decide) ?_
    refine v_iload_n (n := 142) dX2_joined_141 rfl rfl rfl ?_
    refine v_iload_n (n := 143) dX2_joined_142 rfl rfl rfl ?_
    refine v_isub (n := 144) dX2_joined_143 rfl ?_
    exact v_rI rfl (by simp [jnF, *]) rfl rfl ⟨l8 rfl, l8 rfl⟩ dX2_joined_144
  by_cases hw1_4 : x = 60
  · refine v_lookup (tgt := 104) (off := 103) dX2_joined_1 (by decide) (by rw [hw1_4, t_60]; decide) (by decide) ?_
    refine v_iload_n (n := 105) dX2_joined_104 rfl rfl rfl ?_
    refine v_iload_n (n := 106) dX2_joined_105 rfl rfl rfl ?_
    refine v_icmp_ge (n := 109) (tgt := 113) dX2_joined_106 (by decide) rfl (fun hq106 => ?_) (fun hq106 => ?_)
    · refine v_iconst (n := 114) (v := 0) dX2_joined_113 c_0 rfl ?_
      exact v_rI rfl (by simp [jnF, *]) rfl rfl ⟨l8 rfl, l8 rfl⟩ dX2_joined_114
    · refine v_iconst (n := 110) (v := 1) dX2_joined_109 c_1 rfl ?_
      refine v_goto (tgt := 114) dX2_joined_110 (by decide) ?_
      exact v_rI rfl (by simp [jnF, *]) rfl rfl ⟨l8 rfl, l8 rfl⟩ dX2_joined_114
  by_cases hw1_5 : x = 61
  · refine v_lookup (tgt := 115) (off := 114) dX2_joined_1 (by decide) (by rw [hw1_5, t_61]; decide) (by decide) ?_
    refine v_iload_n (n := 116) dX2_joined_115 rfl rfl rfl ?_
    refine v_iload_n (n := 117) dX2_joined_116 rfl rfl rfl ?_
    refine v_icmp_ne (n := 120) (tgt := 124) dX2_joined_117 (by decide) rfl (fun hq117 => ?_) (fun hq117 => ?_)
    · refine v_iconst (n := 125) (v := 0) dX2_joined_124 c_0 rfl ?_
      exact v_rI rfl (by simp [jnF, *]) rfl rfl ⟨l8 rfl, l8 rfl⟩ dX2_joined_125
    · refine v_iconst (n := 121) (v := 1) dX2_joined_120 c_1 rfl ?_
      refine v_goto (tgt := 125) dX2_joined_121 (by decide) ?_
      exact v_rI rfl (by simp [jnF, *]) rfl rfl ⟨l8 rfl, l8 rfl⟩ dX2_joined_125
  by_cases hw1_6 : x = 62
  · refine v_lookup (tgt := 126) (off := 125) dX2_joined_1 (by decide) (by rw [hw1_6, t_62]; decide) (by decide) ?_
    refine v_iload_n (n := 127) dX2_joined_126 rfl rfl rfl ?_
    refine v_iload_n (n := 128) dX2_joined_127 rfl rfl rfl ?_
    refine v_icmp_le (n := 131) (tgt := 135) dX2_joined_128 (by decide) rfl (fun hq128 => ?_) (fun hq128 => ?_)
    · refine v_iconst (n := 136) (v := 0) dX2_joined_135 c_0 rfl ?_
      exact v_rI rfl (by simp [jnF, *]) rfl rfl ⟨l8 rfl, l8 rfl⟩ dX2_joined_136
    · refine v_iconst (n := 132) (v := 1) dX2_joined_131 c_1 rfl ?_
      refine v_goto (tgt := 136) dX2_joined_132 (by decide) ?_
      exact v_rI rfl (by simp [jnF, *]) rfl rfl ⟨l8 rfl, l8 rfl⟩ dX2_joined_136
  by_cases hw1_7 : x = 124
  · refine v_lookup (tgt := 76) (off := 75) dX2_joined_1 (by decide) (by rw [hw1_7, t_124]; decide) (by decide) ?_
    refine v_iload_n (n := 77) dX2_joined_76 rfl rfl rfl ?_
    refine v_if_ne (n := 80) (tgt := 84) dX2_joined_77 (by decide) rfl (fun hq77 => ?_) (fun hq77 => ?_)
    · refine v_iconst (n := 85) (v := 1) dX2_joined_84 c_1 rfl ?_
      refine v_goto (tgt := 89) dX2_joined_85 (by decide) ?_
      exact v_rI rfl (by simp [jnF, *]) rfl rfl ⟨l8 rfl, l8 rfl⟩ dX2_joined_89
    · refine v_iload_n (n := 81) dX2_joined_80 rfl rfl rfl ?_
      refine v_if_eq (n := 84) (tgt := 88) dX2_joined_81 (by decide) rfl (fun hq81 => ?_) (fun hq81 => ?_)
      · refine v_iconst (n := 89) (v := 0) dX2_joined_88 c_0 rfl ?_
        exact v_rI rfl (by simp [jnF, *]) rfl rfl ⟨l8 rfl, l8 rfl⟩ dX2_joined_89
      · refine v_iconst (n := 85) (v := 1) dX2_joined_84 c_1 rfl ?_
        refine v_goto (tgt := 89) dX2_joined_85 (by decide) ?_
        exact v_rI rfl (by simp [jnF, *]) rfl rfl ⟨l8 rfl, l8 rfl⟩ dX2_joined_89
  refine v_lookup (tgt := 149) (off := 148) dX2_joined_1 (by decide) (by simp only [Op.lookupswitch.offset_cons, if_neg (lk_ne hw1_0 t_38), if_neg (lk_ne hw1_1 t_42), if_neg (lk_ne hw1_2 t_43), if_neg (lk_ne hw1_3 t_45), if_neg (lk_ne hw1_4 t_60), if_neg (lk_ne hw1_5 t_61), if_neg (lk_ne hw1_6 t_62), if_neg (lk_ne hw1_7 t_124)]; rfl) (by decide) ?_
  refine v_iload_n (n := 150) dX2_joined_149 rfl rfl rfl ?_
  refine v_if_ne (n := 153) (tgt := 157) dX2_joined_150 (by decide) rfl (fun hq150 => ?_) (fun hq150 => ?_)
  · refine v_iload_n (n := 158) dX2_joined_157 rfl rfl rfl ?_
    refine v_iload_n (n := 159) dX2_joined_158 rfl rfl rfl ?_
    refine v_idiv (n := 160) dX2_joined_159 hq150 rfl ?_
    exact v_rI rfl (by simp [jnF, *]) rfl rfl ⟨l8 rfl, l8 rfl⟩ dX2_joined_160
  · refine v_iconst (n := 154) (v := 0) dX2_joined_153 c_0 rfl ?_
    refine v_goto (tgt := 160) dX2_joined_154 (by decide) ?_
    exact v_rI rfl (by simp [jnF, *]) rfl rfl ⟨l8 rfl, l8 rfl⟩ dX2_joined_160

set_option maxRecDepth 100000 in
set_option maxHeartbeats 1000000 in
theorem va_X2_value {ro : Ro} {S : St} {I : In} {c n na t k : Nat} {f : Ar} {a b d cc : Int32} {Q : Option Value → St → In → Prop} (LL : LayL S c n na) (hn : n ≤ 96) (hna : na ≤ 96) (hk : k < n) (hcc : I c k = cc) (ht : t < na) (h1 : ¬ 10100 ≤ cc) (kk : V RX2 cX2_value 9 (some .int) "value" ro (rmD 1 0 0) (QM 0 0 Q) 0 0 17 [.ref ((c + 1)), .int a, .int b, .int d, .int (nI (t + 1)), .ref c, .int (nI n), .int (nI (k + 1)), JJ] [] S (row I (c + 2) (upd f t (if 10000 ≤ cc then nmF (cc - 10000) a b d else cc)))) : V RX2 cX2_value 9 (some .int) "value" ro (rmD 1 0 0) (QM 0 0 Q) 0 0 24 [.ref ((c + 1)), .int a, .int b, .int d, .int (nI t), .ref c, .int (nI n), .int (nI k), JJ] [] S (row I (c + 2) f) := by
  refine v_aload (n := 26) dX2_value_24 rfl rfl ?_
  refine v_iload (n := 28) dX2_value_26 rfl rfl ?_
  refine v_iald (n := 29) (j := k) LL.c3 (ix_nI (by omega) (by omega)) dX2_value_28 rfl ?_
  rw [row_oo (by omega), hcc]
  refine v_istore (n := 31) (al' := [.ref ((c + 1)), .int a, .int b, .int d, .int (nI t), .ref c, .int (nI n), .int (nI k), .int cc]) dX2_value_29 rfl rfl rfl ?_
  refine v_iload (n := 33) dX2_value_31 rfl rfl ?_
  refine v_sipush (n := 36) (v := 10100) dX2_value_33 s_10100 rfl ?_
  refine v_icmp_ge (n := 39) (tgt := 87) dX2_value_36 (by decide) rfl (fun hq36 => ?_) (fun hq36 => ?_)
  · exact absurd hq36 h1
  · refine v_iload (n := 41) dX2_value_39 rfl rfl ?_
    refine v_aload_n (n := 42) dX2_value_41 rfl rfl rfl ?_
    refine v_getR (n := 45) f_X2_23 rfl LL.s LL.g4 dX2_value_42 rfl ?_
    refine v_alen (n := 46) (t := 0) (by decide) LL.c4 dX2_value_45 rfl ?_
    refine v_icmp_ge (n := 49) (tgt := 172) dX2_value_46 (by decide) rfl (fun hq46 => ?_) (fun hq46 => ?_)
    · exact absurd (le_out hq46 (by omega) (by omega)) (by omega)
    · refine v_aload_n (n := 50) dX2_value_49 rfl rfl rfl ?_
      refine v_getR (n := 53) f_X2_23 rfl LL.s LL.g4 dX2_value_50 rfl ?_
      refine v_iload (n := 55) dX2_value_53 rfl rfl ?_
      refine v_iload (n := 57) dX2_value_55 rfl rfl ?_
      refine v_sipush (n := 60) (v := 10000) dX2_value_57 s_10000 rfl ?_
      refine v_icmp_ge (n := 63) (tgt := 68) dX2_value_60 (by decide) rfl (fun hq60 => ?_) (fun hq60 => ?_)
      · refine v_iload (n := 70) dX2_value_68 rfl rfl ?_
        refine v_sipush (n := 73) (v := 10000) dX2_value_70 s_10000 rfl ?_
        refine v_isub (n := 74) dX2_value_73 rfl ?_
        refine v_iload_n (n := 75) dX2_value_74 rfl rfl rfl ?_
        refine v_iload_n (n := 76) dX2_value_75 rfl rfl rfl ?_
        refine v_iload_n (n := 77) dX2_value_76 rfl rfl rfl ?_
        refine v_cSi (n := 80) (x := (nmF (cc - 10000) a b d)) mc_X2_named l_X2_26 sta_X2_named k_X2_named ⟨rfl, rfl⟩ (l8 rfl) ⟨l8 rfl, l8 rfl⟩ rfl rfl (l8 rfl) dX2_value_77 rfl ?_
        refine v_iast (n := 81) (j := t) LL.c4 (ix_nI (by omega) (by omega)) dX2_value_80 rfl ?_
        refine v_iinc (n := 84) (v := (nI t) + 1) (al' := [.ref ((c + 1)), .int a, .int b, .int d, .int ((nI t) + 1), .ref c, .int (nI n), .int (nI k), .int cc]) dX2_value_81 rfl (by rw [c_1]) rfl rfl rfl ?_
        refine v_goto (tgt := 172) dX2_value_84 (by decide) ?_
        refine v_iinc (n := 175) (v := (nI k) + 1) (al' := [.ref ((c + 1)), .int a, .int b, .int d, .int ((nI t) + 1), .ref c, .int (nI n), .int ((nI k) + 1), .int cc]) dX2_value_172 rfl (by rw [c_1]) rfl rfl rfl ?_
        refine v_goto (tgt := 17) dX2_value_175 (by decide) ?_
        refine v_drop 8 (al' := [.ref ((c + 1)), .int a, .int b, .int d, .int ((nI t) + 1), .ref c, .int (nI n), .int ((nI k) + 1), JJ]) rfl ?_
        rw [nI_1, nI_1, row_setS]
        rw [if_pos hq60] at kk
        exact kk
      · refine v_iload (n := 65) dX2_value_63 rfl rfl ?_
        refine v_goto (tgt := 80) dX2_value_65 (by decide) ?_
        refine v_iast (n := 81) (j := t) LL.c4 (ix_nI (by omega) (by omega)) dX2_value_80 rfl ?_
        refine v_iinc (n := 84) (v := (nI t) + 1) (al' := [.ref ((c + 1)), .int a, .int b, .int d, .int ((nI t) + 1), .ref c, .int (nI n), .int (nI k), .int cc]) dX2_value_81 rfl (by rw [c_1]) rfl rfl rfl ?_
        refine v_goto (tgt := 172) dX2_value_84 (by decide) ?_
        refine v_iinc (n := 175) (v := (nI k) + 1) (al' := [.ref ((c + 1)), .int a, .int b, .int d, .int ((nI t) + 1), .ref c, .int (nI n), .int ((nI k) + 1), .int cc]) dX2_value_172 rfl (by rw [c_1]) rfl rfl rfl ?_
        refine v_goto (tgt := 17) dX2_value_175 (by decide) ?_
        refine v_drop 8 (al' := [.ref ((c + 1)), .int a, .int b, .int d, .int ((nI t) + 1), .ref c, .int (nI n), .int ((nI k) + 1), JJ]) rfl ?_
        rw [nI_1, nI_1, row_setS]
        rw [if_neg hq60] at kk
        exact kk

set_option maxRecDepth 100000 in
set_option maxHeartbeats 1000000 in
theorem vb_X2_value {ro : Ro} {S : St} {I : In} {c n na t k : Nat} {f : Ar} {a b d cc : Int32} {Q : Option Value → St → In → Prop} (LL : LayL S c n na) (hn : n ≤ 96) (hna : na ≤ 96) (hk : k < n) (hcc : I c k = cc) (ht : t ≤ na) (ht1 : 1 ≤ t) (h1 : cc = 10133) (kk : V RX2 cX2_value 9 (some .int) "value" ro (rmD 1 0 0) (QM 0 0 Q) 0 0 17 [.ref ((c + 1)), .int a, .int b, .int d, .int (nI t), .ref c, .int (nI n), .int (nI (k + 1)), JJ] [] S (row I (c + 2) (upd f (t - 1) (if f (t - 1) = 0 then 1 else 0)))) : V RX2 cX2_value 9 (some .int) "value" ro (rmD 1 0 0) (QM 0 0 Q) 0 0 24 [.ref ((c + 1)), .int a, .int b, .int d, .int (nI t), .ref c, .int (nI n), .int (nI k), JJ] [] S (row I (c + 2) f) := by
  refine v_aload (n := 26) dX2_value_24 rfl rfl ?_
  refine v_iload (n := 28) dX2_value_26 rfl rfl ?_
  refine v_iald (n := 29) (j := k) LL.c3 (ix_nI (by omega) (by omega)) dX2_value_28 rfl ?_
  rw [row_oo (by omega), hcc]
  refine v_istore (n := 31) (al' := [.ref ((c + 1)), .int a, .int b, .int d, .int (nI t), .ref c, .int (nI n), .int (nI k), .int cc]) dX2_value_29 rfl rfl rfl ?_
  refine v_iload (n := 33) dX2_value_31 rfl rfl ?_
  refine v_sipush (n := 36) (v := 10100) dX2_value_33 s_10100 rfl ?_
  refine v_icmp_ge (n := 39) (tgt := 87) dX2_value_36 (by decide) rfl (fun hq36 => ?_) (fun hq36 => ?_)
  · refine v_iload (n := 89) dX2_value_87 rfl rfl ?_
    refine v_sipush (n := 92) (v := 10133) dX2_value_89 s_10133 rfl ?_
    refine v_icmp_ne (n := 95) (tgt := 129) dX2_value_92 (by decide) rfl (fun hq92 => ?_) (fun hq92 => ?_)
    · exact absurd h1 hq92
    · refine v_iload (n := 97) dX2_value_95 rfl rfl ?_
      refine v_if_le (n := 100) (tgt := 172) dX2_value_97 (by decide) rfl (fun hq97 => ?_) (fun hq97 => ?_)
      · exact absurd (le_out (b := 0) hq97 (by omega) (by omega)) (by omega)
      · refine v_aload_n (n := 101) dX2_value_100 rfl rfl rfl ?_
        refine v_getR (n := 104) f_X2_23 rfl LL.s LL.g4 dX2_value_101 rfl ?_
        refine v_iload (n := 106) dX2_value_104 rfl rfl ?_
        refine v_iconst (n := 107) (v := 1) dX2_value_106 c_1 rfl ?_
        refine v_isub (n := 108) dX2_value_107 rfl ?_
        refine v_aload_n (n := 109) dX2_value_108 rfl rfl rfl ?_
        refine v_getR (n := 112) f_X2_23 rfl LL.s LL.g4 dX2_value_109 rfl ?_
        refine v_iload (n := 114) dX2_value_112 rfl rfl ?_
        refine v_iconst (n := 115) (v := 1) dX2_value_114 c_1 rfl ?_
        refine v_isub (n := 116) dX2_value_115 rfl ?_
        refine v_iald (n := 117) (j := t - 1) LL.c4 (ix_of (nI_p1 (by omega)) (by omega) (by omega)) dX2_value_116 rfl ?_
        refine v_if_ne (n := 120) (tgt := 124) dX2_value_117 (by decide) rfl (fun hq117 => ?_) (fun hq117 => ?_)
        · rw [row_s] at hq117
          refine v_iconst (n := 125) (v := 0) dX2_value_124 c_0 rfl ?_
          refine v_iast (n := 126) (j := t - 1) LL.c4 (ix_of (nI_p1 (by omega)) (by omega) (by omega)) dX2_value_125 rfl ?_
          refine v_goto (tgt := 172) dX2_value_126 (by decide) ?_
          refine v_iinc (n := 175) (v := (nI k) + 1) (al' := [.ref ((c + 1)), .int a, .int b, .int d, .int (nI t), .ref c, .int (nI n), .int ((nI k) + 1), .int cc]) dX2_value_172 rfl (by rw [c_1]) rfl rfl rfl ?_
          refine v_goto (tgt := 17) dX2_value_175 (by decide) ?_
          refine v_drop 8 (al' := [.ref ((c + 1)), .int a, .int b, .int d, .int (nI t), .ref c, .int (nI n), .int ((nI k) + 1), JJ]) rfl ?_
          rw [nI_1, row_setS]
          rw [if_neg hq117] at kk
          exact kk
        · rw [row_s] at hq117
          refine v_iconst (n := 121) (v := 1) dX2_value_120 c_1 rfl ?_
          refine v_goto (tgt := 125) dX2_value_121 (by decide) ?_
          refine v_iast (n := 126) (j := t - 1) LL.c4 (ix_of (nI_p1 (by omega)) (by omega) (by omega)) dX2_value_125 rfl ?_
          refine v_goto (tgt := 172) dX2_value_126 (by decide) ?_
          refine v_iinc (n := 175) (v := (nI k) + 1) (al' := [.ref ((c + 1)), .int a, .int b, .int d, .int (nI t), .ref c, .int (nI n), .int ((nI k) + 1), .int cc]) dX2_value_172 rfl (by rw [c_1]) rfl rfl rfl ?_
          refine v_goto (tgt := 17) dX2_value_175 (by decide) ?_
          refine v_drop 8 (al' := [.ref ((c + 1)), .int a, .int b, .int d, .int (nI t), .ref c, .int (nI n), .int ((nI k) + 1), JJ]) rfl ?_
          rw [nI_1, row_setS]
          rw [if_pos hq117] at kk
          exact kk
  · exact absurd (by rw [h1]; decide) hq36

set_option maxRecDepth 100000 in
set_option maxHeartbeats 1000000 in
theorem vc_X2_value {ro : Ro} {S : St} {I : In} {c n na t k : Nat} {f : Ar} {a b d cc : Int32} {Q : Option Value → St → In → Prop} (LL : LayL S c n na) (hn : n ≤ 96) (hna : na ≤ 96) (hk : k < n) (hcc : I c k = cc) (ht : t ≤ na) (ht1 : 2 ≤ t) (h1 : 10100 ≤ cc) (h2 : ¬ cc = 10133) (kk : V RX2 cX2_value 9 (some .int) "value" ro (rmD 1 0 0) (QM 0 0 Q) 0 0 17 [.ref ((c + 1)), .int a, .int b, .int d, .int (nI (t - 1)), .ref c, .int (nI n), .int (nI (k + 1)), JJ] [] S (row I (c + 2) (upd f (t - 1 - 1) (jnF (cc - 10100) (f (t - 1 - 1)) (f (t - 1)))))) : V RX2 cX2_value 9 (some .int) "value" ro (rmD 1 0 0) (QM 0 0 Q) 0 0 24 [.ref ((c + 1)), .int a, .int b, .int d, .int (nI t), .ref c, .int (nI n), .int (nI k), JJ] [] S (row I (c + 2) f) := by
  refine v_aload (n := 26) dX2_value_24 rfl rfl ?_
  refine v_iload (n := 28) dX2_value_26 rfl rfl ?_
  refine v_iald (n := 29) (j := k) LL.c3 (ix_nI (by omega) (by omega)) dX2_value_28 rfl ?_
  rw [row_oo (by omega), hcc]
  refine v_istore (n := 31) (al' := [.ref ((c + 1)), .int a, .int b, .int d, .int (nI t), .ref c, .int (nI n), .int (nI k), .int cc]) dX2_value_29 rfl rfl rfl ?_
  refine v_iload (n := 33) dX2_value_31 rfl rfl ?_
  refine v_sipush (n := 36) (v := 10100) dX2_value_33 s_10100 rfl ?_
  refine v_icmp_ge (n := 39) (tgt := 87) dX2_value_36 (by decide) rfl (fun hq36 => ?_) (fun hq36 => ?_)
  · refine v_iload (n := 89) dX2_value_87 rfl rfl ?_
    refine v_sipush (n := 92) (v := 10133) dX2_value_89 s_10133 rfl ?_
    refine v_icmp_ne (n := 95) (tgt := 129) dX2_value_92 (by decide) rfl (fun hq92 => ?_) (fun hq92 => ?_)
    · refine v_iload (n := 131) dX2_value_129 rfl rfl ?_
      refine v_iconst (n := 132) (v := 1) dX2_value_131 c_1 rfl ?_
      refine v_icmp_le (n := 135) (tgt := 172) dX2_value_132 (by decide) rfl (fun hq132 => ?_) (fun hq132 => ?_)
      · exact absurd (le_out (b := 1) hq132 (by omega) (by omega)) (by omega)
      · refine v_iinc (n := 138) (v := (nI t) + (-1)) (al' := [.ref ((c + 1)), .int a, .int b, .int d, .int ((nI t) + (-1)), .ref c, .int (nI n), .int (nI k), .int cc]) dX2_value_135 rfl (by rw [c_m1]) rfl rfl rfl ?_
        rw [nI_m1 (show 1 ≤ t by omega)]
        refine v_aload_n (n := 139) dX2_value_138 rfl rfl rfl ?_
        refine v_getR (n := 142) f_X2_23 rfl LL.s LL.g4 dX2_value_139 rfl ?_
        refine v_iload (n := 144) dX2_value_142 rfl rfl ?_
        refine v_iconst (n := 145) (v := 1) dX2_value_144 c_1 rfl ?_
        refine v_isub (n := 146) dX2_value_145 rfl ?_
        refine v_iload (n := 148) dX2_value_146 rfl rfl ?_
        refine v_sipush (n := 151) (v := 10100) dX2_value_148 s_10100 rfl ?_
        refine v_isub (n := 152) dX2_value_151 rfl ?_
        refine v_aload_n (n := 153) dX2_value_152 rfl rfl rfl ?_
        refine v_getR (n := 156) f_X2_23 rfl LL.s LL.g4 dX2_value_153 rfl ?_
        refine v_iload (n := 158) dX2_value_156 rfl rfl ?_
        refine v_iconst (n := 159) (v := 1) dX2_value_158 c_1 rfl ?_
        refine v_isub (n := 160) dX2_value_159 rfl ?_
        refine v_iald (n := 161) (j := t - 1 - 1) LL.c4 (ix_of (nI_p1 (by omega)) (by omega) (by omega)) dX2_value_160 rfl ?_
        refine v_aload_n (n := 162) dX2_value_161 rfl rfl rfl ?_
        refine v_getR (n := 165) f_X2_23 rfl LL.s LL.g4 dX2_value_162 rfl ?_
        refine v_iload (n := 167) dX2_value_165 rfl rfl ?_
        refine v_iald (n := 168) (j := t - 1) LL.c4 (ix_nI (by omega) (by omega)) dX2_value_167 rfl ?_
        rw [row_s]
        refine v_cSi (n := 171) (x := (jnF (cc - 10100) (f (t - 1 - 1)) (f (t - 1)))) mc_X2_joined l_X2_30 sta_X2_joined k_X2_joined ⟨rfl, rfl⟩ (l8 rfl) ⟨l8 rfl, l8 rfl⟩ rfl rfl (l8 rfl) dX2_value_168 rfl ?_
        refine v_iast (n := 172) (j := t - 1 - 1) LL.c4 (ix_of (nI_p1 (by omega)) (by omega) (by omega)) dX2_value_171 rfl ?_
        refine v_iinc (n := 175) (v := (nI k) + 1) (al' := [.ref ((c + 1)), .int a, .int b, .int d, .int (nI (t - 1)), .ref c, .int (nI n), .int ((nI k) + 1), .int cc]) dX2_value_172 rfl (by rw [c_1]) rfl rfl rfl ?_
        refine v_goto (tgt := 17) dX2_value_175 (by decide) ?_
        refine v_drop 8 (al' := [.ref ((c + 1)), .int a, .int b, .int d, .int (nI (t - 1)), .ref c, .int (nI n), .int ((nI k) + 1), JJ]) rfl ?_
        rw [nI_1, row_setS]
        exact kk
    · exact absurd hq92 h2
  · exact absurd h1 hq36

def faC (key : Nat) (a b d : Int32) : Ar := if key = 1 then fa3 b a d else fa3 a b d
theorem nm_fa {key i : Nat} {a b d : Int32} (hi : i < nfs key) (hk : key < 3) : ¬ 10100 ≤ trC key (nI (10000 + i)) ∧ 10000 ≤ trC key (nI (10000 + i)) ∧ nmF (trC key (nI (10000 + i)) - 10000) a b d = faC key a b d i := by
  have h3 : key = 0 ∨ key = 1 ∨ key = 2 := by omega
  rcases h3 with rfl | rfl | rfl
  · have hi : i < 2 := hi
    have : i = 0 ∨ i = 1 := by omega
    rcases this with rfl | rfl
    · exact ⟨by decide, by decide, rfl⟩
    · exact ⟨by decide, by decide, rfl⟩
  · have hi : i < 3 := hi
    have : i = 0 ∨ i = 1 ∨ i = 2 := by omega
    rcases this with rfl | rfl | rfl
    · exact ⟨by decide, by decide, rfl⟩
    · exact ⟨by decide, by decide, rfl⟩
    · exact ⟨by decide, by decide, rfl⟩
  · have hi : i < 2 := hi
    have : i = 0 ∨ i = 1 := by omega
    rcases this with rfl | rfl
    · exact ⟨by decide, by decide, rfl⟩
    · exact ⟨by decide, by decide, rfl⟩
theorem tr_neg {key : Nat} {c : Int32} (h : c < 0) : trC key c = sgC c := if_pos h
theorem tr_num {key : Nat} {c : Int32} (h : ¬ c < 0) (h2 : ¬ 10000 ≤ c) : trC key c = c := by
  rw [trC, if_neg h, if_neg (fun q => h2 (by rw [q.2]; decide)), if_neg (fun q => h2 (by rw [q.2]; decide))]
theorem nf_lt (key : Nat) : nfs key ≤ 3 := by unfold nfs; split <;> omega

set_option maxRecDepth 100000 in
set_option maxHeartbeats 1000000 in
theorem l_X2_value {ro : Ro} {S : St} {I : In} {c n na key : Nat} {cd : Ar} {a b d : Int32} (LL : LayL S c n na) (hw : WFT cd (nfs key) n na) (hk3 : key < 3) (hcd : ∀ k, k < n → I c k = trC key (cd k)) : ∀ j k, k ≤ n → n < k + j → ∀ f, Stk f (wkL cd (faC key a b d) k) → V RX2 cX2_value 9 (some .int) "value" ro (rmD 1 0 0) (QM 0 0 (fun r S' I' => r = some (.int ((wkL cd (faC key a b d) n).headD 0)) ∧ S' = S ∧ Eqx (fun x => x = c + 2) I I')) 0 0 17 [.ref ((c + 1)), .int a, .int b, .int d, .int (nI (dpt cd k)), .ref c, .int (nI n), .int (nI k), JJ] [] S (row I (c + 2) f) := by
  have hn96 := hw.2.2.1
  have hna96 := hw.2.2.2.2
  intro j
  induction j with
  | zero => intro k hk hc; exact absurd hc (by omega)
  | succ j ih =>
    intro k hk hc f hs
    refine v_iload (n := 19) dX2_value_17 rfl rfl ?_
    refine v_iload (n := 21) dX2_value_19 rfl rfl ?_
    refine v_icmp_ge (n := 24) (tgt := 178) dX2_value_21 (by decide) rfl (fun hq21 => ?_) (fun hq21 => ?_)
    · obtain rfl : k = n := Nat.le_antisymm hk (le_out hq21 (by omega) (by omega))
      have h1 := hw.2.1
      have h2 := hw.2.2.2.1 k (Nat.le_refl _)
      rw [h1] at h2
      refine v_iload (n := 180) dX2_value_178 rfl rfl ?_
      refine v_if_le (n := 183) (tgt := 195) dX2_value_180 (by decide) rfl (fun hq180 => ?_) (fun hq180 => ?_)
      · exact absurd (by rw [← h1]; exact hq180) (by decide : ¬ nI 1 ≤ 0)
      · refine v_aload_n (n := 184) dX2_value_183 rfl rfl rfl ?_
        refine v_getR (n := 187) f_X2_23 rfl LL.s LL.g4 dX2_value_184 rfl ?_
        refine v_iload (n := 189) dX2_value_187 rfl rfl ?_
        refine v_iconst (n := 190) (v := 1) dX2_value_189 c_1 rfl ?_
        refine v_isub (n := 191) dX2_value_190 rfl ?_
        refine v_iald (n := 192) (j := 0) LL.c4 (ix_of (by rw [h1]; rfl) (by omega) (by omega)) dX2_value_191 rfl ?_
        refine v_goto (tgt := 196) dX2_value_192 (by decide) ?_
        exact v_iret rfl ⟨by rw [row_s, wk_end hs (by rw [wkL_len hw k hk, h1])], rfl, fun x hx => row_o hx⟩ ⟨l8 rfl, l8 rfl⟩ dX2_value_196
    · have hlt := nle_in hq21 (by omega) (by omega)
      have hl := wkL_len (fa := faC key a b d) hw k hk
      have hd9 := hw.2.2.2.1 k hk
      have hd9s := hw.2.2.2.1 (k + 1) hlt
      have hcc := hcd k hlt
      obtain ⟨w1, w2⟩ := hw.1 k hlt
      by_cases c0 : cd k < 0
      · rw [tr_neg c0] at hcc
        by_cases c1 : cd k = -10
        · have w3 := (w2 c0).1 c1
          refine vb_X2_value (t := dpt cd k) LL hn96 hna96 hlt hcc hd9 w3 (by rw [c1]; rfl) ?_
          have e : dpt cd (k + 1) = dpt cd k := by rw [dpt, if_pos c0, if_pos c1]
          have e : dpt cd (k + 1) = dpt cd k := by rw [dpt, if_pos c0, if_pos c1]
          have := ih (k + 1) hlt (by omega) (upd f (dpt cd k - 1) (if f (dpt cd k - 1) = 0 then 1 else 0)) (by rw [wkL, wkStep, if_pos c0, if_pos c1]; exact wk_not hs hl w3 rfl)
          rw [e] at this
          exact this
        · have w3 := (w2 c0).2 c1
          refine vc_X2_value (t := dpt cd k) LL hn96 hna96 hlt hcc hd9 w3 (sg_ge _) (sg_133 c1) ?_
          rw [jn_two _ _ _ c1]
          have e : dpt cd (k + 1) = dpt cd k - 1 := by rw [dpt, if_pos c0, if_neg c1]
          have := ih (k + 1) hlt (by omega) (upd f (dpt cd k - 1 - 1) (twoF (cd k) (f (dpt cd k - 1 - 1)) (f (dpt cd k - 1)))) (by rw [wkL, wkStep, if_pos c0, if_neg c1]; exact wk_two hs hl w3)
          rw [e] at this
          exact this
      · have e : dpt cd (k + 1) = dpt cd k + 1 := by rw [dpt, if_neg c0]
        by_cases c1 : 10000 ≤ cd k
        · obtain ⟨i, hi, ei⟩ := w1 c0 c1
          have h3 := nf_lt key
          obtain ⟨n1, n2, n3⟩ := nm_fa (a := a) (b := b) (d := d) hi hk3
          rw [ei] at hcc
          refine va_X2_value (t := dpt cd k) LL hn96 hna96 hlt hcc (by omega) n1 ?_
          rw [if_pos n2, n3]
          have := ih (k + 1) hlt (by omega) (upd f (dpt cd k) (faC key a b d i)) (by rw [wkL, wkStep, if_neg c0, if_pos c1, ei, nI_10k, nI_clamp (by omega)]; exact hl ▸ hs.push)
          rw [e] at this
          exact this
        · rw [tr_num c0 c1] at hcc
          refine va_X2_value (t := dpt cd k) LL hn96 hna96 hlt hcc (by omega) (fun q => c1 (Int32.le_trans (by decide) q)) ?_
          rw [if_neg c1]
          have := ih (k + 1) hlt (by omega) (upd f (dpt cd k) (cd k)) (by rw [wkL, wkStep, if_neg c0, if_neg c1]; exact hl ▸ hs.push)
          rw [e] at this
          exact this

set_option maxRecDepth 100000 in
set_option maxHeartbeats 1000000 in
theorem k_X2_value {ro : Ro} {S : St} {I : In} {c n na key : Nat} {cd : Ar} {a b d : Int32} (LL : LayL S c n na) (hw : WFT cd (nfs key) n na) (hk3 : key < 3) (hcd : ∀ k, k < n → I c k = trC key (cd k)) : Ok mX2_value ro 1 0 0 [.ref (c + 1), .int a, .int b, .int d] S I (fun r S' I' => r = some (.int ((wkL cd (faC key a b d) n).headD 0)) ∧ S' = S ∧ Eqx (fun x => x = c + 2) I I') := by
  refine ok_of (al := [.ref ((c + 1)), .int a, .int b, .int d, JJ, JJ, JJ, JJ, JJ]) (by decide) (l8 rfl) rfl ?_
  refine v_iconst (n := 1) (v := 0) dX2_value_0 c_0 rfl ?_
  refine v_istore (n := 3) (al' := [.ref ((c + 1)), .int a, .int b, .int d, .int 0, JJ, JJ, JJ, JJ]) dX2_value_1 rfl rfl rfl ?_
  refine v_aload_n (n := 4) dX2_value_3 rfl rfl rfl ?_
  refine v_getR (n := 7) f_X2_19 rfl LL.s LL.g3 dX2_value_4 rfl ?_
  refine v_astore (n := 9) (al' := [.ref ((c + 1)), .int a, .int b, .int d, .int 0, .ref c, JJ, JJ, JJ]) dX2_value_7 rfl rfl rfl ?_
  refine v_aload (n := 11) dX2_value_9 rfl rfl ?_
  refine v_alen (n := 12) (t := 0) (by decide) LL.c3 dX2_value_11 rfl ?_
  refine v_istore (n := 14) (al' := [.ref ((c + 1)), .int a, .int b, .int d, .int 0, .ref c, .int (nI n), JJ, JJ]) dX2_value_12 rfl rfl rfl ?_
  refine v_iconst (n := 15) (v := 0) dX2_value_14 c_0 rfl ?_
  refine v_istore (n := 17) (al' := [.ref ((c + 1)), .int a, .int b, .int d, .int 0, .ref c, .int (nI n), .int 0, JJ]) dX2_value_15 rfl rfl rfl ?_
  refine v_I (I' := row I (c + 2) (I (c + 2))) row_same ?_
  exact l_X2_value LL hw hk3 hcd (n + 1) 0 (Nat.zero_le _) (by omega) _ trivial

