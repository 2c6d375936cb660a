/-! ===== the class's Reader: words, signs ===== -/
def LayQ (S : St) (a b : Nat) : Prop := LayRd S a ∧ S.2.1 a 4 = .ref b ∧ S.1 b = some (20, 96) ∧ b ≠ a ∧ b ≠ a + 1
theorem LayQ.s {S : St} {a b : Nat} (h : LayQ S a b) : S.1 a = some (3, 0) := h.1.s
theorem LayQ.g0 {S : St} {a b : Nat} (h : LayQ S a b) : S.2.1 a 0 = .ref (a + 1) := h.1.g0
theorem LayQ.c0 {S : St} {a b : Nat} (h : LayQ S a b) : S.1 (a + 1) = some (20, 96) := h.1.c0
theorem LayQ.g4 {S : St} {a b : Nat} (h : LayQ S a b) : S.2.1 a 4 = .ref b := h.2.1
theorem LayQ.c4 {S : St} {a b : Nat} (h : LayQ S a b) : S.1 b = some (20, 96) := h.2.2.1
def TkC (I : In) (a : Nat) (s : TS) : Prop := I a 6 = nI s.1 ∧ I a 7 = nI s.2.1 ∧ I a 8 = nI s.2.2
def K7 (k : Nat) : Prop := 6 ≤ k ∧ k ≤ 8
def TL (t : Ar) (s : TS) : Prop := s.1 = 1 → srt (t s.2.1) = 1
theorem nx_TL {t : Ar} {n : Nat} {s : TS} : TL t (nxT t n s) := by
  unfold TL nxT
  by_cases h1 : n ≤ spP t n s.2.2
  · rw [if_pos h1]; intro z; cases z
  · rw [if_neg h1]
    by_cases h2 : srt (t (spP t n s.2.2)) = 3
    · rw [if_pos h2]; intro z; cases z
    · rw [if_neg h2]
      intro z
      have z2 : (if (s.1 = 1 ∨ s.1 = 2) ∧ spP t n s.2.2 = s.2.2 then 4 else srt (t (spP t n s.2.2))) = 1 := z
      by_cases q : (s.1 = 1 ∨ s.1 = 2) ∧ spP t n s.2.2 = s.2.2
      · rw [if_pos q] at z2; cases z2
      · rw [if_neg q] at z2; exact z2
def NxQ (S : St) (I : In) (a : Nat) (t : Ar) (n : Nat) (s : TS) : Option Value → St → In → Prop := fun r S' I' => r = none ∧ S' = S ∧ TkC I' a (nxT t n s) ∧ Fr a K7 I I'

set_option maxRecDepth 100000 in
set_option maxHeartbeats 1000000 in
theorem k_X4_sortOf {ro : Ro} {S : St} {I : In} {c : Int32} : Ok mX4_sortOf ro 0 0 0 [.int c] S I (RI (nI (srt c)) S I) := by
  refine ok_of (al := [.int c]) (by decide) (l8 rfl) rfl ?_
  refine v_iload_n (n := 1) dX4_sortOf_0 rfl rfl rfl ?_
  refine v_bipush (n := 3) (v := 97) dX4_sortOf_1 b_97 rfl ?_
  refine v_icmp_lt (n := 6) (tgt := 14) dX4_sortOf_3 (by decide) rfl (fun hq3 => ?_) (fun hq3 => ?_)
  · refine v_iload_n (n := 15) dX4_sortOf_14 rfl rfl rfl ?_
    refine v_bipush (n := 17) (v := 48) dX4_sortOf_15 b_48 rfl ?_
    refine v_icmp_lt (n := 20) (tgt := 30) dX4_sortOf_17 (by decide) rfl (fun hq17 => ?_) (fun hq17 => ?_)
    · refine v_iconst (n := 31) (v := 3) dX4_sortOf_30 c_3 rfl ?_
      exact v_rI rfl (by rw [srt_3 (fun z => Int32.not_lt.mpr (srt_1.mp z).1 hq3) (fun z => Int32.not_lt.mpr (srt_2.mp z).1 hq17)]; rfl) rfl rfl ⟨l8 rfl, l8 rfl⟩ dX4_sortOf_31
    · refine v_iload_n (n := 21) dX4_sortOf_20 rfl rfl rfl ?_
      refine v_bipush (n := 23) (v := 57) dX4_sortOf_21 b_57 rfl ?_
      refine v_icmp_gt (n := 26) (tgt := 30) dX4_sortOf_23 (by decide) rfl (fun hq23 => ?_) (fun hq23 => ?_)
      · refine v_iconst (n := 31) (v := 3) dX4_sortOf_30 c_3 rfl ?_
        exact v_rI rfl (by rw [srt_3 (fun z => Int32.not_lt.mpr (srt_1.mp z).1 hq3) (fun z => Int32.not_lt.mpr (srt_2.mp z).2 hq23)]; rfl) rfl rfl ⟨l8 rfl, l8 rfl⟩ dX4_sortOf_31
      · refine v_iconst (n := 27) (v := 2) dX4_sortOf_26 c_2 rfl ?_
        refine v_goto (tgt := 31) dX4_sortOf_27 (by decide) ?_
        exact v_rI rfl (by rw [srt_2.mpr ⟨Int32.not_lt.mp hq17, Int32.not_lt.mp hq23⟩]; rfl) rfl rfl ⟨l8 rfl, l8 rfl⟩ dX4_sortOf_31
  · refine v_iload_n (n := 7) dX4_sortOf_6 rfl rfl rfl ?_
    refine v_bipush (n := 9) (v := 122) dX4_sortOf_7 b_122 rfl ?_
    refine v_icmp_gt (n := 12) (tgt := 14) dX4_sortOf_9 (by decide) rfl (fun hq9 => ?_) (fun hq9 => ?_)
    · refine v_iload_n (n := 15) dX4_sortOf_14 rfl rfl rfl ?_
      refine v_bipush (n := 17) (v := 48) dX4_sortOf_15 b_48 rfl ?_
      refine v_icmp_lt (n := 20) (tgt := 30) dX4_sortOf_17 (by decide) rfl (fun hq17 => ?_) (fun hq17 => ?_)
      · refine v_iconst (n := 31) (v := 3) dX4_sortOf_30 c_3 rfl ?_
        exact v_rI rfl (by rw [srt_3 (fun z => Int32.not_lt.mpr (srt_1.mp z).2 hq9) (fun z => Int32.not_lt.mpr (srt_2.mp z).1 hq17)]; rfl) rfl rfl ⟨l8 rfl, l8 rfl⟩ dX4_sortOf_31
      · refine v_iload_n (n := 21) dX4_sortOf_20 rfl rfl rfl ?_
        refine v_bipush (n := 23) (v := 57) dX4_sortOf_21 b_57 rfl ?_
        refine v_icmp_gt (n := 26) (tgt := 30) dX4_sortOf_23 (by decide) rfl (fun hq23 => ?_) (fun hq23 => ?_)
        · refine v_iconst (n := 31) (v := 3) dX4_sortOf_30 c_3 rfl ?_
          exact v_rI rfl (by rw [srt_3 (fun z => Int32.not_lt.mpr (srt_1.mp z).2 hq9) (fun z => Int32.not_lt.mpr (srt_2.mp z).2 hq23)]; rfl) rfl rfl ⟨l8 rfl, l8 rfl⟩ dX4_sortOf_31
        · refine v_iconst (n := 27) (v := 2) dX4_sortOf_26 c_2 rfl ?_
          refine v_goto (tgt := 31) dX4_sortOf_27 (by decide) ?_
          exact v_rI rfl (by rw [srt_2.mpr ⟨Int32.not_lt.mp hq17, Int32.not_lt.mp hq23⟩]; rfl) rfl rfl ⟨l8 rfl, l8 rfl⟩ dX4_sortOf_31
    · refine v_iconst (n := 13) (v := 1) dX4_sortOf_12 c_1 rfl ?_
      exact v_rI rfl (by rw [srt_1.mpr ⟨Int32.not_lt.mp hq3, Int32.not_lt.mp hq9⟩]; rfl) rfl rfl ⟨l8 rfl, l8 rfl⟩ dX4_sortOf_13

set_option maxRecDepth 100000 in
set_option maxHeartbeats 1000000 in
theorem l1_X4_next {ro : Ro} {S : St} {I : In} {a b n : Nat} {t : Ar} {Q : Option Value → St → In → Prop} (L : LayQ S a b) (h5 : I a 5 = nI n) (hn : n ≤ 96) (ht : I b = t) {we : Int32} : ∀ k p J, n - p = k → p ≤ n → Fr a K7 I J → J a 7 = nI p → (∀ J2, Fr a K7 I J2 → J2 a 7 = nI (spP t n p) → V RX4 cX4_next 2 (none) "next" ro (rmD 1 0 0) (QM 0 0 Q) 0 0 71 [.ref a, .int we] [] S J2) → V RX4 cX4_next 2 (none) "next" ro (rmD 1 0 0) (QM 0 0 Q) 0 0 33 [.ref a, .int we] [] S J := by
  intro k
  induction k with
  | zero =>
    intro p J hk hpn hJ h7 kk
    have j5 : J a 5 = nI n := by rw [hJ.1 5 (fun z => absurd z.1 (by decide)), h5]
    have jb : J b = t := by rw [hJ.2 _ L.2.2.2.1, ht]
    refine v_aload_n (n := 34) dX4_next_33 rfl rfl rfl ?_
    refine v_getI (n := 37) f_X4_34 rfl L.s dX4_next_34 rfl ?_
    rw [h7]
    refine v_aload_n (n := 38) dX4_next_37 rfl rfl rfl ?_
    refine v_getI (n := 41) f_X4_28 rfl L.s dX4_next_38 rfl ?_
    rw [j5]
    refine v_icmp_ge (n := 44) (tgt := 71) dX4_next_41 (by decide) rfl (fun hq41 => ?_) (fun hq41 => ?_)
    · exact kk J hJ (by rw [sp_no (fun z => absurd (le_out hq41 (by omega) (by omega)) (by omega))]; exact h7)
    · have hlt := nle_in hq41 (by omega) (by omega)
      refine v_aload_n (n := 45) dX4_next_44 rfl rfl rfl ?_
      refine v_getR (n := 48) f_X4_25 rfl L.s L.g4 dX4_next_45 rfl ?_
      refine v_aload_n (n := 49) dX4_next_48 rfl rfl rfl ?_
      refine v_getI (n := 52) f_X4_34 rfl L.s dX4_next_49 rfl ?_
      rw [h7]
      refine v_iald (n := 53) (j := p) L.c4 (ix_nI (by omega) (by decide)) dX4_next_52 rfl ?_
      rw [jb]
      refine v_bipush (n := 55) (v := 32) dX4_next_53 b_32 rfl ?_
      refine v_icmp_ne (n := 58) (tgt := 71) dX4_next_55 (by decide) rfl (fun hq55 => ?_) (fun hq55 => ?_)
      · exact kk J hJ (by rw [sp_no (fun z => hq55 z.2)]; exact h7)
      · refine v_aload_n (n := 59) dX4_next_58 rfl rfl rfl ?_
        refine v_dup (n := 60) dX4_next_59 rfl rfl ?_
        refine v_getI (n := 63) f_X4_34 rfl L.s dX4_next_60 rfl ?_
        rw [h7]
        refine v_iconst (n := 64) (v := 1) dX4_next_63 c_1 rfl ?_
        refine v_iadd (n := 65) dX4_next_64 rfl ?_
        rw [nI_1]
        refine v_putI (n := 68) f_X4_34 rfl (Or.inl rfl) L.s dX4_next_65 rfl ?_
        refine v_goto (tgt := 33) dX4_next_68 (by decide) ?_
        exact absurd hlt (by omega)
  | succ k ih =>
    intro p J hk hpn hJ h7 kk
    have j5 : J a 5 = nI n := by rw [hJ.1 5 (fun z => absurd z.1 (by decide)), h5]
    have jb : J b = t := by rw [hJ.2 _ L.2.2.2.1, ht]
    refine v_aload_n (n := 34) dX4_next_33 rfl rfl rfl ?_
    refine v_getI (n := 37) f_X4_34 rfl L.s dX4_next_34 rfl ?_
    rw [h7]
    refine v_aload_n (n := 38) dX4_next_37 rfl rfl rfl ?_
    refine v_getI (n := 41) f_X4_28 rfl L.s dX4_next_38 rfl ?_
    rw [j5]
    refine v_icmp_ge (n := 44) (tgt := 71) dX4_next_41 (by decide) rfl (fun hq41 => ?_) (fun hq41 => ?_)
    · exact kk J hJ (by rw [sp_no (fun z => absurd (le_out hq41 (by omega) (by omega)) (by omega))]; exact h7)
    · have hlt := nle_in hq41 (by omega) (by omega)
      refine v_aload_n (n := 45) dX4_next_44 rfl rfl rfl ?_
      refine v_getR (n := 48) f_X4_25 rfl L.s L.g4 dX4_next_45 rfl ?_
      refine v_aload_n (n := 49) dX4_next_48 rfl rfl rfl ?_
      refine v_getI (n := 52) f_X4_34 rfl L.s dX4_next_49 rfl ?_
      rw [h7]
      refine v_iald (n := 53) (j := p) L.c4 (ix_nI (by omega) (by decide)) dX4_next_52 rfl ?_
      rw [jb]
      refine v_bipush (n := 55) (v := 32) dX4_next_53 b_32 rfl ?_
      refine v_icmp_ne (n := 58) (tgt := 71) dX4_next_55 (by decide) rfl (fun hq55 => ?_) (fun hq55 => ?_)
      · exact kk J hJ (by rw [sp_no (fun z => hq55 z.2)]; exact h7)
      · refine v_aload_n (n := 59) dX4_next_58 rfl rfl rfl ?_
        refine v_dup (n := 60) dX4_next_59 rfl rfl ?_
        refine v_getI (n := 63) f_X4_34 rfl L.s dX4_next_60 rfl ?_
        rw [h7]
        refine v_iconst (n := 64) (v := 1) dX4_next_63 c_1 rfl ?_
        refine v_iadd (n := 65) dX4_next_64 rfl ?_
        rw [nI_1]
        refine v_putI (n := 68) f_X4_34 rfl (Or.inl rfl) L.s dX4_next_65 rfl ?_
        refine v_goto (tgt := 33) dX4_next_68 (by decide) ?_
        exact ih (p + 1) _ (by omega) (by omega) (hJ.set ⟨by decide, by decide⟩) sI_s (fun J2 a0 b0 => kk J2 a0 (by rw [sp_go hlt hq55]; exact b0))

set_option maxRecDepth 100000 in
set_option maxHeartbeats 1000000 in
theorem l2_X4_next {ro : Ro} {S : St} {I : In} {a b n : Nat} {t : Ar} {Q : Option Value → St → In → Prop} (L : LayQ S a b) (h5 : I a 5 = nI n) (hn : n ≤ 96) (ht : I b = t) {we : Int32} {p c : Nat} (hc : c ≤ 3) : ∀ k q J, n - q = k → q ≤ n → Fr a K7 I J → J a 8 = nI q → J a 7 = nI p → J a 6 = nI c → (∀ J2, Fr a K7 I J2 → J2 a 8 = nI (rnP t n c q) → J2 a 7 = nI p → J2 a 6 = nI c → V RX4 cX4_next 2 (none) "next" ro (rmD 1 0 0) (QM 0 0 Q) 0 0 174 [.ref a, .int we] [] S J2) → V RX4 cX4_next 2 (none) "next" ro (rmD 1 0 0) (QM 0 0 Q) 0 0 131 [.ref a, .int we] [] S J := by
  intro k
  induction k with
  | zero =>
    intro q J hk hqn hJ h8 h7 h6 kk
    have j5 : J a 5 = nI n := by rw [hJ.1 5 (fun z => absurd z.1 (by decide)), h5]
    have jb : J b = t := by rw [hJ.2 _ L.2.2.2.1, ht]
    refine v_aload_n (n := 132) dX4_next_131 rfl rfl rfl ?_
    refine v_getI (n := 135) f_X4_37 rfl L.s dX4_next_132 rfl ?_
    rw [h8]
    refine v_aload_n (n := 136) dX4_next_135 rfl rfl rfl ?_
    refine v_getI (n := 139) f_X4_28 rfl L.s dX4_next_136 rfl ?_
    rw [j5]
    refine v_icmp_ge (n := 142) (tgt := 174) dX4_next_139 (by decide) rfl (fun hq139 => ?_) (fun hq139 => ?_)
    · exact kk J hJ (by rw [rn_no (fun z => absurd (le_out hq139 (by omega) (by omega)) (by omega))]; exact h8) h7 h6
    · have hlt := nle_in hq139 (by omega) (by omega)
      have hsr := srt_123 (t q)
      refine v_aload_n (n := 143) dX4_next_142 rfl rfl rfl ?_
      refine v_getR (n := 146) f_X4_25 rfl L.s L.g4 dX4_next_143 rfl ?_
      refine v_aload_n (n := 147) dX4_next_146 rfl rfl rfl ?_
      refine v_getI (n := 150) f_X4_37 rfl L.s dX4_next_147 rfl ?_
      rw [h8]
      refine v_iald (n := 151) (j := q) L.c4 (ix_nI (by omega) (by decide)) dX4_next_150 rfl ?_
      rw [jb]
      refine v_cSi (n := 154) (x := (nI (srt (t q)))) mc_X4_sortOf l_X4_72 sta_X4_sortOf k_X4_sortOf ⟨rfl, rfl⟩ (l8 rfl) ⟨l8 rfl, l8 rfl⟩ rfl rfl (l8 rfl) dX4_next_151 rfl ?_
      refine v_aload_n (n := 155) dX4_next_154 rfl rfl rfl ?_
      refine v_getI (n := 158) f_X4_31 rfl L.s dX4_next_155 rfl ?_
      rw [h6]
      refine v_icmp_ne (n := 161) (tgt := 174) dX4_next_158 (by decide) rfl (fun hq158 => ?_) (fun hq158 => ?_)
      · exact kk J hJ (by rw [rn_no (fun z => hq158 (by rw [z.2]))]; exact h8) h7 h6
      · refine v_aload_n (n := 162) dX4_next_161 rfl rfl rfl ?_
        refine v_dup (n := 163) dX4_next_162 rfl rfl ?_
        refine v_getI (n := 166) f_X4_37 rfl L.s dX4_next_163 rfl ?_
        rw [h8]
        refine v_iconst (n := 167) (v := 1) dX4_next_166 c_1 rfl ?_
        refine v_iadd (n := 168) dX4_next_167 rfl ?_
        rw [nI_1]
        refine v_putI (n := 171) f_X4_37 rfl (Or.inl rfl) L.s dX4_next_168 rfl ?_
        refine v_goto (tgt := 131) dX4_next_171 (by decide) ?_
        have hse := (nI_eq (a := srt (t q)) (b := c) (by omega) (by omega)).mp hq158
        exact absurd hlt (by omega)
  | succ k ih =>
    intro q J hk hqn hJ h8 h7 h6 kk
    have j5 : J a 5 = nI n := by rw [hJ.1 5 (fun z => absurd z.1 (by decide)), h5]
    have jb : J b = t := by rw [hJ.2 _ L.2.2.2.1, ht]
    refine v_aload_n (n := 132) dX4_next_131 rfl rfl rfl ?_
    refine v_getI (n := 135) f_X4_37 rfl L.s dX4_next_132 rfl ?_
    rw [h8]
    refine v_aload_n (n := 136) dX4_next_135 rfl rfl rfl ?_
    refine v_getI (n := 139) f_X4_28 rfl L.s dX4_next_136 rfl ?_
    rw [j5]
    refine v_icmp_ge (n := 142) (tgt := 174) dX4_next_139 (by decide) rfl (fun hq139 => ?_) (fun hq139 => ?_)
    · exact kk J hJ (by rw [rn_no (fun z => absurd (le_out hq139 (by omega) (by omega)) (by omega))]; exact h8) h7 h6
    · have hlt := nle_in hq139 (by omega) (by omega)
      have hsr := srt_123 (t q)
      refine v_aload_n (n := 143) dX4_next_142 rfl rfl rfl ?_
      refine v_getR (n := 146) f_X4_25 rfl L.s L.g4 dX4_next_143 rfl ?_
      refine v_aload_n (n := 147) dX4_next_146 rfl rfl rfl ?_
      refine v_getI (n := 150) f_X4_37 rfl L.s dX4_next_147 rfl ?_
      rw [h8]
      refine v_iald (n := 151) (j := q) L.c4 (ix_nI (by omega) (by decide)) dX4_next_150 rfl ?_
      rw [jb]
      refine v_cSi (n := 154) (x := (nI (srt (t q)))) mc_X4_sortOf l_X4_72 sta_X4_sortOf k_X4_sortOf ⟨rfl, rfl⟩ (l8 rfl) ⟨l8 rfl, l8 rfl⟩ rfl rfl (l8 rfl) dX4_next_151 rfl ?_
      refine v_aload_n (n := 155) dX4_next_154 rfl rfl rfl ?_
      refine v_getI (n := 158) f_X4_31 rfl L.s dX4_next_155 rfl ?_
      rw [h6]
      refine v_icmp_ne (n := 161) (tgt := 174) dX4_next_158 (by decide) rfl (fun hq158 => ?_) (fun hq158 => ?_)
      · exact kk J hJ (by rw [rn_no (fun z => hq158 (by rw [z.2]))]; exact h8) h7 h6
      · refine v_aload_n (n := 162) dX4_next_161 rfl rfl rfl ?_
        refine v_dup (n := 163) dX4_next_162 rfl rfl ?_
        refine v_getI (n := 166) f_X4_37 rfl L.s dX4_next_163 rfl ?_
        rw [h8]
        refine v_iconst (n := 167) (v := 1) dX4_next_166 c_1 rfl ?_
        refine v_iadd (n := 168) dX4_next_167 rfl ?_
        rw [nI_1]
        refine v_putI (n := 171) f_X4_37 rfl (Or.inl rfl) L.s dX4_next_168 rfl ?_
        refine v_goto (tgt := 131) dX4_next_171 (by decide) ?_
        have hse := (nI_eq (a := srt (t q)) (b := c) (by omega) (by omega)).mp hq158
        exact ih (q + 1) _ (by omega) (by omega) (hJ.set ⟨by decide, by decide⟩) sI_s (by rw [sI_k (by decide)]; exact h7) (by rw [sI_k (by decide)]; exact h6) (fun J2 a0 b0 c0 d0 => kk J2 a0 (by rw [rn_go hlt hse]; exact b0) c0 d0)

set_option maxRecDepth 100000 in
set_option maxHeartbeats 1000000 in
theorem e_X4_next {ro : Ro} {S : St} {I : In} {a b n : Nat} {t : Ar} (L : LayQ S a b) (h5 : I a 5 = nI n) (hn : n ≤ 96) (ht : I b = t) {we : Int32} {p c : Nat} {s : TS} {J : In} (hsp : spP t n s.2.2 = p) (hlt : p < n) (hc : srt (t p) = c) (h3 : ¬ c = 3) (hwe : nI p = we ↔ ((s.1 = 1 ∨ s.1 = 2) ∧ p = s.2.2)) (hJ : Fr a K7 I J) (h8 : J a 8 = nI (rnP t n c p)) (h7 : J a 7 = nI p) (h6 : J a 6 = nI c) : V RX4 cX4_next 2 (none) "next" ro (rmD 1 0 0) (QM 0 0 (NxQ S I a t n s)) 0 0 174 [.ref a, .int we] [] S J := by
  refine v_aload_n (n := 175) dX4_next_174 rfl rfl rfl ?_
  refine v_getI (n := 178) f_X4_34 rfl L.s dX4_next_175 rfl ?_
  rw [h7]
  refine v_iload_n (n := 179) dX4_next_178 rfl rfl rfl ?_
  refine v_icmp_ne (n := 182) (tgt := 187) dX4_next_179 (by decide) rfl (fun hq179 => ?_) (fun hq179 => ?_)
  · refine v_vret rfl ⟨rfl, rfl, ?_, hJ⟩ ⟨l8 rfl, l8 rfl⟩ dX4_next_187
    rw [nx_w hsp hlt hc h3 (decide_eq_false (fun z => hq179 (hwe.mpr z))).symm]
    exact ⟨h6, h7, h8⟩
  · refine v_aload_n (n := 183) dX4_next_182 rfl rfl rfl ?_
    refine v_iconst (n := 184) (v := 4) dX4_next_183 c_4 rfl ?_
    refine v_putI (n := 187) f_X4_31 rfl (Or.inl rfl) L.s dX4_next_184 rfl ?_
    refine v_vret rfl ⟨rfl, rfl, ?_, hJ.set ⟨by decide, by decide⟩⟩ ⟨l8 rfl, l8 rfl⟩ dX4_next_187
    rw [nx_w hsp hlt hc h3 (decide_eq_true (hwe.mp hq179)).symm]
    exact ⟨by rw [sI_s]; rfl, by rw [sI_k (by decide)]; exact h7, by rw [sI_k (by decide)]; exact h8⟩

set_option maxRecDepth 100000 in
set_option maxHeartbeats 1000000 in
theorem f_X4_next {ro : Ro} {S : St} {I : In} {a b n : Nat} {t : Ar} (L : LayQ S a b) (h5 : I a 5 = nI n) (hn : n ≤ 96) (ht : I b = t) {we : Int32} {p : Nat} {s : TS} {J : In} (hsp : spP t n s.2.2 = p) (hpn : p ≤ n) (hwe : nI p = we ↔ ((s.1 = 1 ∨ s.1 = 2) ∧ p = s.2.2)) (hJ : Fr a K7 I J) (h7 : J a 7 = nI p) : V RX4 cX4_next 2 (none) "next" ro (rmD 1 0 0) (QM 0 0 (NxQ S I a t n s)) 0 0 71 [.ref a, .int we] [] S J := by
  have j5 : J a 5 = nI n := by rw [hJ.1 5 (fun z => absurd z.1 (by decide)), h5]
  have jb : J b = t := by rw [hJ.2 _ L.2.2.2.1, ht]
  refine v_aload_n (n := 72) dX4_next_71 rfl rfl rfl ?_
  refine v_aload_n (n := 73) dX4_next_72 rfl rfl rfl ?_
  refine v_getI (n := 76) f_X4_34 rfl L.s dX4_next_73 rfl ?_
  rw [h7]
  refine v_putI (n := 79) f_X4_37 rfl (Or.inl rfl) L.s dX4_next_76 rfl ?_
  refine v_aload_n (n := 80) dX4_next_79 rfl rfl rfl ?_
  refine v_getI (n := 83) f_X4_34 rfl L.s dX4_next_80 rfl ?_
  rw [sI_k (by decide), h7]
  refine v_aload_n (n := 84) dX4_next_83 rfl rfl rfl ?_
  refine v_getI (n := 87) f_X4_28 rfl L.s dX4_next_84 rfl ?_
  rw [sI_k (by decide), j5]
  refine v_icmp_lt (n := 90) (tgt := 96) dX4_next_87 (by decide) rfl (fun hq87 => ?_) (fun hq87 => ?_)
  · have hlt := (nI_ltI (by omega) (by omega)).mp hq87
    have hsr := srt_123 (t p)
    refine v_aload_n (n := 97) dX4_next_96 rfl rfl rfl ?_
    refine v_aload_n (n := 98) dX4_next_97 rfl rfl rfl ?_
    refine v_getR (n := 101) f_X4_25 rfl L.s L.g4 dX4_next_98 rfl ?_
    refine v_aload_n (n := 102) dX4_next_101 rfl rfl rfl ?_
    refine v_getI (n := 105) f_X4_34 rfl L.s dX4_next_102 rfl ?_
    rw [sI_k (by decide), h7]
    refine v_iald (n := 106) (j := p) L.c4 (ix_nI (by omega) (by decide)) dX4_next_105 rfl ?_
    rw [setI_ne L.2.2.2.1, jb]
    refine v_cSi (n := 109) (x := (nI (srt (t p)))) mc_X4_sortOf l_X4_72 sta_X4_sortOf k_X4_sortOf ⟨rfl, rfl⟩ (l8 rfl) ⟨l8 rfl, l8 rfl⟩ rfl rfl (l8 rfl) dX4_next_106 rfl ?_
    refine v_putI (n := 112) f_X4_31 rfl (Or.inl rfl) L.s dX4_next_109 rfl ?_
    refine v_aload_n (n := 113) dX4_next_112 rfl rfl rfl ?_
    refine v_dup (n := 114) dX4_next_113 rfl rfl ?_
    refine v_getI (n := 117) f_X4_37 rfl L.s dX4_next_114 rfl ?_
    rw [sI_k (by decide), sI_s]
    refine v_iconst (n := 118) (v := 1) dX4_next_117 c_1 rfl ?_
    refine v_iadd (n := 119) dX4_next_118 rfl ?_
    rw [nI_1]
    refine v_putI (n := 122) f_X4_37 rfl (Or.inl rfl) L.s dX4_next_119 rfl ?_
    refine v_aload_n (n := 123) dX4_next_122 rfl rfl rfl ?_
    refine v_getI (n := 126) f_X4_31 rfl L.s dX4_next_123 rfl ?_
    rw [sI_k (by decide), sI_s]
    refine v_iconst (n := 127) (v := 3) dX4_next_126 c_3 rfl ?_
    refine v_icmp_ne (n := 130) (tgt := 131) dX4_next_127 (by decide) rfl (fun hq127 => ?_) (fun hq127 => ?_)
    · refine l2_X4_next L h5 hn ht (p := p) (c := srt (t p)) (by omega) (n - (p + 1)) (p + 1) _ rfl (by omega) (((hJ.set (k := 8) ⟨by decide, by decide⟩).set (k := 6) ⟨by decide, by decide⟩).set ⟨by decide, by decide⟩) sI_s (by rw [sI_k (by decide), sI_k (by decide), sI_k (by decide)]; exact h7) (by rw [sI_k (by decide), sI_s]) (fun J2 a0 b0 c0 d0 => ?_)
      exact e_X4_next L h5 hn ht hsp hlt rfl (fun z => hq127 (by rw [z]; rfl)) hwe a0 (by rw [rn_go hlt rfl]; exact b0) c0 d0
    · refine v_vret rfl ⟨rfl, rfl, ?_, ((hJ.set (k := 8) ⟨by decide, by decide⟩).set (k := 6) ⟨by decide, by decide⟩).set ⟨by decide, by decide⟩⟩ ⟨l8 rfl, l8 rfl⟩ dX4_next_130
      rw [nx_3 hsp hlt ((nI_eq (b := 3) (by omega) (by decide)).mp hq127)]
      exact ⟨by rw [sI_k (by decide), sI_s]; exact hq127, by rw [sI_k (by decide), sI_k (by decide), sI_k (by decide)]; exact h7, sI_s⟩
  · have hge : n ≤ p := by
      rcases Nat.lt_or_ge p n with q | q
      · exact absurd (nI_lt q (by omega)) hq87
      · exact q
    refine v_aload_n (n := 91) dX4_next_90 rfl rfl rfl ?_
    refine v_iconst (n := 92) (v := 0) dX4_next_91 c_0 rfl ?_
    refine v_putI (n := 95) f_X4_31 rfl (Or.inl rfl) L.s dX4_next_92 rfl ?_
    refine v_vret rfl ⟨rfl, rfl, ?_, (hJ.set (k := 8) ⟨by decide, by decide⟩).set ⟨by decide, by decide⟩⟩ ⟨l8 rfl, l8 rfl⟩ dX4_next_95
    rw [nx_0 hsp hge]
    exact ⟨by rw [sI_s]; rfl, by rw [sI_k (by decide), sI_k (by decide)]; exact h7, by rw [sI_k (by decide), sI_s]⟩

theorem m1_lt {k : Nat} : (-1 : Int32).toInt < (k : Int) := by
  have : (-1 : Int32).toInt = -1 := by decide
  omega
set_option maxRecDepth 100000 in
set_option maxHeartbeats 1000000 in
theorem k_X4_next0 {ro : Ro} {S : St} {I : In} {a b n : Nat} {t : Ar} {s : TS} (L : LayQ S a b) (h5 : I a 5 = nI n) (hn : n ≤ 96) (ht : I b = t) (h6 : I a 6 = nI s.1) (h8 : I a 8 = nI s.2.2) (hw : TW t n s) : Ok mX4_next ro 1 0 0 [.ref a] S I (NxQ S I a t n s) := by
  refine ok_of (al := [.ref a, JJ]) (by decide) (l8 rfl) rfl ?_
  refine v_aload_n (n := 1) dX4_next_0 rfl rfl rfl ?_
  refine v_getI (n := 4) f_X4_31 rfl L.s dX4_next_1 rfl ?_
  rw [h6]
  refine v_iconst (n := 5) (v := 1) dX4_next_4 c_1 rfl ?_
  refine v_icmp_eq (n := 8) (tgt := 16) dX4_next_5 (by decide) rfl (fun hq5 => ?_) (fun hq5 => ?_)
  · refine v_aload_n (n := 17) dX4_next_16 rfl rfl rfl ?_
    refine v_getI (n := 20) f_X4_37 rfl L.s dX4_next_17 rfl ?_
    rw [h8]
    refine v_goto (tgt := 24) dX4_next_20 (by decide) ?_
    refine v_istore_n (n := 25) (al' := [.ref a, .int (nI s.2.2)]) dX4_next_24 rfl rfl rfl rfl ?_
    refine v_aload_n (n := 26) dX4_next_25 rfl rfl rfl ?_
    refine v_aload_n (n := 27) dX4_next_26 rfl rfl rfl ?_
    refine v_getI (n := 30) f_X4_37 rfl L.s dX4_next_27 rfl ?_
    rw [h8]
    refine v_putI (n := 33) f_X4_34 rfl (Or.inl rfl) L.s dX4_next_30 rfl ?_
    refine l1_X4_next L h5 hn ht (n - s.2.2) s.2.2 _ rfl hw.2.1 (Fr.rf.set ⟨by decide, by decide⟩) sI_s (fun J2 a0 b0 => ?_)
    obtain ⟨hp1, hp2⟩ := sp_le (t := t) (n - s.2.2) s.2.2 rfl hw.2.1
    have hs4 := hw.2.2.1
    exact f_X4_next L h5 hn ht rfl hp2 (clo (t := t) (n := n) hp1 (by omega) (fun _ => rfl) (fun z => absurd (Or.inl ((nI_eq (b := 1) (by omega) (by decide)).mp hq5)) z)) a0 b0
  · refine v_aload_n (n := 9) dX4_next_8 rfl rfl rfl ?_
    refine v_getI (n := 12) f_X4_31 rfl L.s dX4_next_9 rfl ?_
    rw [h6]
    refine v_iconst (n := 13) (v := 2) dX4_next_12 c_2 rfl ?_
    refine v_icmp_ne (n := 16) (tgt := 23) dX4_next_13 (by decide) rfl (fun hq13 => ?_) (fun hq13 => ?_)
    · refine v_iconst (n := 24) (v := (-1)) dX4_next_23 c_m1 rfl ?_
      refine v_istore_n (n := 25) (al' := [.ref a, .int (-1)]) dX4_next_24 rfl rfl rfl rfl ?_
      refine v_aload_n (n := 26) dX4_next_25 rfl rfl rfl ?_
      refine v_aload_n (n := 27) dX4_next_26 rfl rfl rfl ?_
      refine v_getI (n := 30) f_X4_37 rfl L.s dX4_next_27 rfl ?_
      rw [h8]
      refine v_putI (n := 33) f_X4_34 rfl (Or.inl rfl) L.s dX4_next_30 rfl ?_
      refine l1_X4_next L h5 hn ht (n - s.2.2) s.2.2 _ rfl hw.2.1 (Fr.rf.set ⟨by decide, by decide⟩) sI_s (fun J2 a0 b0 => ?_)
      obtain ⟨hp1, hp2⟩ := sp_le (t := t) (n - s.2.2) s.2.2 rfl hw.2.1
      have hs4 := hw.2.2.1
      exact f_X4_next L h5 hn ht rfl hp2 (clo (t := t) (n := n) hp1 (by omega) (fun z => absurd z (fun y => y.elim (fun y => hq5 (by rw [y]; rfl)) (fun y => hq13 (by rw [y]; rfl)))) (fun _ => m1_lt)) a0 b0
    · refine v_aload_n (n := 17) dX4_next_16 rfl rfl rfl ?_
      refine v_getI (n := 20) f_X4_37 rfl L.s dX4_next_17 rfl ?_
      rw [h8]
      refine v_goto (tgt := 24) dX4_next_20 (by decide) ?_
      refine v_istore_n (n := 25) (al' := [.ref a, .int (nI s.2.2)]) dX4_next_24 rfl rfl rfl rfl ?_
      refine v_aload_n (n := 26) dX4_next_25 rfl rfl rfl ?_
      refine v_aload_n (n := 27) dX4_next_26 rfl rfl rfl ?_
      refine v_getI (n := 30) f_X4_37 rfl L.s dX4_next_27 rfl ?_
      rw [h8]
      refine v_putI (n := 33) f_X4_34 rfl (Or.inl rfl) L.s dX4_next_30 rfl ?_
      refine l1_X4_next L h5 hn ht (n - s.2.2) s.2.2 _ rfl hw.2.1 (Fr.rf.set ⟨by decide, by decide⟩) sI_s (fun J2 a0 b0 => ?_)
      obtain ⟨hp1, hp2⟩ := sp_le (t := t) (n - s.2.2) s.2.2 rfl hw.2.1
      have hs4 := hw.2.2.1
      exact f_X4_next L h5 hn ht rfl hp2 (clo (t := t) (n := n) hp1 (by omega) (fun _ => rfl) (fun z => absurd (Or.inr ((nI_eq (b := 2) (by omega) (by decide)).mp hq13)) z)) a0 b0

theorem k_X4_next {ro : Ro} {S : St} {I : In} {a b n : Nat} {t : Ar} {s : TS} (L : LayQ S a b) (h5 : I a 5 = nI n) (hn : n ≤ 96) (ht : I b = t) (hT : TkC I a s) (hw : TW t n s) : Ok mX4_next ro 1 0 0 [.ref a] S I (NxQ S I a t n s) := k_X4_next0 L h5 hn ht hT.1 hT.2.2 hw
set_option maxRecDepth 100000 in
set_option maxHeartbeats 1000000 in
theorem k_X4_byteAtHand {ro : Ro} {S : St} {I : In} {a b n : Nat} {t : Ar} {s : TS} (L : LayQ S a b) (h5 : I a 5 = nI n) (hn : n ≤ 96) (ht : I b = t) (hT : TkC I a s) (hw : TW t n s) : Ok mX4_byteAtHand ro 0 0 0 [.ref a] S I (RI (if s.2.1 < n then t s.2.1 else 0) S I) := by
  refine ok_of (al := [.ref a]) (by decide) (l8 rfl) rfl ?_
  refine v_aload_n (n := 1) dX4_byteAtHand_0 rfl rfl rfl ?_
  refine v_getI (n := 4) f_X4_34 rfl L.s dX4_byteAtHand_1 rfl ?_
  rw [hT.2.1]
  refine v_if_lt (n := 7) (tgt := 30) dX4_byteAtHand_4 (by decide) rfl (fun hq4 => ?_) (fun hq4 => ?_)
  · exact absurd hq4 (nI_nlt0 (by have := hw.fle; omega))
  · refine v_aload_n (n := 8) dX4_byteAtHand_7 rfl rfl rfl ?_
    refine v_getI (n := 11) f_X4_34 rfl L.s dX4_byteAtHand_8 rfl ?_
    rw [hT.2.1]
    refine v_aload_n (n := 12) dX4_byteAtHand_11 rfl rfl rfl ?_
    refine v_getI (n := 15) f_X4_28 rfl L.s dX4_byteAtHand_12 rfl ?_
    rw [h5]
    refine v_icmp_ge (n := 18) (tgt := 30) dX4_byteAtHand_15 (by decide) rfl (fun hq15 => ?_) (fun hq15 => ?_)
    · refine v_iconst (n := 31) (v := 0) dX4_byteAtHand_30 c_0 rfl ?_
      exact v_rI rfl (by rw [if_neg (Nat.not_lt.mpr (le_out hq15 (by omega) (by have := hw.fle; omega)))]) rfl rfl ⟨l8 rfl, l8 rfl⟩ dX4_byteAtHand_31
    · have hlt := nle_in hq15 (by omega) (by have := hw.fle; omega)
      refine v_aload_n (n := 19) dX4_byteAtHand_18 rfl rfl rfl ?_
      refine v_getR (n := 22) f_X4_25 rfl L.s L.g4 dX4_byteAtHand_19 rfl ?_
      refine v_aload_n (n := 23) dX4_byteAtHand_22 rfl rfl rfl ?_
      refine v_getI (n := 26) f_X4_34 rfl L.s dX4_byteAtHand_23 rfl ?_
      rw [hT.2.1]
      refine v_iald (n := 27) (j := s.2.1) L.c4 (ix_nI (by omega) (by decide)) dX4_byteAtHand_26 rfl ?_
      rw [ht]
      refine v_goto (tgt := 31) dX4_byteAtHand_27 (by decide) ?_
      exact v_rI rfl (by rw [if_pos hlt]) rfl rfl ⟨l8 rfl, l8 rfl⟩ dX4_byteAtHand_31

set_option maxRecDepth 100000 in
set_option maxHeartbeats 1000000 in
theorem k_X4_isSign {ro : Ro} {S : St} {I : In} {a b n : Nat} {t : Ar} {s : TS} {c : Int32} (L : LayQ S a b) (h5 : I a 5 = nI n) (hn : n ≤ 96) (ht : I b = t) (hT : TkC I a s) (hw : TW t n s) : Ok mX4_isSign ro 1 0 0 [.ref a, .int c] S I (RI (bi (decide (s.1 = 3 ∧ t s.2.1 = c))) S I) := by
  refine ok_of (al := [.ref a, .int c]) (by decide) (l8 rfl) rfl ?_
  refine v_aload_n (n := 1) dX4_isSign_0 rfl rfl rfl ?_
  refine v_getI (n := 4) f_X4_31 rfl L.s dX4_isSign_1 rfl ?_
  rw [hT.1]
  refine v_iconst (n := 5) (v := 3) dX4_isSign_4 c_3 rfl ?_
  refine v_icmp_ne (n := 8) (tgt := 20) dX4_isSign_5 (by decide) rfl (fun hq5 => ?_) (fun hq5 => ?_)
  · refine v_iconst (n := 21) (v := 0) dX4_isSign_20 c_0 rfl ?_
    exact v_rZ rfl (by rw [decide_eq_false (fun z => hq5 (by rw [z.1]; rfl))]; rfl) rfl rfl ⟨l8 rfl, l8 rfl⟩ dX4_isSign_21
  · have hs4 := hw.2.2.1
    have h3 := (nI_eq (b := 3) (by omega) (by decide)).mp hq5
    refine v_aload_n (n := 9) dX4_isSign_8 rfl rfl rfl ?_
    refine v_cVi (n := 12) (x := (if s.2.1 < n then t s.2.1 else 0)) mc_X4_byteAtHand l_X4_76 iv_X4_byteAtHand se_X4_byteAtHand (ci := 3) ⟨by decide, rfl⟩ L.s (k_X4_byteAtHand L h5 hn ht hT hw) ⟨rfl, rfl⟩ (l8 rfl) ⟨l8 rfl, l8 rfl⟩ rfl rfl (l8 rfl) dX4_isSign_9 rfl ?_
    rw [if_pos (hw.fL (by omega))]
    refine v_iload_n (n := 13) dX4_isSign_12 rfl rfl rfl ?_
    refine v_icmp_ne (n := 16) (tgt := 20) dX4_isSign_13 (by decide) rfl (fun hq13 => ?_) (fun hq13 => ?_)
    · refine v_iconst (n := 21) (v := 0) dX4_isSign_20 c_0 rfl ?_
      exact v_rZ rfl (by rw [decide_eq_false (fun z => hq13 z.2)]; rfl) rfl rfl ⟨l8 rfl, l8 rfl⟩ dX4_isSign_21
    · refine v_iconst (n := 17) (v := 1) dX4_isSign_16 c_1 rfl ?_
      refine v_goto (tgt := 21) dX4_isSign_17 (by decide) ?_
      exact v_rZ rfl (by rw [decide_eq_true ⟨h3, hq13⟩]; rfl) rfl rfl ⟨l8 rfl, l8 rfl⟩ dX4_isSign_21

def lvI (t : Ar) (s : TS) : Int32 := if lvT t s = 9 then -1 else nI (lvT t s)
set_option maxRecDepth 100000 in
set_option maxHeartbeats 1000000 in
theorem k_X4_levelAtHand {ro : Ro} {S : St} {I : In} {a b n : Nat} {t : Ar} {s : TS} (L : LayQ S a b) (h5 : I a 5 = nI n) (hn : n ≤ 96) (ht : I b = t) (hT : TkC I a s) (hw : TW t n s) : Ok mX4_levelAtHand ro 1 0 0 [.ref a] S I (RI (lvI t s) S I) := by
  refine ok_of (al := [.ref a]) (by decide) (l8 rfl) rfl ?_
  refine v_aload_n (n := 1) dX4_levelAtHand_0 rfl rfl rfl ?_
  refine v_getI (n := 4) f_X4_31 rfl L.s dX4_levelAtHand_1 rfl ?_
  rw [hT.1]
  refine v_iconst (n := 5) (v := 3) dX4_levelAtHand_4 c_3 rfl ?_
  refine v_icmp_eq (n := 8) (tgt := 10) dX4_levelAtHand_5 (by decide) rfl (fun hq5 => ?_) (fun hq5 => ?_)
  · have hs4 := hw.2.2.1
    have h3 := (nI_eq (b := 3) (by omega) (by decide)).mp hq5
    refine v_aload_n (n := 11) dX4_levelAtHand_10 rfl rfl rfl ?_
    refine v_cVi (n := 14) (x := (if s.2.1 < n then t s.2.1 else 0)) mc_X4_byteAtHand l_X4_76 iv_X4_byteAtHand se_X4_byteAtHand (ci := 3) ⟨by decide, rfl⟩ L.s (k_X4_byteAtHand L h5 hn ht hT hw) ⟨rfl, rfl⟩ (l8 rfl) ⟨l8 rfl, l8 rfl⟩ rfl rfl (l8 rfl) dX4_levelAtHand_11 rfl ?_
    rw [if_pos (hw.fL (by omega))]
    by_cases hw14_0 : (t s.2.1) = 38
    · refine v_lookup (tgt := 98) (off := 84) dX4_levelAtHand_14 (by decide) (by rw [hw14_0, t_38]; decide) (by decide) ?_
      refine v_iconst (n := 99) (v := 1) dX4_levelAtHand_98 c_1 rfl ?_
      exact v_rI rfl (by rw [lvI, lvT, if_pos h3, hw14_0]; rfl) rfl rfl ⟨l8 rfl, l8 rfl⟩ dX4_levelAtHand_99
    by_cases hw14_1 : (t s.2.1) = 42
    · refine v_lookup (tgt := 104) (off := 90) dX4_levelAtHand_14 (by decide) (by rw [hw14_1, t_42]; decide) (by decide) ?_
      refine v_iconst (n := 105) (v := 4) dX4_levelAtHand_104 c_4 rfl ?_
      exact v_rI rfl (by rw [lvI, lvT, if_pos h3, hw14_1]; rfl) rfl rfl ⟨l8 rfl, l8 rfl⟩ dX4_levelAtHand_105
    by_cases hw14_2 : (t s.2.1) = 43
    · refine v_lookup (tgt := 102) (off := 88) dX4_levelAtHand_14 (by decide) (by rw [hw14_2, t_43]; decide) (by decide) ?_
      refine v_iconst (n := 103) (v := 3) dX4_levelAtHand_102 c_3 rfl ?_
      exact v_rI rfl (by rw [lvI, lvT, if_pos h3, hw14_2]; rfl) rfl rfl ⟨l8 rfl, l8 rfl⟩ dX4_levelAtHand_103
    by_cases hw14_3 : (t s.2.1) = 45
    · refine v_lookup (tgt := 102) (off := 88) dX4_levelAtHand_14 (by decide) (by rw [hw14_3, t_45]; decide) (by decide) ?_
      refine v_iconst (n := 103) (v := 3) dX4_levelAtHand_102 c_3 rfl ?_
      exact v_rI rfl (by rw [lvI, lvT, if_pos h3, hw14_3]; rfl) rfl rfl ⟨l8 rfl, l8 rfl⟩ dX4_levelAtHand_103
    by_cases hw14_4 : (t s.2.1) = 47
    · refine v_lookup (tgt := 104) (off := 90) dX4_levelAtHand_14 (by decide) (by rw [hw14_4, t_47]; decide) (by decide) ?_
      refine v_iconst (n := 105) (v := 4) dX4_levelAtHand_104 c_4 rfl ?_
      exact v_rI rfl (by rw [lvI, lvT, if_pos h3, hw14_4]; rfl) rfl rfl ⟨l8 rfl, l8 rfl⟩ dX4_levelAtHand_105
    by_cases hw14_5 : (t s.2.1) = 60
    · refine v_lookup (tgt := 100) (off := 86) dX4_levelAtHand_14 (by decide) (by rw [hw14_5, t_60]; decide) (by decide) ?_
      refine v_iconst (n := 101) (v := 2) dX4_levelAtHand_100 c_2 rfl ?_
      exact v_rI rfl (by rw [lvI, lvT, if_pos h3, hw14_5]; rfl) rfl rfl ⟨l8 rfl, l8 rfl⟩ dX4_levelAtHand_101
    by_cases hw14_6 : (t s.2.1) = 61
    · refine v_lookup (tgt := 100) (off := 86) dX4_levelAtHand_14 (by decide) (by rw [hw14_6, t_61]; decide) (by decide) ?_
      refine v_iconst (n := 101) (v := 2) dX4_levelAtHand_100 c_2 rfl ?_
      exact v_rI rfl (by rw [lvI, lvT, if_pos h3, hw14_6]; rfl) rfl rfl ⟨l8 rfl, l8 rfl⟩ dX4_levelAtHand_101
    by_cases hw14_7 : (t s.2.1) = 62
    · refine v_lookup (tgt := 100) (off := 86) dX4_levelAtHand_14 (by decide) (by rw [hw14_7, t_62]; decide) (by decide) ?_
      refine v_iconst (n := 101) (v := 2) dX4_levelAtHand_100 c_2 rfl ?_
      exact v_rI rfl (by rw [lvI, lvT, if_pos h3, hw14_7]; rfl) rfl rfl ⟨l8 rfl, l8 rfl⟩ dX4_levelAtHand_101
    by_cases hw14_8 : (t s.2.1) = 124
    · refine v_lookup (tgt := 96) (off := 82) dX4_levelAtHand_14 (by decide) (by rw [hw14_8, t_124]; decide) (by decide) ?_
      refine v_iconst (n := 97) (v := 0) dX4_levelAtHand_96 c_0 rfl ?_
      exact v_rI rfl (by rw [lvI, lvT, if_pos h3, hw14_8]; rfl) rfl rfl ⟨l8 rfl, l8 rfl⟩ dX4_levelAtHand_97
    refine v_lookup (tgt := 106) (off := 92) dX4_levelAtHand_14 (by decide) (by simp only [Op.lookupswitch.offset_cons, if_neg (lk_ne hw14_0 t_38), if_neg (lk_ne hw14_1 t_42), if_neg (lk_ne hw14_2 t_43), if_neg (lk_ne hw14_3 t_45), if_neg (lk_ne hw14_4 t_47), if_neg (lk_ne hw14_5 t_60), if_neg (lk_ne hw14_6 t_61), if_neg (lk_ne hw14_7 t_62), if_neg (lk_ne hw14_8 t_124)]; rfl) (by decide) ?_
    refine v_iconst (n := 107) (v := (-1)) dX4_levelAtHand_106 c_m1 rfl ?_
    exact v_rI rfl (by rw [lvI, lvT, if_pos h3, lvB, if_neg hw14_8, if_neg hw14_0, if_neg hw14_5, if_neg hw14_6, if_neg hw14_7, if_neg hw14_2, if_neg hw14_3, if_neg hw14_1, if_neg hw14_4, if_pos rfl]) rfl rfl ⟨l8 rfl, l8 rfl⟩ dX4_levelAtHand_107
  · refine v_iconst (n := 9) (v := (-1)) dX4_levelAtHand_8 c_m1 rfl ?_
    exact v_rI rfl (by rw [lvI, lvT, if_neg (show ¬ s.1 = 3 from fun z => hq5 (by rw [z]; rfl)), if_pos rfl]) rfl rfl ⟨l8 rfl, l8 rfl⟩ dX4_levelAtHand_9

set_option maxRecDepth 100000 in
set_option maxHeartbeats 1000000 in
theorem k_X4_put {ro : Ro} {S : St} {I : In} {a b k : Nat} {c : Int32} (L : LayQ S a b) (h1 : I a 1 = nI k) (hk : k < 96) : Ok mX4_put ro 0 0 0 [.ref a, .int c] S I (RV S (setI (setI I (a + 1) k c) a 1 (nI (k + 1)))) := by
  refine ok_of (al := [.ref a, .int c]) (by decide) (l8 rfl) rfl ?_
  refine v_aload_n (n := 1) dX4_put_0 rfl rfl rfl ?_
  refine v_getI (n := 4) f_X4_15 rfl L.s dX4_put_1 rfl ?_
  rw [h1]
  refine v_bipush (n := 6) (v := 96) dX4_put_4 b_96 rfl ?_
  refine v_icmp_ge (n := 9) (tgt := 29) dX4_put_6 (by decide) rfl (fun hq6 => ?_) (fun hq6 => ?_)
  · exact absurd (le_out (a := 96) hq6 (by decide) (by omega)) (by omega)
  · refine v_aload_n (n := 10) dX4_put_9 rfl rfl rfl ?_
    refine v_getR (n := 13) f_X4_9 rfl L.s L.g0 dX4_put_10 rfl ?_
    refine v_aload_n (n := 14) dX4_put_13 rfl rfl rfl ?_
    refine v_getI (n := 17) f_X4_15 rfl L.s dX4_put_14 rfl ?_
    rw [h1]
    refine v_iload_n (n := 18) dX4_put_17 rfl rfl rfl ?_
    refine v_iast (n := 19) (j := k) L.c0 (ix_nI hk (by decide)) dX4_put_18 rfl ?_
    refine v_aload_n (n := 20) dX4_put_19 rfl rfl rfl ?_
    refine v_dup (n := 21) dX4_put_20 rfl rfl ?_
    refine v_getI (n := 24) f_X4_15 rfl L.s dX4_put_21 rfl ?_
    rw [sI_o (by omega), h1]
    refine v_iconst (n := 25) (v := 1) dX4_put_24 c_1 rfl ?_
    refine v_iadd (n := 26) dX4_put_25 rfl ?_
    rw [nI_1]
    refine v_putI (n := 29) f_X4_15 rfl (Or.inl rfl) L.s dX4_put_26 rfl ?_
    exact v_rV rfl rfl rfl ⟨l8 rfl, l8 rfl⟩ dX4_put_29

theorem nk_2 {key : Nat} (h : key < 3) (h0 : ¬ key = 0) (h1 : ¬ key = 1) : key = 2 := by omega
set_option maxRecDepth 100000 in
set_option maxHeartbeats 1000000 in
theorem k_X4_names {ro : Ro} {S : St} {I : In} {key : Nat} (hkey : key < 3) : Ok mX4_names ro 0 0 0 [.int (nI key)] S I (RR (ro.2.2.1 (key + 1)) S I) := by
  refine ok_of (al := [.int (nI key)]) (by decide) (l8 rfl) rfl ?_
  refine v_iload_n (n := 1) dX4_names_0 rfl rfl rfl ?_
  by_cases hw1_0 : (nI key) = 0
  · refine v_lookup (tgt := 28) (off := 27) dX4_names_1 (by decide) (by rw [hw1_0, t_0]; decide) (by decide) ?_
    refine v_ldcS (n := 30) (i := 1) (by decide) ⟨rfl, rfl⟩ dX4_names_28 rfl ?_
    exact v_rR rfl (by rw [nk_e (k := 0) hkey (by decide) hw1_0]) rfl rfl ⟨l8 rfl, l8 rfl⟩ dX4_names_30
  by_cases hw1_1 : (nI key) = 1
  · refine v_lookup (tgt := 31) (off := 30) dX4_names_1 (by decide) (by rw [hw1_1, t_1]; decide) (by decide) ?_
    refine v_ldcS (n := 33) (i := 2) (by decide) ⟨rfl, rfl⟩ dX4_names_31 rfl ?_
    exact v_rR rfl (by rw [nk_e (k := 1) hkey (by decide) hw1_1]) rfl rfl ⟨l8 rfl, l8 rfl⟩ dX4_names_33
  refine v_lookup (tgt := 34) (off := 33) dX4_names_1 (by decide) (by simp only [Op.lookupswitch.offset_cons, if_neg (lk_ne hw1_0 t_0), if_neg (lk_ne hw1_1 t_1)]; rfl) (by decide) ?_
  refine v_ldcS (n := 36) (i := 3) (by decide) ⟨rfl, rfl⟩ dX4_names_34 rfl ?_
  exact v_rR rfl (by rw [nk_2 hkey (fun z => hw1_0 (by rw [z]; rfl)) (fun z => hw1_1 (by rw [z]; rfl))]) rfl rfl ⟨l8 rfl, l8 rfl⟩ dX4_names_36

