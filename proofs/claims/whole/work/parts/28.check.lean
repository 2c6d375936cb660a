/-! ===== check ===== -/
def imgX (I : In) (m : Nat) : Ar := uP I (m + 1) (I (m + 2)) 1488 (m + 1)
def scC (m a : Nat) : Prop := a = m + 3 ∨ scM m a
def chkF (te : Ar) (w : Nat) (Y : Ar) (T n : Nat) : Nat → Nat → Nat
  | 0, k => 2 * k
  | r + 1, k => if 2 * k < w ∧ te (2 * k) = wS (itX Y T n (k + 1)) (ln (itX Y T n (k + 1))) then (if 2 * k + 1 < w ∧ te (2 * k + 1) = itX Y T n (k + 1) 6 then chkF te w Y T n r (k + 1) else 2 * k + 1) else 2 * k
def finF (w K r : Nat) : Int32 := if r = w ∧ r = 2 * K then 0 else 1 + nI r
theorem i_2 (k : Nat) : 2 * nI k = nI (2 * k) := by rw [lit_nI 2, pk_mul]
theorem i_21 (k : Nat) : 2 * nI k + 1 = nI (2 * k + 1) := by rw [i_2, nI_1]
def chB (I : In) (m : Nat) : In := uP (uP (setI I m 33 0) (m + 3) (setI I m 33 0 (m + 1)) 1488) (m + 1) (uP (setI I m 33 0) (m + 3) (setI I m 33 0 (m + 1)) 1488 (m + 2)) 1488
theorem chB_now {I : In} {m : Nat} : chB I m (m + 1) = imgX I m := by
  funext j
  unfold chB imgX uP
  rw [setI_ne (show m + 1 ≠ m by omega), setI_ne (show m + 2 ≠ m by omega)]
  by_cases h : j < 1488
  · rw [if_pos ⟨rfl, h⟩, if_neg (by omega), if_pos ⟨rfl, h⟩]
  · rw [if_neg (by omega), if_neg (by omega), if_neg (by omega)]
theorem chB_3 {I : In} {m j : Nat} (h : j < 1488) : chB I m (m + 3) j = I (m + 1) j := by
  rw [chB, uP_o (by omega), uP_in h, setI_ne (by omega)]
theorem chB_o {I : In} {m a : Nat} (h1 : a ≠ m + 1) (h3 : a ≠ m + 3) : chB I m a = setI I m 33 0 a := by
  rw [chB, uP_ne h1, uP_ne h3]
theorem chk_back {I J : In} {m T n l b k : Nat} (h : WX (imgX I m) T n l b) (hb : b + 999 * k < 2 ^ 30) (hX : J (m + 1) = itX (imgX I m) T n k) (hE : Eqx (scN m) (chB I m) J) : Eqx (scC m) (setI I m 33 0) (uP J (m + 1) (J (m + 3)) 1488) := by
  intro a ha
  have e3 : J (m + 3) = chB I m (m + 3) := hE (m + 3) (by unfold scN scM; omega)
  by_cases h1 : a = m + 1
  · subst h1
    funext j
    rw [setI_ne (by omega)]
    by_cases hj : j < 1488
    · rw [uP_in hj, e3, chB_3 hj]
    · rw [uP_k (by omega), hX, (it_WX h k hb).2 j (by omega) (by omega) (by omega) (by omega) (by omega) (by omega)]
      exact uP_k (by omega)
  · rw [uP_ne h1, hE a (by unfold scN scM; unfold scC scM at ha; omega), chB_o h1 (by unfold scC at ha; omega)]

theorem eqn {a b : Nat} (h : nI a = nI b) (ha : a < 2 ^ 31) (hb : b < 2 ^ 31) : a = b := by
  have := congrArg Int32.toNatClampNeg h
  rwa [nI_clamp ha, nI_clamp hb] at this

set_option maxRecDepth 100000 in
set_option maxHeartbeats 1000000 in
theorem e188_X11_check {ro : Ro} {S : St} {I : In} {m T n l b w K : Nat} (L : LayM S m) (h : WX (imgX I m) T n l b) (hm : mvOk (imgX I m)) (hb : b < 900000000) (hw : w ≤ 60) (hK : K ≤ 30) {k r : Nat} (hk : k ≤ 30) (hr : r ≤ 60) : ∀ J, J (m + 1) = itX (imgX I m) T n k → Eqx (scN m) (chB I m) J → V RX11 cX11_check 7 (some .int) "check" ro (rmD 6 0 0) (QM 0 0 (fun r0 S' I' => r0 = some (.int (finF w K (r))) ∧ S' = S ∧ Eqx (scC m) (setI I m 33 0) I')) 0 0 188 [.ref m, JJ, .int (nI w), .int (nI (2 * K)), .int (nI r), JJ, JJ] [] S J := by
  intro J hX hE
  refine v_aload_n (n := 189) dX11_check_188 rfl rfl rfl ?_
  refine v_getR (n := 192) f_X11_16 rfl L.s L.g2 dX11_check_189 rfl ?_
  refine v_aload_n (n := 193) dX11_check_192 rfl rfl rfl ?_
  refine v_getR (n := 196) f_X11_9 rfl L.s L.g0 dX11_check_193 rfl ?_
  refine v_cSv (n := 199) mc_X11_copyAll l_X11_268 sta_X11_copyAll (k_X11_copyAll L.c2 L.c0 (by omega)) ⟨rfl, rfl⟩ (l8 rfl) ⟨l8 rfl, l8 rfl⟩ rfl rfl (l8 rfl) dX11_check_196 rfl ?_
  refine v_iload (n := 201) dX11_check_199 rfl rfl ?_
  refine v_iload_n (n := 202) dX11_check_201 rfl rfl rfl ?_
  refine v_icmp_ne (n := 205) (tgt := 215) dX11_check_202 (by decide) rfl (fun hq202 => ?_) (fun hq202 => ?_)
  · refine v_iconst (n := 216) (v := 1) dX11_check_215 c_1 rfl ?_
    refine v_iload (n := 218) dX11_check_216 rfl rfl ?_
    refine v_iadd (n := 219) dX11_check_218 rfl ?_
    exact v_iret rfl ⟨by rw [finF, if_neg (fun q => hq202 (by rw [q.1]))], rfl, chk_back h (k := k) (by omega) hX hE⟩ ⟨l8 rfl, l8 rfl⟩ dX11_check_219
  · refine v_iload (n := 207) dX11_check_205 rfl rfl ?_
    refine v_iload_n (n := 208) dX11_check_207 rfl rfl rfl ?_
    refine v_icmp_ne (n := 211) (tgt := 215) dX11_check_208 (by decide) rfl (fun hq208 => ?_) (fun hq208 => ?_)
    · refine v_iconst (n := 216) (v := 1) dX11_check_215 c_1 rfl ?_
      refine v_iload (n := 218) dX11_check_216 rfl rfl ?_
      refine v_iadd (n := 219) dX11_check_218 rfl ?_
      exact v_iret rfl ⟨by rw [finF, if_neg (fun q => hq208 (by rw [q.2]))], rfl, chk_back h (k := k) (by omega) hX hE⟩ ⟨l8 rfl, l8 rfl⟩ dX11_check_219
    · refine v_iconst (n := 212) (v := 0) dX11_check_211 c_0 rfl ?_
      refine v_goto (tgt := 219) dX11_check_212 (by decide) ?_
      exact v_iret rfl ⟨by rw [finF, if_pos ⟨eqn hq202 (by omega) (by omega), eqn hq208 (by omega) (by omega)⟩], rfl, chk_back h (k := k) (by omega) hX hE⟩ ⟨l8 rfl, l8 rfl⟩ dX11_check_219

set_option maxRecDepth 100000 in
set_option maxHeartbeats 1000000 in
theorem e79_X11_check {ro : Ro} {S : St} {I : In} {m T n l b w K : Nat} (L : LayM S m) (h : WX (imgX I m) T n l b) (hm : mvOk (imgX I m)) (hb : b < 900000000) (hw : w ≤ 60) (hK : K ≤ 30) {k r : Nat} (hk : k ≤ 30) (hr : r ≤ 60) (hr2 : r ≠ 2 * k) : ∀ J, J (m + 1) = itX (imgX I m) T n k → Eqx (scN m) (chB I m) J → V RX11 cX11_check 7 (some .int) "check" ro (rmD 6 0 0) (QM 0 0 (fun r0 S' I' => r0 = some (.int (finF w K (r))) ∧ S' = S ∧ Eqx (scC m) (setI I m 33 0) I')) 0 0 79 [.ref m, JJ, .int (nI w), .int (nI (2 * K)), .int (nI r), .int (nI k), JJ] [] S J := by
  intro J hX hE
  refine v_iconst (n := 80) (v := 2) dX11_check_79 c_2 rfl ?_
  refine v_iload (n := 82) dX11_check_80 rfl rfl ?_
  refine v_imul (n := 83) dX11_check_82 rfl ?_
  refine v_iload_n (n := 84) dX11_check_83 rfl rfl rfl ?_
  refine v_icmp_ge (n := 87) (tgt := 188) dX11_check_84 (by decide) rfl (fun hq84 => ?_) (fun hq84 => ?_)
  · refine v_drop 5 (al' := [.ref m, JJ, .int (nI w), .int (nI (2 * K)), .int (nI r), JJ, JJ]) rfl ?_
    exact e188_X11_check L h hm hb hw hK hk hr J hX hE
  · refine v_iload (n := 89) dX11_check_87 rfl rfl ?_
    refine v_iconst (n := 90) (v := 2) dX11_check_89 c_2 rfl ?_
    refine v_iload (n := 92) dX11_check_90 rfl rfl ?_
    refine v_imul (n := 93) dX11_check_92 rfl ?_
    refine v_icmp_ne (n := 96) (tgt := 188) dX11_check_93 (by decide) rfl (fun hq93 => ?_) (fun hq93 => ?_)
    · refine v_drop 5 (al' := [.ref m, JJ, .int (nI w), .int (nI (2 * K)), .int (nI r), JJ, JJ]) rfl ?_
      exact e188_X11_check L h hm hb hw hK hk hr J hX hE
    · exact absurd (eqn (hq93.trans (i_2 k)) (by omega) (by omega)) hr2

set_option maxRecDepth 100000 in
set_option maxHeartbeats 1000000 in
theorem a138_X11_check {ro : Ro} {S : St} {I : In} {m T n l b w K : Nat} (L : LayM S m) (h : WX (imgX I m) T n l b) (hm : mvOk (imgX I m)) (hb : b < 900000000) (hw : w ≤ 60) (hK : K ≤ 30) {k : Nat} (hk : k < K) : ∀ J, J (m + 1) = itX (imgX I m) T n (k + 1) → Eqx (scN m) (chB I m) J → V RX11 cX11_check 7 (some .int) "check" ro (rmD 6 0 0) (QM 0 0 (fun r0 S' I' => r0 = some (.int (finF w K (2 * k))) ∧ S' = S ∧ Eqx (scC m) (setI I m 33 0) I')) 0 0 138 [.ref m, JJ, .int (nI w), .int (nI (2 * K)), .int (nI (2 * k)), .int (nI k), JJ] [] S J := by
  intro J hX hE
  refine v_iload (n := 140) dX11_check_138 rfl rfl ?_
  refine v_iload (n := 142) dX11_check_140 rfl rfl ?_
  refine v_iconst (n := 143) (v := 2) dX11_check_142 c_2 rfl ?_
  refine v_iload (n := 145) dX11_check_143 rfl rfl ?_
  refine v_imul (n := 146) dX11_check_145 rfl ?_
  refine v_iconst (n := 147) (v := 1) dX11_check_146 c_1 rfl ?_
  refine v_iadd (n := 148) dX11_check_147 rfl ?_
  refine v_icmp_ne (n := 151) (tgt := 178) dX11_check_148 (by decide) rfl (fun hq148 => ?_) (fun hq148 => ?_)
  · refine v_iconst (n := 179) (v := 0) dX11_check_178 c_0 rfl ?_
    refine v_iadd (n := 180) dX11_check_179 rfl ?_
    refine v_istore (n := 182) (al' := [.ref m, JJ, .int (nI w), .int (nI (2 * K)), .int ((nI (2 * k)) + 0), .int (nI k), JJ]) dX11_check_180 rfl rfl rfl ?_
    refine v_iinc (n := 185) (v := (nI k) + 1) (al' := [.ref m, JJ, .int (nI w), .int (nI (2 * K)), .int ((nI (2 * k)) + 0), .int ((nI k) + 1), JJ]) dX11_check_182 rfl (by rw [c_1]) rfl rfl rfl ?_
    refine v_goto (tgt := 79) dX11_check_185 (by decide) ?_
    rw [nI_1, show nI (2 * k) + 0 = nI (2 * k) from Int32.add_zero _]
    exact e79_X11_check L h hm hb hw hK (by omega) (by omega) (by omega) J hX hE
  · exact absurd (eqn (hq148.trans (i_21 k)) (by omega) (by omega)) (by omega)

theorem ch_t {I J : In} {m : Nat} (hE : Eqx (scN m) (chB I m) J) : J (m + 22) = I (m + 22) := by
  rw [hE (m + 22) (by unfold scN scM; omega), chB_o (by omega) (by omega), setI_ne (by omega)]

set_option maxRecDepth 100000 in
set_option maxHeartbeats 1000000 in
theorem b138_X11_check {ro : Ro} {S : St} {I : In} {m T n l b w K : Nat} (L : LayM S m) (h : WX (imgX I m) T n l b) (hm : mvOk (imgX I m)) (hb : b < 900000000) (hw : w ≤ 60) (hK : K ≤ 30) {k c : Nat} (hk : k < K) (kk : ∀ J, J (m + 1) = itX (imgX I m) T n (k + 1) → Eqx (scN m) (chB I m) J → V RX11 cX11_check 7 (some .int) "check" ro (rmD 6 0 0) (QM 0 0 (fun r0 S' I' => r0 = some (.int (finF w K (c))) ∧ S' = S ∧ Eqx (scC m) (setI I m 33 0) I')) 0 0 79 [.ref m, JJ, .int (nI w), .int (nI (2 * K)), .int (nI (2 * k + 1 + 1)), .int (nI (k + 1)), JJ] [] S J) : ∀ J, J (m + 1) = itX (imgX I m) T n (k + 1) → Eqx (scN m) (chB I m) J → V RX11 cX11_check 7 (some .int) "check" ro (rmD 6 0 0) (QM 0 0 (fun r0 S' I' => r0 = some (.int (finF w K ((if 2 * k + 1 < w ∧ (I (m + 22)) (2 * k + 1) = itX (imgX I m) T n (k + 1) 6 then c else 2 * k + 1)))) ∧ S' = S ∧ Eqx (scC m) (setI I m 33 0) I')) 0 0 138 [.ref m, JJ, .int (nI w), .int (nI (2 * K)), .int (nI (2 * k + 1)), .int (nI k), JJ] [] S J := by
  intro J hX hE
  have ht := fun (J : In) (hE : Eqx (scN m) (chB I m) J) => ch_t hE
  refine v_iload (n := 140) dX11_check_138 rfl rfl ?_
  refine v_iload (n := 142) dX11_check_140 rfl rfl ?_
  refine v_iconst (n := 143) (v := 2) dX11_check_142 c_2 rfl ?_
  refine v_iload (n := 145) dX11_check_143 rfl rfl ?_
  refine v_imul (n := 146) dX11_check_145 rfl ?_
  refine v_iconst (n := 147) (v := 1) dX11_check_146 c_1 rfl ?_
  refine v_iadd (n := 148) dX11_check_147 rfl ?_
  refine v_icmp_ne (n := 151) (tgt := 178) dX11_check_148 (by decide) rfl (fun hq148 => ?_) (fun hq148 => ?_)
  · exact absurd (i_21 k).symm hq148
  · refine v_iload (n := 153) dX11_check_151 rfl rfl ?_
    refine v_iload_n (n := 154) dX11_check_153 rfl rfl rfl ?_
    refine v_icmp_ge (n := 157) (tgt := 178) dX11_check_154 (by decide) rfl (fun hq154 => ?_) (fun hq154 => ?_)
    · have hge := le_out hq154 (by omega) (by omega)
      rw [if_neg (by omega)]
      refine v_iconst (n := 179) (v := 0) dX11_check_178 c_0 rfl ?_
      refine v_iadd (n := 180) dX11_check_179 rfl ?_
      refine v_istore (n := 182) (al' := [.ref m, JJ, .int (nI w), .int (nI (2 * K)), .int ((nI (2 * k + 1)) + 0), .int (nI k), JJ]) dX11_check_180 rfl rfl rfl ?_
      refine v_iinc (n := 185) (v := (nI k) + 1) (al' := [.ref m, JJ, .int (nI w), .int (nI (2 * K)), .int ((nI (2 * k + 1)) + 0), .int ((nI k) + 1), JJ]) dX11_check_182 rfl (by rw [c_1]) rfl rfl rfl ?_
      refine v_goto (tgt := 79) dX11_check_185 (by decide) ?_
      rw [nI_1, show nI (2 * k + 1) + 0 = nI (2 * k + 1) from Int32.add_zero _]
      exact e79_X11_check L h hm hb hw hK (by omega) (by omega) (by omega) J hX hE
    · have hlt := nle_in hq154 (by omega) (by omega)
      refine v_aload_n (n := 158) dX11_check_157 rfl rfl rfl ?_
      refine v_getR (n := 161) f_X11_75 rfl L.s L.g32 dX11_check_158 rfl ?_
      refine v_iload (n := 163) dX11_check_161 rfl rfl ?_
      refine v_iald (n := 164) (j := 2 * k + 1) L.c32 (ix_nI (by omega) (by decide)) dX11_check_163 rfl ?_
      refine v_aload_n (n := 165) dX11_check_164 rfl rfl rfl ?_
      refine v_getR (n := 168) f_X11_9 rfl L.s L.g0 dX11_check_165 rfl ?_
      refine v_bipush (n := 170) (v := 6) dX11_check_168 b_6 rfl ?_
      refine v_iald (n := 171) (j := 6) L.c0 (ix_lit rfl rfl rfl) dX11_check_170 rfl ?_
      refine v_icmp_ne (n := 174) (tgt := 178) dX11_check_171 (by decide) rfl (fun hq171 => ?_) (fun hq171 => ?_)
      · rw [hX, show J (m + 22) = I (m + 22) from ht J hE] at hq171
        rw [if_neg (fun q => hq171 q.2)]
        refine v_iconst (n := 179) (v := 0) dX11_check_178 c_0 rfl ?_
        refine v_iadd (n := 180) dX11_check_179 rfl ?_
        refine v_istore (n := 182) (al' := [.ref m, JJ, .int (nI w), .int (nI (2 * K)), .int ((nI (2 * k + 1)) + 0), .int (nI k), JJ]) dX11_check_180 rfl rfl rfl ?_
        refine v_iinc (n := 185) (v := (nI k) + 1) (al' := [.ref m, JJ, .int (nI w), .int (nI (2 * K)), .int ((nI (2 * k + 1)) + 0), .int ((nI k) + 1), JJ]) dX11_check_182 rfl (by rw [c_1]) rfl rfl rfl ?_
        refine v_goto (tgt := 79) dX11_check_185 (by decide) ?_
        rw [nI_1, show nI (2 * k + 1) + 0 = nI (2 * k + 1) from Int32.add_zero _]
        exact e79_X11_check L h hm hb hw hK (by omega) (by omega) (by omega) J hX hE
      · rw [hX, show J (m + 22) = I (m + 22) from ht J hE] at hq171
        rw [if_pos ⟨hlt, hq171⟩]
        refine v_iconst (n := 175) (v := 1) dX11_check_174 c_1 rfl ?_
        refine v_goto (tgt := 179) dX11_check_175 (by decide) ?_
        refine v_iadd (n := 180) dX11_check_179 rfl ?_
        refine v_istore (n := 182) (al' := [.ref m, JJ, .int (nI w), .int (nI (2 * K)), .int ((nI (2 * k + 1)) + 1), .int (nI k), JJ]) dX11_check_180 rfl rfl rfl ?_
        refine v_iinc (n := 185) (v := (nI k) + 1) (al' := [.ref m, JJ, .int (nI w), .int (nI (2 * K)), .int ((nI (2 * k + 1)) + 1), .int ((nI k) + 1), JJ]) dX11_check_182 rfl (by rw [c_1]) rfl rfl rfl ?_
        refine v_goto (tgt := 79) dX11_check_185 (by decide) ?_
        rw [nI_1, nI_1]
        exact kk J hX hE

set_option maxRecDepth 100000 in
set_option maxHeartbeats 1000000 in
theorem l_X11_check {ro : Ro} {S : St} {I : In} {m T n l b w K : Nat} (L : LayM S m) (h : WX (imgX I m) T n l b) (hm : mvOk (imgX I m)) (hb : b < 900000000) (hw : w ≤ 60) (hK : K ≤ 30) : ∀ r k, k + r = K → ∀ J, J (m + 1) = itX (imgX I m) T n k → Eqx (scN m) (chB I m) J → V RX11 cX11_check 7 (some .int) "check" ro (rmD 6 0 0) (QM 0 0 (fun r0 S' I' => r0 = some (.int (finF w K (chkF (I (m + 22)) w (imgX I m) T n r k))) ∧ S' = S ∧ Eqx (scC m) (setI I m 33 0) I')) 0 0 79 [.ref m, JJ, .int (nI w), .int (nI (2 * K)), .int (nI (2 * k)), .int (nI k), JJ] [] S J := by
  intro r
  induction r with
  | zero =>
    intro k hk J hX hE
    refine v_iconst (n := 80) (v := 2) dX11_check_79 c_2 rfl ?_
    refine v_iload (n := 82) dX11_check_80 rfl rfl ?_
    refine v_imul (n := 83) dX11_check_82 rfl ?_
    refine v_iload_n (n := 84) dX11_check_83 rfl rfl rfl ?_
    refine v_icmp_ge (n := 87) (tgt := 188) dX11_check_84 (by decide) rfl (fun hq84 => ?_) (fun hq84 => ?_)
    · refine v_drop 5 (al' := [.ref m, JJ, .int (nI w), .int (nI (2 * K)), .int (nI (2 * k)), JJ, JJ]) rfl ?_
      rw [chkF]
      exact e188_X11_check L h hm hb hw hK (by omega) (by omega) J hX hE
    · exact absurd ((nI_leI (a := 2 * K) (b := 2 * k) (by omega) (by omega)).mpr (by omega)) (by rw [i_2] at hq84; exact hq84)
  | succ r ih =>
    intro k hk J hX hE
    refine v_iconst (n := 80) (v := 2) dX11_check_79 c_2 rfl ?_
    refine v_iload (n := 82) dX11_check_80 rfl rfl ?_
    refine v_imul (n := 83) dX11_check_82 rfl ?_
    refine v_iload_n (n := 84) dX11_check_83 rfl rfl rfl ?_
    refine v_icmp_ge (n := 87) (tgt := 188) dX11_check_84 (by decide) rfl (fun hq84 => ?_) (fun hq84 => ?_)
    · exact absurd (le_out (by rw [i_2] at hq84; exact hq84) (by omega) (by omega)) (by omega)
    · obtain ⟨g1, g2⟩ := it_WX h k (by omega)
      obtain ⟨g3, g4⟩ := it_WX h (k + 1) (by omega)
      have h5 : J (m + 1) 5 = (imgX I m) 5 := by rw [hX]; exact it_5 h (by omega)
      have hlt : k < K := by omega
      refine v_iload (n := 89) dX11_check_87 rfl rfl ?_
      refine v_iconst (n := 90) (v := 2) dX11_check_89 c_2 rfl ?_
      refine v_iload (n := 92) dX11_check_90 rfl rfl ?_
      refine v_imul (n := 93) dX11_check_92 rfl ?_
      refine v_icmp_ne (n := 96) (tgt := 188) dX11_check_93 (by decide) rfl (fun hq93 => ?_) (fun hq93 => ?_)
      · exact absurd (i_2 k).symm hq93
      · refine v_aload_n (n := 97) dX11_check_96 rfl rfl rfl ?_
        refine v_aload_n (n := 98) dX11_check_97 rfl rfl rfl ?_
        refine v_getR (n := 101) f_X11_9 rfl L.s L.g0 dX11_check_98 rfl ?_
        refine v_iconst (n := 102) (v := 5) dX11_check_101 c_5 rfl ?_
        refine v_iald (n := 103) (j := 5) L.c0 (ix_lit rfl rfl rfl) dX11_check_102 rfl ?_
        refine v_callV (n := 106) mc_X11_day l_X11_160 iv_X11_day se_X11_day (ci := 10) ⟨by decide, rfl⟩ L.s (k_X11_day (T := T) (n := n) L (by rw [hX]; exact g1) (by omega) (by rw [h5]; exact ⟨by have := hm.1; omega, by have := hm.2; omega⟩)) ⟨rfl, rfl⟩ (l8 rfl) ⟨l8 rfl, l8 rfl⟩ rfl rfl (l8 rfl) dX11_check_103 rfl ?_
        rintro _ _ J1 ⟨rfl, rfl, hJ1, hE1⟩
        have hX1 : J1 (m + 1) = itX (imgX I m) T n (k + 1) := by rw [hJ1, hX, itX]
        have hE1 := hE.tr hE1
        refine v_istore (n := 108) (al' := [.ref m, JJ, .int (nI w), .int (nI (2 * K)), .int (nI (2 * k)), .int (nI k), .int (dayN (J (m + 1)) T n (ln (itX (imgX I m) T n k)) (J (m + 1) 5))]) dX11_check_106 rfl rfl rfl ?_
        refine v_iload (n := 110) dX11_check_108 rfl rfl ?_
        refine v_iload (n := 112) dX11_check_110 rfl rfl ?_
        refine v_iload_n (n := 113) dX11_check_112 rfl rfl rfl ?_
        refine v_icmp_ge (n := 116) (tgt := 134) dX11_check_113 (by decide) rfl (fun hq113 => ?_) (fun hq113 => ?_)
        · have hg := le_out hq113 (by omega) (by omega)
          refine v_iconst (n := 135) (v := 0) dX11_check_134 c_0 rfl ?_
          refine v_iadd (n := 136) dX11_check_135 rfl ?_
          refine v_istore (n := 138) (al' := [.ref m, JJ, .int (nI w), .int (nI (2 * K)), .int ((nI (2 * k)) + 0), .int (nI k), .int (dayN (J (m + 1)) T n (ln (itX (imgX I m) T n k)) (J (m + 1) 5))]) dX11_check_136 rfl rfl rfl ?_
          refine v_drop 6 (al' := [.ref m, JJ, .int (nI w), .int (nI (2 * K)), .int ((nI (2 * k)) + 0), .int (nI k), JJ]) rfl ?_
          rw [show nI (2 * k) + 0 = nI (2 * k) from Int32.add_zero _, chkF, if_neg (fun q => absurd q.1 (by omega))]
          exact a138_X11_check L h hm hb hw hK hlt J1 hX1 hE1
        · have hl := nle_in hq113 (by omega) (by omega)
          refine v_aload_n (n := 117) dX11_check_116 rfl rfl rfl ?_
          refine v_getR (n := 120) f_X11_75 rfl L.s L.g32 dX11_check_117 rfl ?_
          refine v_iload (n := 122) dX11_check_120 rfl rfl ?_
          refine v_iald (n := 123) (j := 2 * k) L.c32 (ix_nI (by omega) (by decide)) dX11_check_122 rfl ?_
          refine v_aload_n (n := 124) dX11_check_123 rfl rfl rfl ?_
          refine v_cVi (n := 127) (x := (wS (J1 (m + 1)) (ln (itX (imgX I m) T n (k + 1))))) mc_X11_weight l_X11_100 iv_X11_weight se_X11_weight (ci := 10) ⟨by decide, rfl⟩ L.s (k_X11_weight (l := ln (itX (imgX I m) T n (k + 1))) L (by rw [hX1]; exact g3.2.2.1) g3.2.2.2.1) ⟨rfl, rfl⟩ (l8 rfl) ⟨l8 rfl, l8 rfl⟩ rfl rfl (l8 rfl) dX11_check_124 rfl ?_
          refine v_icmp_ne (n := 130) (tgt := 134) dX11_check_127 (by decide) rfl (fun hq127 => ?_) (fun hq127 => ?_)
          · rw [hX1, show J1 (m + 22) = I (m + 22) from ch_t hE1] at hq127
            refine v_iconst (n := 135) (v := 0) dX11_check_134 c_0 rfl ?_
            refine v_iadd (n := 136) dX11_check_135 rfl ?_
            refine v_istore (n := 138) (al' := [.ref m, JJ, .int (nI w), .int (nI (2 * K)), .int ((nI (2 * k)) + 0), .int (nI k), .int (dayN (J (m + 1)) T n (ln (itX (imgX I m) T n k)) (J (m + 1) 5))]) dX11_check_136 rfl rfl rfl ?_
            refine v_drop 6 (al' := [.ref m, JJ, .int (nI w), .int (nI (2 * K)), .int ((nI (2 * k)) + 0), .int (nI k), JJ]) rfl ?_
            rw [show nI (2 * k) + 0 = nI (2 * k) from Int32.add_zero _, chkF, if_neg (fun q => hq127 q.2)]
            exact a138_X11_check L h hm hb hw hK hlt J1 hX1 hE1
          · rw [hX1, show J1 (m + 22) = I (m + 22) from ch_t hE1] at hq127
            refine v_iconst (n := 131) (v := 1) dX11_check_130 c_1 rfl ?_
            refine v_goto (tgt := 135) dX11_check_131 (by decide) ?_
            refine v_iadd (n := 136) dX11_check_135 rfl ?_
            refine v_istore (n := 138) (al' := [.ref m, JJ, .int (nI w), .int (nI (2 * K)), .int ((nI (2 * k)) + 1), .int (nI k), .int (dayN (J (m + 1)) T n (ln (itX (imgX I m) T n k)) (J (m + 1) 5))]) dX11_check_136 rfl rfl rfl ?_
            refine v_drop 6 (al' := [.ref m, JJ, .int (nI w), .int (nI (2 * K)), .int ((nI (2 * k)) + 1), .int (nI k), JJ]) rfl ?_
            rw [nI_1, chkF, if_pos ⟨hl, hq127⟩]
            exact b138_X11_check L h hm hb hw hK hlt (fun J2 a b => ih (k + 1) (by omega) J2 a b) J1 hX1 hE1

set_option maxRecDepth 100000 in
set_option maxHeartbeats 1000000 in
theorem k_X11_check {ro : Ro} {S : St} {I : In} {xa : Int32} {m T n l b w : Nat} (L : LayM S m) (h : ¬ I m 3 = 0 → WX (imgX I m) T n l b ∧ mvOk (imgX I m)) (hb : b < 900000000) (hw33 : I m 33 = nI w) (hw : w ≤ 60) : Ok mX11_check ro 6 0 0 [.ref m, .int xa] S I (fun r S' I' => r = some (.int (if inn xa 1 30 = true then (if I m 3 = 0 then -1000000002 else finF w (win (9999 - (imgX I m) 2) 0 xa).toNatClampNeg (chkF (I (m + 22)) w (imgX I m) T n (win (9999 - (imgX I m) 2) 0 xa).toNatClampNeg 0)) else -1000000001)) ∧ S' = S ∧ Eqx (scC m) (setI I m 33 0) I') := by
  refine ok_of (al := [.ref m, .int xa, JJ, JJ, JJ, JJ, JJ]) (by decide) (l8 rfl) rfl ?_
  refine v_aload_n (n := 1) dX11_check_0 rfl rfl rfl ?_
  refine v_getI (n := 4) f_X11_261 rfl L.s dX11_check_1 rfl ?_
  refine v_istore_n (n := 5) (al' := [.ref m, .int xa, .int (I m 33), JJ, JJ, JJ, JJ]) dX11_check_4 rfl rfl rfl rfl ?_
  refine v_aload_n (n := 6) dX11_check_5 rfl rfl rfl ?_
  refine v_iconst (n := 7) (v := 0) dX11_check_6 c_0 rfl ?_
  refine v_putI (n := 10) f_X11_261 rfl (Or.inl rfl) L.s dX11_check_7 rfl ?_
  refine v_iload_n (n := 11) dX11_check_10 rfl rfl rfl ?_
  refine v_iconst (n := 12) (v := 1) dX11_check_11 c_1 rfl ?_
  refine v_bipush (n := 14) (v := 30) dX11_check_12 b_30 rfl ?_
  refine v_cSi (n := 17) (x := (bi (inn xa 1 30))) mc_X11_in l_X11_78 sta_X11_in k_X11_in ⟨rfl, rfl⟩ (l8 rfl) ⟨l8 rfl, l8 rfl⟩ rfl rfl (l8 rfl) dX11_check_14 rfl ?_
  refine v_if_ne (n := 20) (tgt := 23) dX11_check_17 (by decide) rfl (fun hq17 => ?_) (fun hq17 => ?_)
  · obtain ⟨a, ha1, ha2, rfl⟩ := inn_get1 (a := 30) (c := 1) (bi_n0.mp hq17) (by decide) (by decide)
    refine v_aload_n (n := 24) dX11_check_23 rfl rfl rfl ?_
    refine v_getI (n := 27) f_X11_264 rfl L.s dX11_check_24 rfl ?_
    refine v_if_ne (n := 30) (tgt := 33) dX11_check_27 (by decide) rfl (fun hq27 => ?_) (fun hq27 => ?_)
    · rw [sI_k (by decide)] at hq27
      obtain ⟨K, hK, eK⟩ := win_rng (9999 - (imgX I m) 2) (s := a) (by omega)
      obtain ⟨g1, g2⟩ := h hq27
      refine v_aload_n (n := 34) dX11_check_33 rfl rfl rfl ?_
      refine v_getR (n := 37) f_X11_9 rfl L.s L.g0 dX11_check_34 rfl ?_
      refine v_aload_n (n := 38) dX11_check_37 rfl rfl rfl ?_
      refine v_getR (n := 41) f_X11_16 rfl L.s L.g2 dX11_check_38 rfl ?_
      refine v_cSv (n := 44) mc_X11_copyAll l_X11_268 sta_X11_copyAll (k_X11_copyAll L.c0 L.c2 (by omega)) ⟨rfl, rfl⟩ (l8 rfl) ⟨l8 rfl, l8 rfl⟩ rfl rfl (l8 rfl) dX11_check_41 rfl ?_
      refine v_aload_n (n := 45) dX11_check_44 rfl rfl rfl ?_
      refine v_getR (n := 48) f_X11_13 rfl L.s L.g1 dX11_check_45 rfl ?_
      refine v_aload_n (n := 49) dX11_check_48 rfl rfl rfl ?_
      refine v_getR (n := 52) f_X11_9 rfl L.s L.g0 dX11_check_49 rfl ?_
      refine v_cSv (n := 55) mc_X11_copyAll l_X11_268 sta_X11_copyAll (k_X11_copyAll L.c1 L.c0 (by omega)) ⟨rfl, rfl⟩ (l8 rfl) ⟨l8 rfl, l8 rfl⟩ rfl rfl (l8 rfl) dX11_check_52 rfl ?_
      refine v_iconst (n := 56) (v := 2) dX11_check_55 c_2 rfl ?_
      refine v_sipush (n := 59) (v := 9999) dX11_check_56 s_9999 rfl ?_
      refine v_aload_n (n := 60) dX11_check_59 rfl rfl rfl ?_
      refine v_getR (n := 63) f_X11_9 rfl L.s L.g0 dX11_check_60 rfl ?_
      refine v_iconst (n := 64) (v := 2) dX11_check_63 c_2 rfl ?_
      refine v_iald (n := 65) (j := 2) L.c0 (ix_lit rfl rfl rfl) dX11_check_64 rfl ?_
      refine v_isub (n := 66) dX11_check_65 rfl ?_
      refine v_iconst (n := 67) (v := 0) dX11_check_66 c_0 rfl ?_
      refine v_iload_n (n := 68) dX11_check_67 rfl rfl rfl ?_
      refine v_cSi (n := 71) (x := (win (9999 - ((chB I m) (m + 1) 2)) 0 (nI a))) mc_X11_within l_X11_107 sta_X11_within k_X11_within ⟨rfl, rfl⟩ (l8 rfl) ⟨l8 rfl, l8 rfl⟩ rfl rfl (l8 rfl) dX11_check_68 rfl ?_
      rw [chB_now, eK]
      refine v_imul (n := 72) dX11_check_71 rfl ?_
      refine v_istore_n (n := 73) (al' := [.ref m, .int (nI a), .int (I m 33), .int (2 * (nI K)), JJ, JJ, JJ]) dX11_check_72 rfl rfl rfl rfl ?_
      refine v_iconst (n := 74) (v := 0) dX11_check_73 c_0 rfl ?_
      refine v_istore (n := 76) (al' := [.ref m, .int (nI a), .int (I m 33), .int (2 * (nI K)), .int 0, JJ, JJ]) dX11_check_74 rfl rfl rfl ?_
      refine v_iconst (n := 77) (v := 0) dX11_check_76 c_0 rfl ?_
      refine v_istore (n := 79) (al' := [.ref m, .int (nI a), .int (I m 33), .int (2 * (nI K)), .int 0, .int 0, JJ]) dX11_check_77 rfl rfl rfl ?_
      refine v_drop 1 (al' := [.ref m, JJ, .int (I m 33), .int (2 * (nI K)), .int 0, .int 0, JJ]) rfl ?_
      rw [if_pos (bi_n0.mp hq17), if_neg hq27, nI_clamp (by omega), hw33, i_2]
      exact l_X11_check L g1 g2 hb hw (by omega) K 0 (by omega) _ chB_now Eqx.rf
    · rw [sI_k (by decide)] at hq27
      refine v_ldc (n := 32) k_X11_151 dX11_check_30 rfl ?_
      exact v_iret rfl ⟨by rw [if_pos (bi_n0.mp hq17), if_pos hq27], rfl, Eqx.rf⟩ ⟨l8 rfl, l8 rfl⟩ dX11_check_32
  · refine v_ldc (n := 22) k_X11_90 dX11_check_20 rfl ?_
    exact v_iret rfl ⟨by rw [if_neg (by rw [bi_0.mp hq17]; decide)], rfl, Eqx.rf⟩ ⟨l8 rfl, l8 rfl⟩ dX11_check_22

