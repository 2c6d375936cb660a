/-! ===== the WAY of some days ===== -/
def enX (T n r : Nat) : Nat → Ar → Ar
  | 0, X => X
  | d + 1, X => enX T n r d (dayX X T n (ln X) (nI (r / 3 ^ d % 3) - 1))
abbrev Tri : Type := Int32 × Int32 × Int32
def stp (e : Bool) (b c : Tri) : Tri := if e = true ∨ c.1 < b.1 ∨ (c.1 = b.1 ∧ b.2.1 < c.2.1) then c else b
def wvX (Z : Ar) (n r : Nat) : Tri := (sumX Z 3 n, wS Z (ln Z), nI r)
def wfR (X : Ar) (T n d : Nat) : Nat → Tri
  | 0 => (0, 0, 0)
  | r + 1 => stp (r == 0) (wfR X T n d r) (wvX (enX T n r d X) n r)
def pickT (t : Tri) (b : Int32) : Int32 := if b = 0 then t.1 else if b = 1 then t.2.1 else t.2.2
def wayS (X : Ar) (T n : Nat) (a b : Int32) : Int32 := if (inn a 1 5 && inn b 0 2) = true then (if X 1 = 0 then -1000000005 else pickT (wfR X T n a.toNatClampNeg (3 ^ a.toNatClampNeg)) b) else -1000000001
def scQ (m a : Nat) : Prop := a = m + 5 ∨ scM m a
def scR (m a : Nat) : Prop := a = m + 1 ∨ scQ m a
def bst (J : In) (m : Nat) (t : Tri) : Prop := J (m + 5) 0 = t.1 ∧ J (m + 5) 1 = t.2.1 ∧ J (m + 5) 2 = t.2.2
def cR (I : In) (m T n D r : Nat) (J : In) : Prop := Eqx (scQ m) (uP I (m + 4) (I (m + 1)) 116) J ∧ (r = 0 ∨ bst J m (wfR (I (m + 1)) T n D r))
theorem p3_le {d : Nat} (h : d ≤ 5) : 1 ≤ 3 ^ d ∧ 3 ^ d ≤ 243 := by
  have : d = 0 ∨ d = 1 ∨ d = 2 ∨ d = 3 ∨ d = 4 ∨ d = 5 := by omega
  rcases this with rfl | rfl | rfl | rfl | rfl | rfl <;> decide
theorem ro_back {I J : In} {m : Nat} (h1 : Eqx (scR m) (uP I (m + 4) (I (m + 1)) 116) J) (h2 : ∀ j, 116 ≤ j → J (m + 1) j = I (m + 1) j) : Eqx (scQ m) (uP I (m + 4) (I (m + 1)) 116) (uP J (m + 1) (J (m + 4)) 116) := by
  intro a ha
  have e4 : J (m + 4) = uP I (m + 4) (I (m + 1)) 116 (m + 4) := h1 (m + 4) (by unfold scR scQ scM; omega)
  by_cases h : a = m + 1
  · subst h
    funext j
    rw [uP_ne (show m + 1 ≠ m + 4 by omega)]
    by_cases hj : j < 116
    · rw [uP_in hj, e4, uP_in hj]
    · rw [uP_k (by omega)]; exact h2 j (by omega)
  · rw [uP_ne h, h1 a (fun q => q.elim h ha)]
def digF (d : Nat) : Nat := if d = 0 then 1 else 3 ^ (d - 1)

set_option maxRecDepth 100000 in
set_option maxHeartbeats 1000000 in
theorem t153_X11_findWay {ro : Ro} {S : St} {I : In} {m T n l b D r : Nat} (L : LayM S m) (h : WX (I (m + 1)) T n l b) (hb : b < 900000000) (hD : D ≤ 5) (hr : r < 3 ^ D) (kk : ∀ J, cR I m T n D (r + 1) J → V RX11 cX11_findWay 7 (none) "findWay" ro (rmD 6 0 0) (QM 0 0 (fun r0 S' I' => r0 = none ∧ S' = S ∧ cR I m T n D (3 ^ D) I')) 0 0 25 [.ref m, .int (nI D), .int (nI (3 ^ D)), .int (nI (r + 1)), JJ, JJ, JJ] [] S J) : ∀ J, Eqx (scR m) (uP I (m + 4) (I (m + 1)) 116) J → (∀ j, 116 ≤ j → J (m + 1) j = (I (m + 1)) j) → bst J m (wfR (I (m + 1)) T n D (r + 1)) → V RX11 cX11_findWay 7 (none) "findWay" ro (rmD 6 0 0) (QM 0 0 (fun r0 S' I' => r0 = none ∧ S' = S ∧ cR I m T n D (3 ^ D) I')) 0 0 153 [.ref m, .int (nI D), .int (nI (3 ^ D)), .int (nI r), JJ, JJ, JJ] [] S J := by
  intro J hE h2 hB
  refine v_aload_n (n := 154) dX11_findWay_153 rfl rfl rfl ?_
  refine v_cVv (n := 157) mc_X11_putsBack l_X11_172 iv_X11_putsBack se_X11_putsBack (ci := 10) ⟨by decide, rfl⟩ L.s (k_X11_putsBack L) ⟨rfl, rfl⟩ (l8 rfl) ⟨l8 rfl, l8 rfl⟩ rfl rfl (l8 rfl) dX11_findWay_154 rfl ?_
  refine v_iinc (n := 160) (v := (nI r) + 1) (al' := [.ref m, .int (nI D), .int (nI (3 ^ D)), .int ((nI r) + 1), JJ, JJ, JJ]) dX11_findWay_157 rfl (by rw [c_1]) rfl rfl rfl ?_
  refine v_goto (tgt := 25) dX11_findWay_160 (by decide) ?_
  rw [nI_1]
  exact kk _ ⟨ro_back hE h2, Or.inr ⟨by rw [uP_ne (by omega)]; exact hB.1, by rw [uP_ne (by omega)]; exact hB.2.1, by rw [uP_ne (by omega)]; exact hB.2.2⟩⟩

set_option maxRecDepth 100000 in
set_option maxHeartbeats 1000000 in
theorem t80_X11_findWay {ro : Ro} {S : St} {I : In} {m T n l b D r : Nat} (L : LayM S m) (h : WX (I (m + 1)) T n l b) (hb : b < 900000000) (hD : D ≤ 5) (hr : r < 3 ^ D) (kk : ∀ J, cR I m T n D (r + 1) J → V RX11 cX11_findWay 7 (none) "findWay" ro (rmD 6 0 0) (QM 0 0 (fun r0 S' I' => r0 = none ∧ S' = S ∧ cR I m T n D (3 ^ D) I')) 0 0 25 [.ref m, .int (nI D), .int (nI (3 ^ D)), .int (nI (r + 1)), JJ, JJ, JJ] [] S J) : ∀ J, J (m + 1) = (enX T n r D (I (m + 1))) → WX (enX T n r D (I (m + 1))) T n (ln (enX T n r D (I (m + 1)))) (b + 999 * D) → Eqx (scR m) (uP I (m + 4) (I (m + 1)) 116) J → (∀ j, 116 ≤ j → J (m + 1) j = (I (m + 1)) j) → (r = 0 ∨ bst J m (wfR (I (m + 1)) T n D r)) → V RX11 cX11_findWay 7 (none) "findWay" ro (rmD 6 0 0) (QM 0 0 (fun r0 S' I' => r0 = none ∧ S' = S ∧ cR I m T n D (3 ^ D) I')) 0 0 80 [.ref m, .int (nI D), .int (nI (3 ^ D)), .int (nI r), JJ, JJ, JJ] [] S J := by
  intro J hX hZ hE h2 hB
  have hp := p3_le hD
  refine v_aload_n (n := 81) dX11_findWay_80 rfl rfl rfl ?_
  refine v_iconst (n := 82) (v := 3) dX11_findWay_81 c_3 rfl ?_
  refine v_cVi (n := 85) (x := (sumX (J (m + 1)) 3 n)) mc_X11_sumOf l_X11_169 iv_X11_sumOf se_X11_sumOf (ci := 10) ⟨by decide, rfl⟩ L.s (k_X11_sumOf (u := 3) (n := n) L (by rw [hX]; exact hZ.1) hZ.2.1 (by decide)) ⟨rfl, rfl⟩ (l8 rfl) ⟨l8 rfl, l8 rfl⟩ rfl rfl (l8 rfl) dX11_findWay_82 rfl ?_
  rw [hX]
  refine v_istore (n := 87) (al' := [.ref m, .int (nI D), .int (nI (3 ^ D)), .int (nI r), JJ, .int (sumX (enX T n r D (I (m + 1))) 3 n), JJ]) dX11_findWay_85 rfl rfl rfl ?_
  refine v_aload_n (n := 88) dX11_findWay_87 rfl rfl rfl ?_
  refine v_cVi (n := 91) (x := (wS (J (m + 1)) (ln (enX T n r D (I (m + 1)))))) mc_X11_weight l_X11_100 iv_X11_weight se_X11_weight (ci := 10) ⟨by decide, rfl⟩ L.s (k_X11_weight (l := ln (enX T n r D (I (m + 1)))) L (by rw [hX]; exact hZ.2.2.1) hZ.2.2.2.1) ⟨rfl, rfl⟩ (l8 rfl) ⟨l8 rfl, l8 rfl⟩ rfl rfl (l8 rfl) dX11_findWay_88 rfl ?_
  rw [hX]
  refine v_istore (n := 93) (al' := [.ref m, .int (nI D), .int (nI (3 ^ D)), .int (nI r), JJ, .int (sumX (enX T n r D (I (m + 1))) 3 n), .int (wS (enX T n r D (I (m + 1))) (ln (enX T n r D (I (m + 1)))))]) dX11_findWay_91 rfl rfl rfl ?_
  refine v_iload_n (n := 94) dX11_findWay_93 rfl rfl rfl ?_
  refine v_if_eq (n := 97) (tgt := 130) dX11_findWay_94 (by decide) rfl (fun hq94 => ?_) (fun hq94 => ?_)
  · have hr0 : r = 0 := eqn (b := 0) hq94 (by omega) (by decide)
    refine v_aload_n (n := 131) dX11_findWay_130 rfl rfl rfl ?_
    refine v_getR (n := 134) f_X11_22 rfl L.s L.g5 dX11_findWay_131 rfl ?_
    refine v_iconst (n := 135) (v := 0) dX11_findWay_134 c_0 rfl ?_
    refine v_iload (n := 137) dX11_findWay_135 rfl rfl ?_
    refine v_iast (n := 138) (j := 0) L.c5 (ix_lit rfl rfl rfl) dX11_findWay_137 rfl ?_
    refine v_aload_n (n := 139) dX11_findWay_138 rfl rfl rfl ?_
    refine v_getR (n := 142) f_X11_22 rfl L.s L.g5 dX11_findWay_139 rfl ?_
    refine v_iconst (n := 143) (v := 1) dX11_findWay_142 c_1 rfl ?_
    refine v_iload (n := 145) dX11_findWay_143 rfl rfl ?_
    refine v_iast (n := 146) (j := 1) L.c5 (ix_lit rfl rfl rfl) dX11_findWay_145 rfl ?_
    refine v_aload_n (n := 147) dX11_findWay_146 rfl rfl rfl ?_
    refine v_getR (n := 150) f_X11_22 rfl L.s L.g5 dX11_findWay_147 rfl ?_
    refine v_iconst (n := 151) (v := 2) dX11_findWay_150 c_2 rfl ?_
    refine v_iload_n (n := 152) dX11_findWay_151 rfl rfl rfl ?_
    refine v_iast (n := 153) (j := 2) L.c5 (ix_lit rfl rfl rfl) dX11_findWay_152 rfl ?_
    refine v_drop 5 (al' := [.ref m, .int (nI D), .int (nI (3 ^ D)), .int (nI r), JJ, JJ, .int (wS (enX T n r D (I (m + 1))) (ln (enX T n r D (I (m + 1)))))]) rfl ?_
    refine v_drop 6 (al' := [.ref m, .int (nI D), .int (nI (3 ^ D)), .int (nI r), JJ, JJ, JJ]) rfl ?_
    have e : wfR (I (m + 1)) T n D (r + 1) = ((sumX (enX T n r D (I (m + 1))) 3 n), (wS (enX T n r D (I (m + 1))) (ln (enX T n r D (I (m + 1))))), nI r) := by
      rw [wfR, stp]; exact if_pos (Or.inl (by simpa using hr0))
    exact t153_X11_findWay L h hb hD hr kk _ (((hE.set (Or.inr (Or.inl rfl))).set (Or.inr (Or.inl rfl))).set (Or.inr (Or.inl rfl))) (fun j hj => by rw [setI_ne (by omega), setI_ne (by omega), setI_ne (by omega)]; exact h2 j hj) (by rw [e]; exact ⟨by rw [sI_k (by decide), sI_k (by decide), sI_s], by rw [sI_k (by decide), sI_s], by rw [sI_s]⟩)
  · have hr0 : ¬ r = 0 := fun q => hq94 (by rw [q]; rfl)
    have hB := hB.resolve_left hr0
    refine v_iload (n := 99) dX11_findWay_97 rfl rfl ?_
    refine v_aload_n (n := 100) dX11_findWay_99 rfl rfl rfl ?_
    refine v_getR (n := 103) f_X11_22 rfl L.s L.g5 dX11_findWay_100 rfl ?_
    refine v_iconst (n := 104) (v := 0) dX11_findWay_103 c_0 rfl ?_
    refine v_iald (n := 105) (j := 0) L.c5 (ix_lit rfl rfl rfl) dX11_findWay_104 rfl ?_
    refine v_icmp_lt (n := 108) (tgt := 130) dX11_findWay_105 (by decide) rfl (fun hq105 => ?_) (fun hq105 => ?_)
    · rw [hB.1] at hq105
      refine v_aload_n (n := 131) dX11_findWay_130 rfl rfl rfl ?_
      refine v_getR (n := 134) f_X11_22 rfl L.s L.g5 dX11_findWay_131 rfl ?_
      refine v_iconst (n := 135) (v := 0) dX11_findWay_134 c_0 rfl ?_
      refine v_iload (n := 137) dX11_findWay_135 rfl rfl ?_
      refine v_iast (n := 138) (j := 0) L.c5 (ix_lit rfl rfl rfl) dX11_findWay_137 rfl ?_
      refine v_aload_n (n := 139) dX11_findWay_138 rfl rfl rfl ?_
      refine v_getR (n := 142) f_X11_22 rfl L.s L.g5 dX11_findWay_139 rfl ?_
      refine v_iconst (n := 143) (v := 1) dX11_findWay_142 c_1 rfl ?_
      refine v_iload (n := 145) dX11_findWay_143 rfl rfl ?_
      refine v_iast (n := 146) (j := 1) L.c5 (ix_lit rfl rfl rfl) dX11_findWay_145 rfl ?_
      refine v_aload_n (n := 147) dX11_findWay_146 rfl rfl rfl ?_
      refine v_getR (n := 150) f_X11_22 rfl L.s L.g5 dX11_findWay_147 rfl ?_
      refine v_iconst (n := 151) (v := 2) dX11_findWay_150 c_2 rfl ?_
      refine v_iload_n (n := 152) dX11_findWay_151 rfl rfl rfl ?_
      refine v_iast (n := 153) (j := 2) L.c5 (ix_lit rfl rfl rfl) dX11_findWay_152 rfl ?_
      refine v_drop 5 (al' := [.ref m, .int (nI D), .int (nI (3 ^ D)), .int (nI r), JJ, JJ, .int (wS (enX T n r D (I (m + 1))) (ln (enX T n r D (I (m + 1)))))]) rfl ?_
      refine v_drop 6 (al' := [.ref m, .int (nI D), .int (nI (3 ^ D)), .int (nI r), JJ, JJ, JJ]) rfl ?_
      have e : wfR (I (m + 1)) T n D (r + 1) = ((sumX (enX T n r D (I (m + 1))) 3 n), (wS (enX T n r D (I (m + 1))) (ln (enX T n r D (I (m + 1))))), nI r) := by
        rw [wfR, stp]; exact if_pos (Or.inr (Or.inl hq105))
      exact t153_X11_findWay L h hb hD hr kk _ (((hE.set (Or.inr (Or.inl rfl))).set (Or.inr (Or.inl rfl))).set (Or.inr (Or.inl rfl))) (fun j hj => by rw [setI_ne (by omega), setI_ne (by omega), setI_ne (by omega)]; exact h2 j hj) (by rw [e]; exact ⟨by rw [sI_k (by decide), sI_k (by decide), sI_s], by rw [sI_k (by decide), sI_s], by rw [sI_s]⟩)
    · rw [hB.1] at hq105
      refine v_iload (n := 110) dX11_findWay_108 rfl rfl ?_
      refine v_aload_n (n := 111) dX11_findWay_110 rfl rfl rfl ?_
      refine v_getR (n := 114) f_X11_22 rfl L.s L.g5 dX11_findWay_111 rfl ?_
      refine v_iconst (n := 115) (v := 0) dX11_findWay_114 c_0 rfl ?_
      refine v_iald (n := 116) (j := 0) L.c5 (ix_lit rfl rfl rfl) dX11_findWay_115 rfl ?_
      refine v_icmp_ne (n := 119) (tgt := 153) dX11_findWay_116 (by decide) rfl (fun hq116 => ?_) (fun hq116 => ?_)
      · rw [hB.1] at hq116
        refine v_drop 5 (al' := [.ref m, .int (nI D), .int (nI (3 ^ D)), .int (nI r), JJ, JJ, .int (wS (enX T n r D (I (m + 1))) (ln (enX T n r D (I (m + 1)))))]) rfl ?_
        refine v_drop 6 (al' := [.ref m, .int (nI D), .int (nI (3 ^ D)), .int (nI r), JJ, JJ, JJ]) rfl ?_
        have e : wfR (I (m + 1)) T n D (r + 1) = wfR (I (m + 1)) T n D r := by
          rw [wfR, stp]; exact if_neg (fun q => q.elim (fun q => hr0 (by simpa using q)) (fun q => q.elim (fun q => hq105 q) (fun q => hq116 q.1)))
        exact t153_X11_findWay L h hb hD hr kk J hE h2 (by rw [e]; exact hB)
      · rw [hB.1] at hq116
        refine v_iload (n := 121) dX11_findWay_119 rfl rfl ?_
        refine v_aload_n (n := 122) dX11_findWay_121 rfl rfl rfl ?_
        refine v_getR (n := 125) f_X11_22 rfl L.s L.g5 dX11_findWay_122 rfl ?_
        refine v_iconst (n := 126) (v := 1) dX11_findWay_125 c_1 rfl ?_
        refine v_iald (n := 127) (j := 1) L.c5 (ix_lit rfl rfl rfl) dX11_findWay_126 rfl ?_
        refine v_icmp_le (n := 130) (tgt := 153) dX11_findWay_127 (by decide) rfl (fun hq127 => ?_) (fun hq127 => ?_)
        · rw [hB.2.1] at hq127
          refine v_drop 5 (al' := [.ref m, .int (nI D), .int (nI (3 ^ D)), .int (nI r), JJ, JJ, .int (wS (enX T n r D (I (m + 1))) (ln (enX T n r D (I (m + 1)))))]) rfl ?_
          refine v_drop 6 (al' := [.ref m, .int (nI D), .int (nI (3 ^ D)), .int (nI r), JJ, JJ, JJ]) rfl ?_
          have e : wfR (I (m + 1)) T n D (r + 1) = wfR (I (m + 1)) T n D r := by
            rw [wfR, stp]; exact if_neg (fun q => q.elim (fun q => hr0 (by simpa using q)) (fun q => q.elim (fun q => hq105 q) (fun q => Int32.not_lt.mpr hq127 q.2)))
          exact t153_X11_findWay L h hb hD hr kk J hE h2 (by rw [e]; exact hB)
        · rw [hB.2.1] at hq127
          refine v_aload_n (n := 131) dX11_findWay_130 rfl rfl rfl ?_
          refine v_getR (n := 134) f_X11_22 rfl L.s L.g5 dX11_findWay_131 rfl ?_
          refine v_iconst (n := 135) (v := 0) dX11_findWay_134 c_0 rfl ?_
          refine v_iload (n := 137) dX11_findWay_135 rfl rfl ?_
          refine v_iast (n := 138) (j := 0) L.c5 (ix_lit rfl rfl rfl) dX11_findWay_137 rfl ?_
          refine v_aload_n (n := 139) dX11_findWay_138 rfl rfl rfl ?_
          refine v_getR (n := 142) f_X11_22 rfl L.s L.g5 dX11_findWay_139 rfl ?_
          refine v_iconst (n := 143) (v := 1) dX11_findWay_142 c_1 rfl ?_
          refine v_iload (n := 145) dX11_findWay_143 rfl rfl ?_
          refine v_iast (n := 146) (j := 1) L.c5 (ix_lit rfl rfl rfl) dX11_findWay_145 rfl ?_
          refine v_aload_n (n := 147) dX11_findWay_146 rfl rfl rfl ?_
          refine v_getR (n := 150) f_X11_22 rfl L.s L.g5 dX11_findWay_147 rfl ?_
          refine v_iconst (n := 151) (v := 2) dX11_findWay_150 c_2 rfl ?_
          refine v_iload_n (n := 152) dX11_findWay_151 rfl rfl rfl ?_
          refine v_iast (n := 153) (j := 2) L.c5 (ix_lit rfl rfl rfl) dX11_findWay_152 rfl ?_
          refine v_drop 5 (al' := [.ref m, .int (nI D), .int (nI (3 ^ D)), .int (nI r), JJ, JJ, .int (wS (enX T n r D (I (m + 1))) (ln (enX T n r D (I (m + 1)))))]) rfl ?_
          refine v_drop 6 (al' := [.ref m, .int (nI D), .int (nI (3 ^ D)), .int (nI r), JJ, JJ, JJ]) rfl ?_
          have e : wfR (I (m + 1)) T n D (r + 1) = ((sumX (enX T n r D (I (m + 1))) 3 n), (wS (enX T n r D (I (m + 1))) (ln (enX T n r D (I (m + 1))))), nI r) := by
            rw [wfR, stp]; exact if_pos (Or.inr (Or.inr ⟨hq116, Int32.not_le.mp hq127⟩))
          exact t153_X11_findWay L h hb hD hr kk _ (((hE.set (Or.inr (Or.inl rfl))).set (Or.inr (Or.inl rfl))).set (Or.inr (Or.inl rfl))) (fun j hj => by rw [setI_ne (by omega), setI_ne (by omega), setI_ne (by omega)]; exact h2 j hj) (by rw [e]; exact ⟨by rw [sI_k (by decide), sI_k (by decide), sI_s], by rw [sI_k (by decide), sI_s], by rw [sI_s]⟩)

theorem p3_gt {d : Nat} (h : 0 < d) : 1 < 3 ^ d := Nat.one_lt_pow (by omega) (by decide)
theorem p3_div {d : Nat} (h : ¬ d = 0) : 3 ^ d / 3 = 3 ^ (d - 1) := by
  obtain ⟨e, rfl⟩ : ∃ e, d = e + 1 := ⟨d - 1, by omega⟩
  rw [Nat.pow_succ, Nat.mul_div_cancel _ (by decide)]; rfl
theorem pk_dv {a d : Nat} (ha : a < 2 ^ 31) (h0 : 0 < d) (hd : d < 2 ^ 31) : nI a / nI d = nI (a / d) := pk_div ha h0 hd
theorem dg_rng {q : Nat} (h : q < 3) : -10 ≤ (nI q - 1).toInt ∧ (nI q - 1).toInt ≤ 10 := by
  have : q = 0 ∨ q = 1 ∨ q = 2 := by omega
  rcases this with rfl | rfl | rfl <;> decide

set_option maxRecDepth 100000 in
set_option maxHeartbeats 1000000 in
theorem l38_X11_findWay {ro : Ro} {S : St} {I : In} {m T n l b D r : Nat} (L : LayM S m) (h : WX (I (m + 1)) T n l b) (hb : b < 900000000) (hD : D ≤ 5) (hr : r < 3 ^ D) (kk : ∀ J, cR I m T n D (r + 1) J → V RX11 cX11_findWay 7 (none) "findWay" ro (rmD 6 0 0) (QM 0 0 (fun r0 S' I' => r0 = none ∧ S' = S ∧ cR I m T n D (3 ^ D) I')) 0 0 25 [.ref m, .int (nI D), .int (nI (3 ^ D)), .int (nI (r + 1)), JJ, JJ, JJ] [] S J) : ∀ d k, k + d = D → ∀ Z J, J (m + 1) = Z → WX Z T n (ln Z) (b + 999 * k) → enX T n r d Z = (enX T n r D (I (m + 1))) → Eqx (scR m) (uP I (m + 4) (I (m + 1)) 116) J → (∀ j, 116 ≤ j → J (m + 1) j = (I (m + 1)) j) → (r = 0 ∨ bst J m (wfR (I (m + 1)) T n D r)) → V RX11 cX11_findWay 7 (none) "findWay" ro (rmD 6 0 0) (QM 0 0 (fun r0 S' I' => r0 = none ∧ S' = S ∧ cR I m T n D (3 ^ D) I')) 0 0 38 [.ref m, .int (nI D), .int (nI (3 ^ D)), .int (nI r), .int (nI (digF d)), .int (nI k), JJ] [] S J := by
  have hp := p3_le hD
  intro d
  induction d with
  | zero =>
    intro k hk Z J hX hZ hen hE h2 hB
    refine v_iload (n := 40) dX11_findWay_38 rfl rfl ?_
    refine v_iload_n (n := 41) dX11_findWay_40 rfl rfl rfl ?_
    refine v_icmp_ge (n := 44) (tgt := 80) dX11_findWay_41 (by decide) rfl (fun hq41 => ?_) (fun hq41 => ?_)
    · refine v_drop 4 (al' := [.ref m, .int (nI D), .int (nI (3 ^ D)), .int (nI r), JJ, .int (nI k), JJ]) rfl ?_
      refine v_drop 5 (al' := [.ref m, .int (nI D), .int (nI (3 ^ D)), .int (nI r), JJ, JJ, JJ]) rfl ?_
      obtain rfl : k = D := by omega
      subst hX
      rw [enX] at hen
      exact t80_X11_findWay L h hb hD hr kk J hen (by rw [← hen]; exact hZ) hE h2 hB
    · exact absurd ((nI_leI (a := D) (b := k) (by omega) (by omega)).mpr (by omega)) hq41
  | succ d ih =>
    intro k hk Z J hX hZ hen hE h2 hB
    have hpd := p3_le (show d ≤ 5 by omega)
    rw [show digF (d + 1) = 3 ^ d from rfl]
    refine v_iload (n := 40) dX11_findWay_38 rfl rfl ?_
    refine v_iload_n (n := 41) dX11_findWay_40 rfl rfl rfl ?_
    refine v_icmp_ge (n := 44) (tgt := 80) dX11_findWay_41 (by decide) rfl (fun hq41 => ?_) (fun hq41 => ?_)
    · exact absurd (le_out hq41 (by omega) (by omega)) (by omega)
    · refine v_aload_n (n := 45) dX11_findWay_44 rfl rfl rfl ?_
      refine v_iload_n (n := 46) dX11_findWay_45 rfl rfl rfl ?_
      refine v_iload (n := 48) dX11_findWay_46 rfl rfl ?_
      refine v_idiv (n := 49) dX11_findWay_48 (nI_ne0 (by omega) (by omega)) rfl ?_
      refine v_iconst (n := 50) (v := 3) dX11_findWay_49 c_3 rfl ?_
      refine v_irem (n := 51) dX11_findWay_50 (by decide) rfl ?_
      refine v_iconst (n := 52) (v := 1) dX11_findWay_51 c_1 rfl ?_
      refine v_isub (n := 53) dX11_findWay_52 rfl ?_
      rw [lit_nI 3, pk_dv (show r < 2 ^ 31 by omega) (show 0 < 3 ^ d by omega) (show 3 ^ d < 2 ^ 31 by omega), rem_nI (a := r / 3 ^ d) (d := 3) (by have := Nat.div_le_self r (3 ^ d); omega) (by decide) (by decide)]
      refine v_callV (n := 56) mc_X11_day l_X11_160 iv_X11_day se_X11_day (ci := 10) ⟨by decide, rfl⟩ L.s (k_X11_day (T := T) (n := n) (l := ln Z) L (by rw [hX]; exact hZ) (by omega) (dg_rng (Nat.mod_lt _ (by decide)))) ⟨rfl, rfl⟩ (l8 rfl) ⟨l8 rfl, l8 rfl⟩ rfl rfl (l8 rfl) dX11_findWay_53 rfl ?_
      rintro _ _ J1 ⟨rfl, rfl, hJ1, hE1⟩
      rw [hX] at hJ1
      refine v_istore (n := 58) (al' := [.ref m, .int (nI D), .int (nI (3 ^ D)), .int (nI r), .int (nI (3 ^ d)), .int (nI k), .int (dayN (J (m + 1)) T n (ln Z) (nI (r / 3 ^ d % 3) - 1))]) dX11_findWay_56 rfl rfl rfl ?_
      refine v_iload (n := 60) dX11_findWay_58 rfl rfl ?_
      refine v_iconst (n := 61) (v := 1) dX11_findWay_60 c_1 rfl ?_
      refine v_icmp_le (n := 64) (tgt := 71) dX11_findWay_61 (by decide) rfl (fun hq61 => ?_) (fun hq61 => ?_)
      · rw [lit_nI 1] at hq61
        have hd0 : d = 0 := by
          rcases Nat.eq_zero_or_pos d with q | q
          · exact q
          · exact absurd (le_out hq61 (by omega) (by decide)) (by have := p3_gt q; omega)
        refine v_iconst (n := 72) (v := 1) dX11_findWay_71 c_1 rfl ?_
        refine v_istore (n := 74) (al' := [.ref m, .int (nI D), .int (nI (3 ^ D)), .int (nI r), .int 1, .int (nI k), .int (dayN (J (m + 1)) T n (ln Z) (nI (r / 3 ^ d % 3) - 1))]) dX11_findWay_72 rfl rfl rfl ?_
        refine v_iinc (n := 77) (v := (nI k) + 1) (al' := [.ref m, .int (nI D), .int (nI (3 ^ D)), .int (nI r), .int 1, .int ((nI k) + 1), .int (dayN (J (m + 1)) T n (ln Z) (nI (r / 3 ^ d % 3) - 1))]) dX11_findWay_74 rfl (by rw [c_1]) rfl rfl rfl ?_
        refine v_goto (tgt := 38) dX11_findWay_77 (by decide) ?_
        refine v_drop 6 (al' := [.ref m, .int (nI D), .int (nI (3 ^ D)), .int (nI r), .int 1, .int ((nI k) + 1), JJ]) rfl ?_
        rw [nI_1]
        rw [show 1 = nI (digF d) from by rw [digF, if_pos hd0]; rfl]
        obtain ⟨l1, e1, e2⟩ := day_WX hZ (by omega) (nI (r / 3 ^ d % 3) - 1)
        have hk116 : ∀ j, 116 ≤ j → J1 (m + 1) j = I (m + 1) j := fun j hj => by rw [hJ1, day_keep hZ (by omega) _ j (by omega) (by omega) (by omega) (by omega) (by omega) (by omega), ← hX]; exact h2 j hj
        exact ih (k + 1) (by omega) _ J1 hJ1 (by rw [e1]; exact (show b + 999 * (k + 1) = b + 999 * k + 999 by omega) ▸ e2) (by rw [enX] at hen; exact hen) (hE.tr (hE1.mono (fun a q => q.elim Or.inl (fun z9 => Or.inr (Or.inr z9))))) hk116 (hB.imp_right (fun q => ⟨by rw [hE1 (m + 5) (by unfold scN scM; omega)]; exact q.1, by rw [hE1 (m + 5) (by unfold scN scM; omega)]; exact q.2.1, by rw [hE1 (m + 5) (by unfold scN scM; omega)]; exact q.2.2⟩))
      · rw [lit_nI 1] at hq61
        have hd1 := nle_in hq61 (by omega) (by decide)
        have hd0 : ¬ d = 0 := by intro q; subst q; exact absurd hd1 (by decide)
        refine v_iload (n := 66) dX11_findWay_64 rfl rfl ?_
        refine v_iconst (n := 67) (v := 3) dX11_findWay_66 c_3 rfl ?_
        refine v_idiv (n := 68) dX11_findWay_67 (by decide) rfl ?_
        refine v_goto (tgt := 72) dX11_findWay_68 (by decide) ?_
        refine v_istore (n := 74) (al' := [.ref m, .int (nI D), .int (nI (3 ^ D)), .int (nI r), .int ((nI (3 ^ d)) / 3), .int (nI k), .int (dayN (J (m + 1)) T n (ln Z) (nI (r / 3 ^ d % 3) - 1))]) dX11_findWay_72 rfl rfl rfl ?_
        refine v_iinc (n := 77) (v := (nI k) + 1) (al' := [.ref m, .int (nI D), .int (nI (3 ^ D)), .int (nI r), .int ((nI (3 ^ d)) / 3), .int ((nI k) + 1), .int (dayN (J (m + 1)) T n (ln Z) (nI (r / 3 ^ d % 3) - 1))]) dX11_findWay_74 rfl (by rw [c_1]) rfl rfl rfl ?_
        refine v_goto (tgt := 38) dX11_findWay_77 (by decide) ?_
        refine v_drop 6 (al' := [.ref m, .int (nI D), .int (nI (3 ^ D)), .int (nI r), .int ((nI (3 ^ d)) / 3), .int ((nI k) + 1), JJ]) rfl ?_
        rw [nI_1]
        rw [show ((nI (3 ^ d)) / 3) = nI (digF d) from by rw [digF, if_neg hd0, lit_nI 3, pk_div (by omega) (by decide) (by decide)]; congr 1; exact p3_div hd0]
        obtain ⟨l1, e1, e2⟩ := day_WX hZ (by omega) (nI (r / 3 ^ d % 3) - 1)
        have hk116 : ∀ j, 116 ≤ j → J1 (m + 1) j = I (m + 1) j := fun j hj => by rw [hJ1, day_keep hZ (by omega) _ j (by omega) (by omega) (by omega) (by omega) (by omega) (by omega), ← hX]; exact h2 j hj
        exact ih (k + 1) (by omega) _ J1 hJ1 (by rw [e1]; exact (show b + 999 * (k + 1) = b + 999 * k + 999 by omega) ▸ e2) (by rw [enX] at hen; exact hen) (hE.tr (hE1.mono (fun a q => q.elim Or.inl (fun z9 => Or.inr (Or.inr z9))))) hk116 (hB.imp_right (fun q => ⟨by rw [hE1 (m + 5) (by unfold scN scM; omega)]; exact q.1, by rw [hE1 (m + 5) (by unfold scN scM; omega)]; exact q.2.1, by rw [hE1 (m + 5) (by unfold scN scM; omega)]; exact q.2.2⟩))

set_option maxRecDepth 100000 in
set_option maxHeartbeats 1000000 in
theorem l25_X11_findWay {ro : Ro} {S : St} {I : In} {m T n l b D : Nat} (L : LayM S m) (h : WX (I (m + 1)) T n l b) (hb : b < 900000000) (hD : D ≤ 5) (hD1 : 1 ≤ D) : ∀ c r, r ≤ 3 ^ D → 3 ^ D < r + c → ∀ J, cR I m T n D r J → V RX11 cX11_findWay 7 (none) "findWay" ro (rmD 6 0 0) (QM 0 0 (fun r0 S' I' => r0 = none ∧ S' = S ∧ cR I m T n D (3 ^ D) I')) 0 0 25 [.ref m, .int (nI D), .int (nI (3 ^ D)), .int (nI r), JJ, JJ, JJ] [] S J := by
  have hp := p3_le hD
  intro c
  induction c with
  | zero => intro r hr hk; exact absurd hk (by omega)
  | succ c ih =>
    intro r hr hk J hc
    refine v_iload_n (n := 26) dX11_findWay_25 rfl rfl rfl ?_
    refine v_iload_n (n := 27) dX11_findWay_26 rfl rfl rfl ?_
    refine v_icmp_ge (n := 30) (tgt := 163) dX11_findWay_27 (by decide) rfl (fun hq27 => ?_) (fun hq27 => ?_)
    · have hge := le_out hq27 (by omega) (by omega)
      have hr9 : r = 3 ^ D := by omega
      rw [hr9] at hc
      exact v_vret rfl ⟨rfl, rfl, hc⟩ ⟨l8 rfl, l8 rfl⟩ dX11_findWay_163
    · have hlt := nle_in hq27 (by omega) (by omega)
      refine v_iload_n (n := 31) dX11_findWay_30 rfl rfl rfl ?_
      refine v_iconst (n := 32) (v := 3) dX11_findWay_31 c_3 rfl ?_
      refine v_idiv (n := 33) dX11_findWay_32 (by decide) rfl ?_
      refine v_istore (n := 35) (al' := [.ref m, .int (nI D), .int (nI (3 ^ D)), .int (nI r), .int ((nI (3 ^ D)) / 3), JJ, JJ]) dX11_findWay_33 rfl rfl rfl ?_
      refine v_iconst (n := 36) (v := 0) dX11_findWay_35 c_0 rfl ?_
      refine v_istore (n := 38) (al' := [.ref m, .int (nI D), .int (nI (3 ^ D)), .int (nI r), .int ((nI (3 ^ D)) / 3), .int 0, JJ]) dX11_findWay_36 rfl rfl rfl ?_
      rw [show nI (3 ^ D) / 3 = nI (digF D) from by rw [digF, if_neg (by omega), lit_nI 3, pk_div (by omega) (by decide) (by decide)]; congr 1; exact p3_div (by omega)]
      have hXJ : J (m + 1) = (I (m + 1)) := (hc.1 (m + 1) (by unfold scQ scM; omega)).trans (uP_ne (by omega))
      have hln := h.lnn
      exact l38_X11_findWay L h hb hD hlt (fun J2 q => ih (r + 1) (by omega) (by omega) J2 q) D 0 (by omega) _ J hXJ (by rw [hln]; exact h) rfl (hc.1.mono (fun a q => Or.inr q)) (fun j _ => by rw [hXJ]) hc.2

set_option maxRecDepth 100000 in
set_option maxHeartbeats 1000000 in
theorem l8_X11_findWay {ro : Ro} {S : St} {I J : In} {m T n l b D : Nat} (L : LayM S m) (h : WX (I (m + 1)) T n l b) (hb : b < 900000000) (hD : D ≤ 5) (hD1 : 1 ≤ D) (kk : V RX11 cX11_findWay 7 (none) "findWay" ro (rmD 6 0 0) (QM 0 0 (fun r0 S' I' => r0 = none ∧ S' = S ∧ cR I m T n D (3 ^ D) I')) 0 0 25 [.ref m, .int (nI D), .int (nI (3 ^ D)), .int 0, JJ, JJ, JJ] [] S J) : ∀ c k, k ≤ D → D < k + c → V RX11 cX11_findWay 7 (none) "findWay" ro (rmD 6 0 0) (QM 0 0 (fun r0 S' I' => r0 = none ∧ S' = S ∧ cR I m T n D (3 ^ D) I')) 0 0 8 [.ref m, .int (nI D), .int (nI (3 ^ k)), .int (nI k), JJ, JJ, JJ] [] S J := by
  intro c
  induction c with
  | zero => intro k hk hc; exact absurd hc (by omega)
  | succ c ih =>
    intro k hk hc
    refine v_iload_n (n := 9) dX11_findWay_8 rfl rfl rfl ?_
    refine v_iload_n (n := 10) dX11_findWay_9 rfl rfl rfl ?_
    refine v_icmp_ge (n := 13) (tgt := 23) dX11_findWay_10 (by decide) rfl (fun hq10 => ?_) (fun hq10 => ?_)
    · have hk9 : k = D := Nat.le_antisymm hk (le_out hq10 (by omega) (by omega))
      refine v_iconst (n := 24) (v := 0) dX11_findWay_23 c_0 rfl ?_
      refine v_istore_n (n := 25) (al' := [.ref m, .int (nI D), .int (nI (3 ^ k)), .int 0, JJ, JJ, JJ]) dX11_findWay_24 rfl rfl rfl rfl ?_
      rw [hk9]
      exact kk
    · have hlt := nle_in hq10 (by omega) (by omega)
      refine v_iload_n (n := 14) dX11_findWay_13 rfl rfl rfl ?_
      refine v_iconst (n := 15) (v := 3) dX11_findWay_14 c_3 rfl ?_
      refine v_imul (n := 16) dX11_findWay_15 rfl ?_
      refine v_istore_n (n := 17) (al' := [.ref m, .int (nI D), .int ((nI (3 ^ k)) * 3), .int (nI k), JJ, JJ, JJ]) dX11_findWay_16 rfl rfl rfl rfl ?_
      refine v_iinc (n := 20) (v := (nI k) + 1) (al' := [.ref m, .int (nI D), .int ((nI (3 ^ k)) * 3), .int ((nI k) + 1), JJ, JJ, JJ]) dX11_findWay_17 rfl (by rw [c_1]) rfl rfl rfl ?_
      refine v_goto (tgt := 8) dX11_findWay_20 (by decide) ?_
      rw [nI_1, lit_nI 3, pk_mul, ← Nat.pow_succ]
      exact ih (k + 1) hlt (by omega)

set_option maxRecDepth 100000 in
set_option maxHeartbeats 1000000 in
theorem k_X11_findWay {ro : Ro} {S : St} {I : In} {m T n l b D : Nat} (L : LayM S m) (h : WX (I (m + 1)) T n l b) (hb : b < 900000000) (hD : D ≤ 5) (hD1 : 1 ≤ D) : Ok mX11_findWay ro 6 0 0 [.ref m, .int (nI D)] S I (fun r0 S' I' => r0 = none ∧ S' = S ∧ cR I m T n D (3 ^ D) I') := by
  refine ok_of (al := [.ref m, .int (nI D), JJ, JJ, JJ, JJ, JJ]) (by decide) (l8 rfl) rfl ?_
  refine v_aload_n (n := 1) dX11_findWay_0 rfl rfl rfl ?_
  refine v_cVv (n := 4) mc_X11_thinks l_X11_166 iv_X11_thinks se_X11_thinks (ci := 10) ⟨by decide, rfl⟩ L.s (k_X11_thinks L) ⟨rfl, rfl⟩ (l8 rfl) ⟨l8 rfl, l8 rfl⟩ rfl rfl (l8 rfl) dX11_findWay_1 rfl ?_
  refine v_iconst (n := 5) (v := 1) dX11_findWay_4 c_1 rfl ?_
  refine v_istore_n (n := 6) (al' := [.ref m, .int (nI D), .int 1, JJ, JJ, JJ, JJ]) dX11_findWay_5 rfl rfl rfl rfl ?_
  refine v_iconst (n := 7) (v := 0) dX11_findWay_6 c_0 rfl ?_
  refine v_istore_n (n := 8) (al' := [.ref m, .int (nI D), .int 1, .int 0, JJ, JJ, JJ]) dX11_findWay_7 rfl rfl rfl rfl ?_
  exact l8_X11_findWay L h hb hD hD1 (l25_X11_findWay L h hb hD hD1 (3 ^ D + 1) 0 (Nat.zero_le _) (by omega) _ ⟨Eqx.rf, Or.inl rfl⟩) (D + 1) 0 (Nat.zero_le _) (by omega)

theorem way_eq {I J : In} {m : Nat} (h : Eqx (scQ m) (uP I (m + 4) (I (m + 1)) 116) J) : Eqx (scP m) I J := fun a ha => by
  rw [h a (by unfold scQ scM; unfold scP scM at ha; omega), uP_ne (by unfold scP at ha; omega)]

set_option maxRecDepth 100000 in
set_option maxHeartbeats 1000000 in
theorem k_X11_way {ro : Ro} {S : St} {I : In} {xa xb : Int32} {m T n l b : Nat} (L : LayM S m) (h : WX (I (m + 1)) T n l b) (hb : b < 900000000) : Ok mX11_way ro 7 0 0 [.ref m, .int xa, .int xb] S I (fun r S' I' => r = some (.int (wayS (I (m + 1)) T n xa xb)) ∧ S' = S ∧ Eqx (scP m) I I') := by
  refine ok_of (al := [.ref m, .int xa, .int xb]) (by decide) (l8 rfl) rfl ?_
  refine v_iload_n (n := 1) dX11_way_0 rfl rfl rfl ?_
  refine v_iconst (n := 2) (v := 1) dX11_way_1 c_1 rfl ?_
  refine v_iconst (n := 3) (v := 5) dX11_way_2 c_5 rfl ?_
  refine v_cSi (n := 6) (x := (bi (inn xa 1 5))) mc_X11_in l_X11_78 sta_X11_in k_X11_in ⟨rfl, rfl⟩ (l8 rfl) ⟨l8 rfl, l8 rfl⟩ rfl rfl (l8 rfl) dX11_way_3 rfl ?_
  refine v_if_eq (n := 9) (tgt := 18) dX11_way_6 (by decide) rfl (fun hq6 => ?_) (fun hq6 => ?_)
  · refine v_ldc (n := 20) k_X11_90 dX11_way_18 rfl ?_
    exact v_iret rfl ⟨by clear h; simp_all [bi_0, bi_n0, wayS], rfl, Eqx.rf⟩ ⟨l8 rfl, l8 rfl⟩ dX11_way_20
  · refine v_iload_n (n := 10) dX11_way_9 rfl rfl rfl ?_
    refine v_iconst (n := 11) (v := 0) dX11_way_10 c_0 rfl ?_
    refine v_iconst (n := 12) (v := 2) dX11_way_11 c_2 rfl ?_
    refine v_cSi (n := 15) (x := (bi (inn xb 0 2))) mc_X11_in l_X11_78 sta_X11_in k_X11_in ⟨rfl, rfl⟩ (l8 rfl) ⟨l8 rfl, l8 rfl⟩ rfl rfl (l8 rfl) dX11_way_12 rfl ?_
    refine v_if_ne (n := 18) (tgt := 21) dX11_way_15 (by decide) rfl (fun hq15 => ?_) (fun hq15 => ?_)
    · obtain ⟨D, hD1, hD, rfl⟩ := inn_get1 (a := 5) (c := 1) (bi_n0.mp hq6) (by decide) (by decide)
      obtain ⟨u, hu, rfl⟩ := inn_get (a := 2) (bi_n0.mp hq15) (by decide)
      refine v_aload_n (n := 22) dX11_way_21 rfl rfl rfl ?_
      refine v_getR (n := 25) f_X11_9 rfl L.s L.g0 dX11_way_22 rfl ?_
      refine v_iconst (n := 26) (v := 1) dX11_way_25 c_1 rfl ?_
      refine v_iald (n := 27) (j := 1) L.c0 (ix_lit rfl rfl rfl) dX11_way_26 rfl ?_
      refine v_if_ne (n := 30) (tgt := 33) dX11_way_27 (by decide) rfl (fun hq27 => ?_) (fun hq27 => ?_)
      · refine v_aload_n (n := 34) dX11_way_33 rfl rfl rfl ?_
        refine v_iload_n (n := 35) dX11_way_34 rfl rfl rfl ?_
        refine v_callV (n := 38) mc_X11_findWay l_X11_175 iv_X11_findWay se_X11_findWay (ci := 10) ⟨by decide, rfl⟩ L.s (k_X11_findWay (T := T) (n := n) (D := D) L h hb (by omega) (by omega)) ⟨rfl, rfl⟩ (l8 rfl) ⟨l8 rfl, l8 rfl⟩ rfl rfl (l8 rfl) dX11_way_35 rfl ?_
        rintro _ _ J ⟨rfl, rfl, hc⟩
        have hp := p3_le (show D ≤ 5 by omega)
        have hB := hc.2.resolve_left (by omega)
        refine v_aload_n (n := 39) dX11_way_38 rfl rfl rfl ?_
        refine v_getR (n := 42) f_X11_22 rfl L.s L.g5 dX11_way_39 rfl ?_
        refine v_iload_n (n := 43) dX11_way_42 rfl rfl rfl ?_
        refine v_iald (n := 44) (j := u) L.c5 (ix_nI (by omega) (by decide)) dX11_way_43 rfl ?_
        refine v_iret rfl ⟨?_, rfl, way_eq hc.1⟩ ⟨l8 rfl, l8 rfl⟩ dX11_way_44
        rw [wayS, if_pos (by simp only [Bool.and_eq_true]; exact ⟨bi_n0.mp hq6, bi_n0.mp hq15⟩), if_neg hq27, nI_clamp (by omega)]
        rcases (show u = 0 ∨ u = 1 ∨ u = 2 by omega) with rfl | rfl | rfl
        · rw [hB.1]; rfl
        · rw [hB.2.1]; rfl
        · rw [hB.2.2]; rfl
      · refine v_ldc (n := 32) k_X11_152 dX11_way_30 rfl ?_
        exact v_iret rfl ⟨by clear h; simp_all [bi_0, bi_n0, wayS], rfl, Eqx.rf⟩ ⟨l8 rfl, l8 rfl⟩ dX11_way_32
    · refine v_ldc (n := 20) k_X11_90 dX11_way_18 rfl ?_
      exact v_iret rfl ⟨by clear h; simp_all [bi_0, bi_n0, wayS], rfl, Eqx.rf⟩ ⟨l8 rfl, l8 rfl⟩ dX11_way_20

