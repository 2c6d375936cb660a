/-! ===== the calls of the class: tell, check, images, counts ===== -/
def TpR (I J : In) (x m : Nat) : Prop := I (x + 80) 1 = J m 7 ∧ ∀ j, I (x + 80 + 1) j = J (m + 6) j
def WtR (I J : In) (x m : Nat) : Prop := I x 10 = J m 33 ∧ ∀ j, j < 60 → I (x + 87) j = J (m + 22) j
def QW (S : St) (I : In) (x m : Nat) (F : Int32 × In) : Option Value → St → In → Prop := fun r S' I' => r = some (.int F.1) ∧ S' = S ∧ WtR I' F.2 x m ∧ (∀ k, k ≠ 10 → I' x k = I x k) ∧ ∀ a, a ≠ x → a ≠ x + 87 → I' a = I a
theorem lt_60 {w : Nat} (hw : w ≤ 60) (h : ¬ nI w < 60) : w = 60 := by
  rcases Nat.lt_or_ge w 60 with q | q
  · exact absurd (nI_lt (a := w) (b := 60) q (by decide)) h
  · omega
theorem lt_60' {w : Nat} (hw : w ≤ 60) (h : nI w < 60) : w < 60 := (nI_ltI (a := w) (b := 60) (by omega) (by decide)).mp h
set_option maxRecDepth 100000 in
set_option maxHeartbeats 1000000 in
theorem c_X10_tell {ro : Ro} {S : St} {I : In} {xa : Int32} {x m w : Nat} {J : In} (L : LayX S x) (hWt : WtR I J x m) (hw33 : J m 33 = nI w) (hw : w ≤ 60) : Ok mX10_tell ro 0 0 0 [.ref x, .int xa] S I (QW S I x m (tellM J m xa)) := by
  refine ok_of (al := [.ref x, .int xa]) (by decide) (l8 rfl) rfl ?_
  refine v_aload_n (n := 1) dX10_tell_0 rfl rfl rfl ?_
  refine v_getI (n := 4) f_X10_66 rfl L.s dX10_tell_1 rfl ?_
  rw [hWt.1, hw33]
  refine v_bipush (n := 6) (v := 60) dX10_tell_4 b_60 rfl ?_
  refine v_icmp_lt (n := 9) (tgt := 12) dX10_tell_6 (by decide) rfl (fun hq6 => ?_) (fun hq6 => ?_)
  · have hlt := lt_60' hw hq6
    have hne : ¬ J m 33 = 60 := by rw [hw33]; exact fun z => absurd ((nI_eq (a := w) (b := 60) (by omega) (by decide)).mp z) (by omega)
    refine v_aload_n (n := 13) dX10_tell_12 rfl rfl rfl ?_
    refine v_getR (n := 16) f_X10_62 rfl L.s L.g9 dX10_tell_13 rfl ?_
    refine v_aload_n (n := 17) dX10_tell_16 rfl rfl rfl ?_
    refine v_getI (n := 20) f_X10_66 rfl L.s dX10_tell_17 rfl ?_
    rw [hWt.1, hw33]
    refine v_iload_n (n := 21) dX10_tell_20 rfl rfl rfl ?_
    refine v_iast (n := 22) (j := w) L.c9 (ix_nI hlt (by decide)) dX10_tell_21 rfl ?_
    refine v_aload_n (n := 23) dX10_tell_22 rfl rfl rfl ?_
    refine v_dup (n := 24) dX10_tell_23 rfl rfl ?_
    refine v_getI (n := 27) f_X10_66 rfl L.s dX10_tell_24 rfl ?_
    rw [sI_o (by omega), hWt.1, hw33]
    refine v_iconst (n := 28) (v := 1) dX10_tell_27 c_1 rfl ?_
    refine v_iadd (n := 29) dX10_tell_28 rfl ?_
    refine v_putI (n := 32) f_X10_66 rfl (Or.inl rfl) L.s dX10_tell_29 rfl ?_
    refine v_aload_n (n := 33) dX10_tell_32 rfl rfl rfl ?_
    refine v_getI (n := 36) f_X10_66 rfl L.s dX10_tell_33 rfl ?_
    rw [sI_s, nI_1]
    have F9 : tellM J m xa = (nI (w + 1), setI (setI J (m + 22) w xa) m 33 (nI (w + 1))) := by rw [tellM, if_neg hne, hw33, nI_1, nI_clamp (by omega)]
    rw [F9]
    refine v_iret rfl ⟨rfl, rfl, ⟨by rw [sI_s]; exact sI_s.symm, fun j hj => ?_⟩, fun k hk => by rw [sI_k hk, sI_o (by omega)], fun a h1 h2 => by rw [setI_ne h1, setI_ne h2]⟩ ⟨l8 rfl, l8 rfl⟩ dX10_tell_36
    refine Eq.trans ?_ (show setI (setI J (m + 22) w xa) m 33 (nI (w + 1)) (m + 22) j = _ from rfl)
    rw [sI_o (show x + 87 ≠ x by omega), sI_o (show m + 22 ≠ m by omega)]
    by_cases c : j = w
    · subst c; rw [sI_s, sI_s]
    · rw [sI_k c, sI_k c]; exact hWt.2 j hj
  · have h60 : J m 33 = 60 := by rw [hw33, lt_60 hw hq6]; rfl
    refine v_ldc (n := 11) k_X10_94 dX10_tell_9 rfl ?_
    have F9 : tellM J m xa = (-1000000003, J) := by rw [tellM, if_pos h60]
    rw [F9]
    exact v_iret rfl ⟨rfl, rfl, hWt, fun _ _ => rfl, fun _ _ _ => rfl⟩ ⟨l8 rfl, l8 rfl⟩ dX10_tell_11

set_option maxRecDepth 100000 in
set_option maxHeartbeats 1000000 in
theorem k_X10_waitsAt {ro : Ro} {S : St} {I : In} {x p w : Nat} {xv : Int32} (L : LayX S x) (hp : p ≤ 100) (hw : w ≤ 60) : Ok mX10_waitsAt ro 0 0 0 [.ref x, .int (nI p), .int (nI w), .int xv] S I (RI (bi (decide (p < w ∧ I (x + 87) p = xv))) S I) := by
  refine ok_of (al := [.ref x, .int (nI p), .int (nI w), .int xv]) (by decide) (l8 rfl) rfl ?_
  refine v_iload_n (n := 1) dX10_waitsAt_0 rfl rfl rfl ?_
  refine v_iload_n (n := 2) dX10_waitsAt_1 rfl rfl rfl ?_
  refine v_icmp_ge (n := 5) (tgt := 25) dX10_waitsAt_2 (by decide) rfl (fun hq2 => ?_) (fun hq2 => ?_)
  · refine v_iconst (n := 26) (v := 0) dX10_waitsAt_25 c_0 rfl ?_
    exact v_rZ rfl (by rw [decide_eq_false (fun z => absurd (le_out hq2 (by omega) (by omega)) (by omega))]; rfl) rfl rfl ⟨l8 rfl, l8 rfl⟩ dX10_waitsAt_26
  · refine v_iload_n (n := 6) dX10_waitsAt_5 rfl rfl rfl ?_
    refine v_bipush (n := 8) (v := 60) dX10_waitsAt_6 b_60 rfl ?_
    refine v_icmp_ge (n := 11) (tgt := 25) dX10_waitsAt_8 (by decide) rfl (fun hq8 => ?_) (fun hq8 => ?_)
    · exact absurd (le_out (a := 60) hq8 (by decide) (by omega)) (by have := nle_in hq2 (by omega) (by omega); omega)
    · refine v_aload_n (n := 12) dX10_waitsAt_11 rfl rfl rfl ?_
      refine v_getR (n := 15) f_X10_62 rfl L.s L.g9 dX10_waitsAt_12 rfl ?_
      refine v_iload_n (n := 16) dX10_waitsAt_15 rfl rfl rfl ?_
      refine v_iald (n := 17) (j := p) L.c9 (ix_nI (by have := nle_in hq2 (by omega) (by omega); omega) (by decide)) dX10_waitsAt_16 rfl ?_
      refine v_iload_n (n := 18) dX10_waitsAt_17 rfl rfl rfl ?_
      refine v_icmp_ne (n := 21) (tgt := 25) dX10_waitsAt_18 (by decide) rfl (fun hq18 => ?_) (fun hq18 => ?_)
      · refine v_iconst (n := 26) (v := 0) dX10_waitsAt_25 c_0 rfl ?_
        exact v_rZ rfl (by rw [decide_eq_false (fun z => hq18 z.2)]; rfl) rfl rfl ⟨l8 rfl, l8 rfl⟩ dX10_waitsAt_26
      · refine v_iconst (n := 22) (v := 1) dX10_waitsAt_21 c_1 rfl ?_
        refine v_goto (tgt := 26) dX10_waitsAt_22 (by decide) ?_
        exact v_rZ rfl (by rw [decide_eq_true ⟨nle_in hq2 (by omega) (by omega), hq18⟩]; rfl) rfl rfl ⟨l8 rfl, l8 rfl⟩ dX10_waitsAt_26

set_option maxRecDepth 100000 in
set_option maxHeartbeats 1000000 in
theorem l_X10_check {ro : Ro} {S S1 : St} {I : In} {x m B T b w K : Nat} {J : In} {Y : Ar} {lw : Nat → Nat} (L : LayX S x) (hW : WN Y T b) (hB : x + 134 ≤ B) (hm : mvOk Y) (hb : b < 900000000) (hte : ∀ j, j < 60 → I (x + 87) j = J (m + 22) j) (hw : w ≤ 60) (hK : K ≤ 30) (L1 : LayX S1 x) (hs1 : SGp (thP (x + 23) 0) S S1) : ∀ c r k, k + r = K → K < k + c → 2 * k ≤ w → ∀ J1, VR S1 J1 (x + 23 + 2) B (itX Y T (yn Y) k) (Y 5) T (yn Y) (ln (itX Y T (yn Y) k)) lw → Eqx (thk x B) I J1 → V RX10 cX10_check 7 (some .int) "check" ro (rmD 6 0 0) (QM 0 0 (QT S I x B (finF w K (chkF (J (m + 22)) w Y T (yn Y) r k)))) 0 0 69 [.ref x, JJ, .int (nI w), .ref ((x + 23 + 2)), .int (nI K), .int (nI (2 * k)), .int (nI k)] [] S1 J1 := by
  intro c
  induction c with
  | zero => intro r k hi hk; exact absurd hk (by omega)
  | succ c ih =>
    intro r k hi hk h2w J1 hv hE
    refine v_iload (n := 71) dX10_check_69 rfl rfl ?_
    refine v_iload (n := 73) dX10_check_71 rfl rfl ?_
    refine v_icmp_ge (n := 76) (tgt := 137) dX10_check_73 (by decide) rfl (fun hq73 => ?_) (fun hq73 => ?_)
    · obtain rfl : k = K := by have := le_out hq73 (by omega) (by omega); omega
      obtain rfl : r = 0 := by omega
      refine v_iload_n (n := 138) dX10_check_137 rfl rfl rfl ?_
      refine v_iload (n := 140) dX10_check_138 rfl rfl ?_
      refine v_icmp_le (n := 143) (tgt := 150) dX10_check_140 (by decide) rfl (fun hq140 => ?_) (fun hq140 => ?_)
      · refine v_iconst (n := 151) (v := 0) dX10_check_150 c_0 rfl ?_
        exact v_qt rfl (by rw [chkF, finF, if_pos ⟨by have := le_out hq140 (by omega) (by omega); omega, rfl⟩]) hs1 hE ⟨l8 rfl, l8 rfl⟩ dX10_check_151
      · refine v_iconst (n := 144) (v := 1) dX10_check_143 c_1 rfl ?_
        refine v_iload (n := 146) dX10_check_144 rfl rfl ?_
        refine v_iadd (n := 147) dX10_check_146 rfl ?_
        refine v_goto (tgt := 151) dX10_check_147 (by decide) ?_
        exact v_qt rfl (by rw [chkF, finF, if_neg (fun z => absurd (nle_in hq140 (by omega) (by omega)) (by omega))]) hs1 hE ⟨l8 rfl, l8 rfl⟩ dX10_check_151
    · have hlt := nle_in hq73 (by omega) (by omega)
      obtain ⟨r9, rfl⟩ : ∃ r9, r = r9 + 1 := ⟨r - 1, by omega⟩
      obtain ⟨g1, g2⟩ := it_WX hW k (by omega)
      have h5 : itX Y T (yn Y) k 5 = Y 5 := it_5 hW (by omega)
      refine v_aload_n (n := 77) dX10_check_76 rfl rfl rfl ?_
      refine v_callV (n := 80) mc_X9_passDay l_X10_204 iv_X9_passDay se_X9_passDay (ci := 8) ⟨by decide, rfl⟩ (L1.c3.v (i := 0) (by decide)).s (k_X9_passDay (L1.c3.v (i := 0) (by decide)) hv g1 (by omega) (by exact ⟨by have := hm.1; omega, by have := hm.2; omega⟩) (by omega)) ⟨rfl, rfl⟩ (l8 rfl) ⟨l8 rfl, l8 rfl⟩ rfl rfl (l8 rfl) dX10_check_77 rfl ?_
      rintro _ _ J2 ⟨rfl, hS9, hv2, hE2⟩
      replace hS9 := hS9.symm
      subst hS9
      have hv3 : VR S1 J2 (x + 23 + 2) B (itX Y T (yn Y) (k + 1)) (Y 5) T (yn Y) (ln (itX Y T (yn Y) (k + 1))) lw := by rw [itX, h5]; exact hv2
      have hE3 := hE.tr (thk_v hE2)
      have hte2 : ∀ j, j < 60 → J2 (x + 87) j = J (m + 22) j := fun j hj => by rw [hE3 _ (by unfold thk stk; omega)]; exact hte j hj
      refine v_pop (n := 81) dX10_check_80 rfl rfl ?_
      refine v_aload_n (n := 82) dX10_check_81 rfl rfl rfl ?_
      refine v_iload (n := 84) dX10_check_82 rfl rfl ?_
      refine v_iload_n (n := 85) dX10_check_84 rfl rfl rfl ?_
      refine v_aload_n (n := 86) dX10_check_85 rfl rfl rfl ?_
      refine v_getR (n := 89) f_X10_126 rfl (L1.c3.v (i := 0) (by decide)).s (L1.c3.v (i := 0) (by decide)).g1 dX10_check_86 rfl ?_
      refine v_getI (n := 92) f_X10_163 rfl (L1.c3.v (i := 0) (by decide)).c1.s dX10_check_89 rfl ?_
      rw [hv3.2.1.1.2.1]
      refine v_cVi (n := 95) (x := (bi (decide ((2 * k) < w ∧ J2 (x + 87) (2 * k) = (wS (itX Y T (yn Y) (k + 1)) (ln (itX Y T (yn Y) (k + 1)))))))) mc_X10_waitsAt l_X10_321 iv_X10_waitsAt se_X10_waitsAt (ci := 9) ⟨by decide, rfl⟩ L1.s (k_X10_waitsAt (p := (2 * k)) L1 (by omega) hw) ⟨rfl, rfl⟩ (l8 rfl) ⟨l8 rfl, l8 rfl⟩ rfl rfl (l8 rfl) dX10_check_92 rfl ?_
      refine v_if_ne (n := 98) (tgt := 103) dX10_check_95 (by decide) rfl (fun hq95 => ?_) (fun hq95 => ?_)
      · refine v_iinc (n := 106) (v := (nI (2 * k)) + 1) (al' := [.ref x, JJ, .int (nI w), .ref ((x + 23 + 2)), .int (nI K), .int ((nI (2 * k)) + 1), .int (nI k)]) dX10_check_103 rfl (by rw [c_1]) rfl rfl rfl ?_
        refine v_aload_n (n := 107) dX10_check_106 rfl rfl rfl ?_
        refine v_iload (n := 109) dX10_check_107 rfl rfl ?_
        refine v_iload_n (n := 110) dX10_check_109 rfl rfl rfl ?_
        refine v_aload_n (n := 111) dX10_check_110 rfl rfl rfl ?_
        refine v_getR (n := 114) f_X10_126 rfl (L1.c3.v (i := 0) (by decide)).s (L1.c3.v (i := 0) (by decide)).g1 dX10_check_111 rfl ?_
        refine v_getI (n := 117) f_X10_160 rfl (L1.c3.v (i := 0) (by decide)).c1.s dX10_check_114 rfl ?_
        rw [hv3.2.1.1.2.2.1, nI_1]
        refine v_cVi (n := 120) (x := (bi (decide ((2 * k + 1) < w ∧ J2 (x + 87) (2 * k + 1) = ((itX Y T (yn Y) (k + 1)) 6))))) mc_X10_waitsAt l_X10_321 iv_X10_waitsAt se_X10_waitsAt (ci := 9) ⟨by decide, rfl⟩ L1.s (k_X10_waitsAt (p := (2 * k + 1)) L1 (by omega) hw) ⟨rfl, rfl⟩ (l8 rfl) ⟨l8 rfl, l8 rfl⟩ rfl rfl (l8 rfl) dX10_check_117 rfl ?_
        refine v_if_ne (n := 123) (tgt := 128) dX10_check_120 (by decide) rfl (fun hq120 => ?_) (fun hq120 => ?_)
        · refine v_iinc (n := 131) (v := (nI (2 * k + 1)) + 1) (al' := [.ref x, JJ, .int (nI w), .ref ((x + 23 + 2)), .int (nI K), .int ((nI (2 * k + 1)) + 1), .int (nI k)]) dX10_check_128 rfl (by rw [c_1]) rfl rfl rfl ?_
          refine v_iinc (n := 134) (v := (nI k) + 1) (al' := [.ref x, JJ, .int (nI w), .ref ((x + 23 + 2)), .int (nI K), .int ((nI (2 * k + 1)) + 1), .int ((nI k) + 1)]) dX10_check_131 rfl (by rw [c_1]) rfl rfl rfl ?_
          refine v_goto (tgt := 69) dX10_check_134 (by decide) ?_
          rw [nI_1, nI_1, show 2 * k + 1 + 1 = 2 * (k + 1) by omega]
          have c1 := of_decide_eq_true (bi_n0.mp hq95)
          have c2 := of_decide_eq_true (bi_n0.mp hq120)
          rw [chkF, if_pos ⟨c1.1, by rw [← hte2 _ (by omega)]; exact c1.2⟩, if_pos ⟨c2.1, by rw [← hte2 _ (by omega)]; exact c2.2⟩]
          exact ih r9 (k + 1) (by omega) (by omega) (by omega) J2 hv3 hE3
        · refine v_iconst (n := 124) (v := 1) dX10_check_123 c_1 rfl ?_
          refine v_iload (n := 126) dX10_check_124 rfl rfl ?_
          refine v_iadd (n := 127) dX10_check_126 rfl ?_
          have c1 := of_decide_eq_true (bi_n0.mp hq95)
          have c2 := of_decide_eq_false (bi_0.mp hq120)
          exact v_qt rfl (by rw [chkF, if_pos ⟨c1.1, by rw [← hte2 _ (by omega)]; exact c1.2⟩, if_neg (fun z => c2 ⟨z.1, by rw [hte2 _ (by omega)]; exact z.2⟩), finF, if_neg (fun z => by omega)]) hs1 hE3 ⟨l8 rfl, l8 rfl⟩ dX10_check_127
      · refine v_iconst (n := 99) (v := 1) dX10_check_98 c_1 rfl ?_
        refine v_iload (n := 101) dX10_check_99 rfl rfl ?_
        refine v_iadd (n := 102) dX10_check_101 rfl ?_
        have c1 := of_decide_eq_false (bi_0.mp hq95)
        exact v_qt rfl (by rw [chkF, if_neg (fun z => c1 ⟨z.1, by rw [hte2 _ (by omega)]; exact z.2⟩), finF, if_neg (fun z => by omega)]) hs1 hE3 ⟨l8 rfl, l8 rfl⟩ dX10_check_102

set_option maxRecDepth 100000 in
set_option maxHeartbeats 1000000 in
theorem c_X10_check {ro : Ro} {S : St} {I : In} {xa : Int32} {x m B T b w : Nat} {J : In} {Y : Ar} {lw : Nat → Nat} (L : LayX S x) (hB : x + 134 ≤ B) (hkp : I x 2 = J m 3) (hY : ¬ J m 3 = 0 → VN S I (x + 12) B Y T lw ∧ WN Y T b ∧ mvOk Y ∧ dayOk Y) (hb : b < 900000000) (hWt : WtR I J x m) (hw33 : J m 33 = nI w) (hw : w ≤ 60) : Ok mX10_check ro 6 0 0 [.ref x, .int xa] S I (QT S (setI I x 10 0) x B (if inn xa 1 30 = true then (if J m 3 = 0 then -1000000002 else finF w (win (9999 - Y 2) 0 xa).toNatClampNeg (chkF (J (m + 22)) w Y T (yn Y) (win (9999 - Y 2) 0 xa).toNatClampNeg 0)) else -1000000001)) := by
  refine ok_of (al := [.ref x, .int xa, JJ, JJ, JJ, JJ, JJ]) (by decide) (l8 rfl) rfl ?_
  refine v_aload_n (n := 1) dX10_check_0 rfl rfl rfl ?_
  refine v_getI (n := 4) f_X10_66 rfl L.s dX10_check_1 rfl ?_
  rw [hWt.1, hw33]
  refine v_istore_n (n := 5) (al' := [.ref x, .int xa, .int (nI w), JJ, JJ, JJ, JJ]) dX10_check_4 rfl rfl rfl rfl ?_
  refine v_aload_n (n := 6) dX10_check_5 rfl rfl rfl ?_
  refine v_iconst (n := 7) (v := 0) dX10_check_6 c_0 rfl ?_
  refine v_putI (n := 10) f_X10_66 rfl (Or.inl rfl) L.s dX10_check_7 rfl ?_
  refine v_iload_n (n := 11) dX10_check_10 rfl rfl rfl ?_
  refine v_iconst (n := 12) (v := 1) dX10_check_11 c_1 rfl ?_
  refine v_icmp_lt (n := 15) (tgt := 21) dX10_check_12 (by decide) rfl (fun hq12 => ?_) (fun hq12 => ?_)
  · refine v_ldc (n := 23) k_X10_84 dX10_check_21 rfl ?_
    exact v_qt rfl (by rw [if_neg (by rw [inn_no1 hq12]; decide)]) SGp.rf Eqx.rf ⟨l8 rfl, l8 rfl⟩ dX10_check_23
  · refine v_iload_n (n := 16) dX10_check_15 rfl rfl rfl ?_
    refine v_bipush (n := 18) (v := 30) dX10_check_16 b_30 rfl ?_
    refine v_icmp_le (n := 21) (tgt := 24) dX10_check_18 (by decide) rfl (fun hq18 => ?_) (fun hq18 => ?_)
    · have hib := inn_of hq12 hq18
      obtain ⟨a, ha1, ha9, rfl⟩ := inn_get1 (a := 30) (c := 1) hib (by decide) (by decide)
      refine v_aload_n (n := 25) dX10_check_24 rfl rfl rfl ?_
      refine v_getI (n := 28) f_X10_19 rfl L.s dX10_check_25 rfl ?_
      rw [sI_k (by decide), hkp]
      refine v_if_ne (n := 31) (tgt := 34) dX10_check_28 (by decide) rfl (fun hq28 => ?_) (fun hq28 => ?_)
      · obtain ⟨hV, hW, hm, d, hd9, ed⟩ := hY hq28
        have h0 : VN S (setI I x 10 0) (x + 12) B Y T lw := hV.eqx (Eqx.rf.set (P := fun a => a = x) rfl) (fun a z => by omega)
        have hwn : (win (9999 - Y 2) 0 (nI a)).toNatClampNeg = min a (9999 - d) := by rw [ed, day_sub hd9, win_min (by omega) (by omega), nI_clamp (by omega), Nat.min_comm]
        refine v_aload_n (n := 35) dX10_check_34 rfl rfl rfl ?_
        refine v_getR (n := 38) f_X10_26 rfl L.s L.g3 dX10_check_35 rfl ?_
        refine v_aload_n (n := 39) dX10_check_38 rfl rfl rfl ?_
        refine v_getR (n := 42) f_X10_16 rfl L.s L.g1 dX10_check_39 rfl ?_
        refine v_callV (n := 45) mc_X3_thoughtOf l_X10_197 iv_X3_thoughtOf se_X3_thoughtOf (ci := 2) ⟨by decide, rfl⟩ L.c3.s (k_X3_thoughtOf L.c3 L.c1 (by omega) h0 hW.2.2.2.2.1.2.1 hW.2.1 hW.2.2.2.1 (by omega)) ⟨rfl, rfl⟩ (l8 rfl) ⟨l8 rfl, l8 rfl⟩ rfl rfl (l8 rfl) dX10_check_42 rfl ?_
        rintro _ S1 J1 ⟨rfl, hS1, hv1, hE1⟩
        have hs1 : SGp (thP (x + 23) 0) S S1 := by rw [hS1]; exact th_of
        have L1 := L.th hs1
        refine v_astore_n (n := 46) (al' := [.ref x, .int (nI a), .int (nI w), .ref ((x + 23 + 2)), JJ, JJ, JJ]) dX10_check_45 rfl rfl rfl rfl ?_
        refine v_iload_n (n := 47) dX10_check_46 rfl rfl rfl ?_
        refine v_sipush (n := 50) (v := 9999) dX10_check_47 s_9999 rfl ?_
        refine v_aload_n (n := 51) dX10_check_50 rfl rfl rfl ?_
        refine v_getR (n := 54) f_X10_16 rfl L1.s L1.g1 dX10_check_51 rfl ?_
        refine v_getI (n := 57) f_X10_116 rfl L1.c1.s dX10_check_54 rfl ?_
        rw [show J1 (x + 12) 4 = Y 2 from by rw [hE1 _ (by unfold blk; omega)]; exact h0.2.2.1.2.1, ed]
        refine v_isub (n := 58) dX10_check_57 rfl ?_
        refine v_min (n := 61) l_X10_140 min_sta ini_J9 min_code ⟨rfl, rfl⟩ ⟨l8 rfl, l8 rfl⟩ (l8 rfl) dX10_check_58 rfl ?_
        rw [day_sub hd9, mn_nI (by omega) (by omega)]
        refine v_istore (n := 63) (al' := [.ref x, .int (nI a), .int (nI w), .ref ((x + 23 + 2)), .int (nI (min a (9999 - d))), JJ, JJ]) dX10_check_61 rfl rfl rfl ?_
        refine v_iconst (n := 64) (v := 0) dX10_check_63 c_0 rfl ?_
        refine v_istore (n := 66) (al' := [.ref x, .int (nI a), .int (nI w), .ref ((x + 23 + 2)), .int (nI (min a (9999 - d))), .int 0, JJ]) dX10_check_64 rfl rfl rfl ?_
        refine v_iconst (n := 67) (v := 0) dX10_check_66 c_0 rfl ?_
        refine v_istore (n := 69) (al' := [.ref x, .int (nI a), .int (nI w), .ref ((x + 23 + 2)), .int (nI (min a (9999 - d))), .int 0, .int 0]) dX10_check_67 rfl rfl rfl ?_
        refine v_drop 1 (al' := [.ref x, JJ, .int (nI w), .ref ((x + 23 + 2)), .int (nI (min a (9999 - d))), .int 0, .int 0]) rfl ?_
        rw [if_pos hib, if_neg hq28, show (win (nI (9999 - d)) 0 (nI a)).toNatClampNeg = min a (9999 - d) from by rw [← hwn, ed, day_sub hd9]]
        exact l_X10_check (K := min a (9999 - d)) L hW hB hm hb (fun j hj => by rw [sI_o (by omega)]; exact hWt.2 j hj) hw (by omega) L1 hs1 (min a (9999 - d) + 1) (min a (9999 - d)) 0 (by omega) (by omega) (by omega) J1 hv1 (thk_b hE1)
      · refine v_ldc (n := 33) k_X10_189 dX10_check_31 rfl ?_
        exact v_qt rfl (by rw [if_pos hib, if_pos hq28]) SGp.rf Eqx.rf ⟨l8 rfl, l8 rfl⟩ dX10_check_33
    · refine v_ldc (n := 23) k_X10_84 dX10_check_21 rfl ?_
      exact v_qt rfl (by rw [if_neg (by rw [inn_no2 hq18]; decide)]) SGp.rf Eqx.rf ⟨l8 rfl, l8 rfl⟩ dX10_check_23

set_option maxRecDepth 100000 in
set_option maxHeartbeats 1000000 in
theorem c_X10_keep {ro : Ro} {S : St} {I : In} {x B T b : Nat} {X : Ar} {lw : Nat → Nat} (L : LayX S x) (h : VN S I (x + 1) B X T lw) (hW : WN X T b) (hB : x + 134 ≤ B) : Ok mX10_keep ro 3 0 0 [.ref x] S I (fun r S' I' => r = some (.int (X 1)) ∧ S' = bcS S (x + 12) (x + 1) 3 ∧ VN S' I' (x + 12) B X T lw ∧ I' x 2 = 1 ∧ (∀ k, k ≠ 2 → I' x k = I x k) ∧ ∀ a, a ≠ x → ¬ blk (x + 12) 11 a → I' a = I a) := by
  refine ok_of (al := [.ref x]) (by decide) (l8 rfl) rfl ?_
  refine v_aload_n (n := 1) dX10_keep_0 rfl rfl rfl ?_
  refine v_getR (n := 4) f_X10_16 rfl L.s L.g1 dX10_keep_1 rfl ?_
  refine v_aload_n (n := 5) dX10_keep_4 rfl rfl rfl ?_
  refine v_getR (n := 8) f_X10_10 rfl L.s L.g0 dX10_keep_5 rfl ?_
  refine v_callV (n := 11) mc_X9_become l_X10_325 iv_X9_become se_X9_become (ci := 8) ⟨by decide, rfl⟩ L.c1.s (k_X9_become L.c1 L.c0 (by omega) h hW.2.2.2.2.1.2.1 hW.2.1 hW.2.2.2.1 (by omega)) ⟨rfl, rfl⟩ (l8 rfl) ⟨l8 rfl, l8 rfl⟩ rfl rfl (l8 rfl) dX10_keep_8 rfl ?_
  rintro _ S1 J1 ⟨rfl, hS1, hv1, hE1⟩
  have L1 := L.sp (S' := S1) (by rw [hS1]; exact (bc_SG.p).mono (fun a z => Or.inr (Or.inl z)))
  refine v_aload_n (n := 12) dX10_keep_11 rfl rfl rfl ?_
  refine v_iconst (n := 13) (v := 1) dX10_keep_12 c_1 rfl ?_
  refine v_putZ (n := 16) f_X10_19 rfl (Or.inl rfl) L1.s (Or.inr rfl) dX10_keep_13 rfl ?_
  refine v_aload_n (n := 17) dX10_keep_16 rfl rfl rfl ?_
  refine v_getR (n := 20) f_X10_10 rfl L1.s L1.g0 dX10_keep_17 rfl ?_
  refine v_getR (n := 23) f_X10_85 rfl L1.c0.s L1.c0.g0 dX10_keep_20 rfl ?_
  refine v_getI (n := 26) f_X10_89 rfl L1.c0.c0.s dX10_keep_23 rfl ?_
  rw [sI_o (by omega), hE1 _ (by unfold blk; omega), h.1.1, ← hW.1]
  exact v_iret rfl ⟨rfl, hS1, hv1.eqx (Eqx.rf.set (P := fun a => a = x) rfl) (fun a z => by omega), sI_s, fun k hk => by rw [sI_k hk, hE1 _ (by unfold blk; omega)], fun a h1 h2 => by rw [setI_ne h1, hE1 a h2]⟩ ⟨l8 rfl, l8 rfl⟩ dX10_keep_26

set_option maxRecDepth 100000 in
set_option maxHeartbeats 1000000 in
theorem c_X10_back {ro : Ro} {S : St} {I : In} {x B T b : Nat} {X : Ar} {lw : Nat → Nat} (L : LayX S x) (h : VN S I (x + 12) B X T lw) (hW : WN X T b) (hB : x + 134 ≤ B) (hkp : ¬ I x 2 = 0) : Ok mX10_back ro 3 0 0 [.ref x] S I (fun r S' I' => r = some (.int (X 1)) ∧ S' = bcS S (x + 1) (x + 12) 3 ∧ VN S' I' (x + 1) B X T lw ∧ Eqx (blk (x + 1) 11) I I') := by
  refine ok_of (al := [.ref x]) (by decide) (l8 rfl) rfl ?_
  refine v_aload_n (n := 1) dX10_back_0 rfl rfl rfl ?_
  refine v_getI (n := 4) f_X10_19 rfl L.s dX10_back_1 rfl ?_
  refine v_if_ne (n := 7) (tgt := 10) dX10_back_4 (by decide) rfl (fun hq4 => ?_) (fun hq4 => ?_)
  · refine v_aload_n (n := 11) dX10_back_10 rfl rfl rfl ?_
    refine v_getR (n := 14) f_X10_10 rfl L.s L.g0 dX10_back_11 rfl ?_
    refine v_aload_n (n := 15) dX10_back_14 rfl rfl rfl ?_
    refine v_getR (n := 18) f_X10_16 rfl L.s L.g1 dX10_back_15 rfl ?_
    refine v_callV (n := 21) mc_X9_become l_X10_325 iv_X9_become se_X9_become (ci := 8) ⟨by decide, rfl⟩ L.c0.s (k_X9_become L.c0 L.c1 (by omega) h hW.2.2.2.2.1.2.1 hW.2.1 hW.2.2.2.1 (by omega)) ⟨rfl, rfl⟩ (l8 rfl) ⟨l8 rfl, l8 rfl⟩ rfl rfl (l8 rfl) dX10_back_18 rfl ?_
    rintro _ S1 J1 ⟨rfl, hS1, hv1, hE1⟩
    have L1 := L.sp (S' := S1) (by rw [hS1]; exact (bc_SG.p).mono (fun a z => Or.inl z))
    refine v_aload_n (n := 22) dX10_back_21 rfl rfl rfl ?_
    refine v_getR (n := 25) f_X10_10 rfl L1.s L1.g0 dX10_back_22 rfl ?_
    refine v_getR (n := 28) f_X10_85 rfl L1.c0.s L1.c0.g0 dX10_back_25 rfl ?_
    refine v_getI (n := 31) f_X10_89 rfl L1.c0.c0.s dX10_back_28 rfl ?_
    rw [hv1.1.1, ← hW.1]
    exact v_iret rfl ⟨rfl, hS1, hv1, hE1⟩ ⟨l8 rfl, l8 rfl⟩ dX10_back_31
  · exact absurd hq4 hkp

set_option maxRecDepth 100000 in
set_option maxHeartbeats 1000000 in
theorem c0_X10_back {ro : Ro} {S : St} {I : In} {x : Nat} (L : LayX S x) (hkp : I x 2 = 0) : Ok mX10_back ro 0 0 0 [.ref x] S I (RI (-1000000002) S I) := by
  refine ok_of (al := [.ref x]) (by decide) (l8 rfl) rfl ?_
  refine v_aload_n (n := 1) dX10_back_0 rfl rfl rfl ?_
  refine v_getI (n := 4) f_X10_19 rfl L.s dX10_back_1 rfl ?_
  refine v_if_ne (n := 7) (tgt := 10) dX10_back_4 (by decide) rfl (fun hq4 => ?_) (fun hq4 => ?_)
  · exact absurd hkp hq4
  · refine v_ldc (n := 9) k_X10_189 dX10_back_7 rfl ?_
    exact v_rI rfl rfl rfl rfl ⟨l8 rfl, l8 rfl⟩ dX10_back_9

