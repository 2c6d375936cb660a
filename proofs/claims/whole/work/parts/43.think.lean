/-! ===== the calls of the class: what will be ===== -/
/-- the rows in which the class only thinks -/
def thk (x B a : Nat) : Prop := (x + 23 ≤ a ∧ a < x + 80) ∨ stk B a
def QT (S : St) (I : In) (x B : Nat) (y : Int32) : Option Value → St → In → Prop := fun r S' I' => r = some (.int y) ∧ SGp (thP (x + 23) 0) S S' ∧ Eqx (thk x B) I I'
theorem v_qt {own : String} {cc : ByteArray} {nL : Nat} {ret : Option FieldType} {nm : String} {ro : Ro} {R : Room} {cells slots pc mc ms : Nat} {al : List Value} {S S1 : St} {I J : In} {x B : Nat} {y z : Int32} (hr : ret = some .int) (hF : z = y) (hS : SGp (thP (x + 23) 0) S S1) (hE : Eqx (thk x B) I J) (hc : cells ≤ mc ∧ slots ≤ ms) (hd : decode cc pc = .ok (.ireturn, 1)) : V own cc nL ret nm ro R (QM mc ms (QT S I x B y)) cells slots pc al [.int z] S1 J := by
  subst hF
  exact v_iret hr ⟨rfl, hS, hE⟩ hc hd
theorem th_ch {x a : Nat} (h : thP (x + 23) 0 a) : chP x a := Or.inr (Or.inr h)
theorem LayX.th {S S' : St} {x : Nat} (h : LayX S x) (e : SGp (thP (x + 23) 0) S S') : LayX S' x := h.sp (e.mono (fun _ z => th_ch z))
theorem th_of {S : St} {x : Nat} {w : Nat} : SGp (thP (x + 23) 0) S (bcS S (x + 23 + 2) w 3) := bc_th (k := 0) (by decide)
theorem thk_b {I J : In} {x B : Nat} (h : Eqx (blk (x + 23 + 2) 11) I J) : Eqx (thk x B) I J := h.mono (fun a z => Or.inl (by unfold blk at z; omega))
theorem thk_v {I J : In} {x B : Nat} (h : Eqx (vfr (x + 23 + 2) B) I J) : Eqx (thk x B) I J := h.mono (fun a z => z.elim (fun z => Or.inl (by unfold blk at z; omega)) Or.inr)
theorem vn_thk {S S' : St} {I J : In} {x B T n l : Nat} {X : Ar} {mv : Int32} {lw : Nat → Nat} (h : VR S I (x + 1) B X mv T n l lw) (hB : x + 134 ≤ B) (e : SGp (thP (x + 23) 0) S S') (hE : Eqx (thk x B) I J) : VR S' J (x + 1) B X mv T n l lw :=
  (h.sp e (fun a z => by have := z.lt; omega) (fun z => by have := z.lt; omega)).eqx hE (fun a z => z.elim (fun z => ⟨by omega, Or.inl (by omega)⟩) (fun z => ⟨by have z2 := z; unfold stk at z2; omega, Or.inr z⟩))
theorem ws_rng {X : Ar} {T n l b : Nat} (h : WX X T n l b) : ∃ w, w ≤ b ∧ wS X l = nI w := by
  obtain ⟨kn, h1, h2⟩ := h.2.2.2.2.2.1
  exact ⟨nsum kn l, h2, wS_nI l (fun i hi => (h1 i hi).1)⟩
theorem ws_0 {X : Ar} {T n l b : Nat} (h : WX X T n l b) (hb : b < 2 ^ 30) : wS X l = 0 ↔ X 7 ≤ 0 := by
  obtain ⟨kn, h1, h2⟩ := h.2.2.2.2.2.1
  rw [wS_nI l (fun i hi => (h1 i hi).1), h.2.2.1]
  have hl := h.2.2.2.1
  constructor
  · intro q
    have q2 := (nI_eq (a := nsum kn l) (b := 0) (by omega) (by decide)).mp q
    rcases Nat.eq_zero_or_pos l with z | z
    · subst z; decide
    · have := nsum_le (f := kn) (i := 0) z
      have := (h1 0 z).2
      omega
  · intro q
    obtain rfl := le0 q (by omega)
    rfl

set_option maxRecDepth 100000 in
set_option maxHeartbeats 1000000 in
theorem c_X10_behind {ro : Ro} {S : St} {I : In} {xa xb : Int32} {x B T b : Nat} {X : Ar} {lw : Nat → Nat} (L : LayX S x) (h : VN S I (x + 1) B X T lw) (hW : WN X T b) (hB : x + 134 ≤ B) (hm : mvOk X) (hb : b < 900000000) : Ok mX10_behind ro 6 0 0 [.ref x, .int xa, .int xb] S I (QT S I x B (if (inn xa 0 100 && inn xb 0 3) = true then behR X T (yn X) xa.toNatClampNeg xb else -1000000001)) := by
  refine ok_of (al := [.ref x, .int xa, .int xb, JJ]) (by decide) (l8 rfl) rfl ?_
  refine v_iload_n (n := 1) dX10_behind_0 rfl rfl rfl ?_
  refine v_if_lt (n := 4) (tgt := 19) dX10_behind_1 (by decide) rfl (fun hq1 => ?_) (fun hq1 => ?_)
  · refine v_ldc (n := 21) k_X10_84 dX10_behind_19 rfl ?_
    exact v_qt rfl (by rw [if_neg (by rw [inn_no1 hq1, Bool.false_and]; decide)]) SGp.rf Eqx.rf ⟨l8 rfl, l8 rfl⟩ dX10_behind_21
  · refine v_iload_n (n := 5) dX10_behind_4 rfl rfl rfl ?_
    refine v_bipush (n := 7) (v := 100) dX10_behind_5 b_100 rfl ?_
    refine v_icmp_gt (n := 10) (tgt := 19) dX10_behind_7 (by decide) rfl (fun hq7 => ?_) (fun hq7 => ?_)
    · refine v_ldc (n := 21) k_X10_84 dX10_behind_19 rfl ?_
      exact v_qt rfl (by rw [if_neg (by rw [inn_no2 (Int32.not_le.mpr hq7), Bool.false_and]; decide)]) SGp.rf Eqx.rf ⟨l8 rfl, l8 rfl⟩ dX10_behind_21
    · refine v_iload_n (n := 11) dX10_behind_10 rfl rfl rfl ?_
      refine v_if_lt (n := 14) (tgt := 19) dX10_behind_11 (by decide) rfl (fun hq11 => ?_) (fun hq11 => ?_)
      · refine v_ldc (n := 21) k_X10_84 dX10_behind_19 rfl ?_
        exact v_qt rfl (by rw [if_neg (by rw [inn_no1 hq11, Bool.and_false]; decide)]) SGp.rf Eqx.rf ⟨l8 rfl, l8 rfl⟩ dX10_behind_21
      · refine v_iload_n (n := 15) dX10_behind_14 rfl rfl rfl ?_
        refine v_iconst (n := 16) (v := 3) dX10_behind_15 c_3 rfl ?_
        refine v_icmp_le (n := 19) (tgt := 22) dX10_behind_16 (by decide) rfl (fun hq16 => ?_) (fun hq16 => ?_)
        · have hia := inn_of hq1 (Int32.not_lt.mp hq7)
          have hib := inn_of hq11 hq16
          obtain ⟨k, hk, rfl⟩ := inn_get (a := 100) hia (by decide)
          have hck : (nI k).toNatClampNeg = k := nI_clamp (by omega)
          obtain ⟨g1, g2⟩ := it_WX hW k (by omega)
          refine v_aload_n (n := 23) dX10_behind_22 rfl rfl rfl ?_
          refine v_getR (n := 26) f_X10_26 rfl L.s L.g3 dX10_behind_23 rfl ?_
          refine v_aload_n (n := 27) dX10_behind_26 rfl rfl rfl ?_
          refine v_getR (n := 30) f_X10_10 rfl L.s L.g0 dX10_behind_27 rfl ?_
          refine v_callV (n := 33) mc_X3_thoughtOf l_X10_197 iv_X3_thoughtOf se_X3_thoughtOf (ci := 2) ⟨by decide, rfl⟩ L.c3.s (k_X3_thoughtOf L.c3 L.c0 (by omega) h hW.2.2.2.2.1.2.1 hW.2.1 hW.2.2.2.1 (by omega)) ⟨rfl, rfl⟩ (l8 rfl) ⟨l8 rfl, l8 rfl⟩ rfl rfl (l8 rfl) dX10_behind_30 rfl ?_
          rintro _ S1 J1 ⟨rfl, hS1, hv1, hE1⟩
          have hs1 : SGp (thP (x + 23) 0) S S1 := by rw [hS1]; exact th_of
          have L1 := L.th hs1
          refine v_astore_n (n := 34) (al' := [.ref x, .int (nI k), .int xb, .ref ((x + 23 + 2))]) dX10_behind_33 rfl rfl rfl rfl ?_
          refine v_aload_n (n := 35) dX10_behind_34 rfl rfl rfl ?_
          refine v_iload_n (n := 36) dX10_behind_35 rfl rfl rfl ?_
          refine v_callV (n := 39) mc_X9_passDays l_X10_194 iv_X9_passDays se_X9_passDays (ci := 8) ⟨by decide, rfl⟩ (L1.c3.v (i := 0) (by decide)).s (k_X9_passDays (K := k) (L1.c3.v (i := 0) (by decide)) hv1 hW (by omega) (by omega) hm rfl (by omega)) ⟨rfl, rfl⟩ (l8 rfl) ⟨l8 rfl, l8 rfl⟩ rfl rfl (l8 rfl) dX10_behind_36 rfl ?_
          rintro _ _ J2 ⟨rfl, hS9, hv2, hE2⟩
          replace hS9 := hS9.symm
          subst hS9
          refine v_pop (n := 40) dX10_behind_39 rfl rfl ?_
          refine v_iload_n (n := 41) dX10_behind_40 rfl rfl rfl ?_
          by_cases hw41_0 : xb = 0
          · refine v_table (tgt := 68) (off := 27) dX10_behind_41 (by rw [hw41_0, t_0]; decide) (by rw [hw41_0, t_0]; rfl) (by decide) ?_
            refine v_aload_n (n := 69) dX10_behind_68 rfl rfl rfl ?_
            refine v_getR (n := 72) f_X10_126 rfl (L1.c3.v (i := 0) (by decide)).s (L1.c3.v (i := 0) (by decide)).g1 dX10_behind_69 rfl ?_
            refine v_getI (n := 75) f_X10_163 rfl (L1.c3.v (i := 0) (by decide)).c1.s dX10_behind_72 rfl ?_
            rw [hv2.2.1.1.2.1]
            exact v_qt rfl (by rw [if_pos (by rw [hia, hib]; rfl), hck, behR, if_pos hw41_0]) hs1 ((thk_b hE1).tr (thk_v hE2)) ⟨l8 rfl, l8 rfl⟩ dX10_behind_75
          by_cases hw41_1 : xb = 1
          · refine v_table (tgt := 76) (off := 35) dX10_behind_41 (by rw [hw41_1, t_1]; decide) (by rw [hw41_1, t_1]; rfl) (by decide) ?_
            refine v_aload_n (n := 77) dX10_behind_76 rfl rfl rfl ?_
            refine v_getR (n := 80) f_X10_126 rfl (L1.c3.v (i := 0) (by decide)).s (L1.c3.v (i := 0) (by decide)).g1 dX10_behind_77 rfl ?_
            refine v_getI (n := 83) f_X10_160 rfl (L1.c3.v (i := 0) (by decide)).c1.s dX10_behind_80 rfl ?_
            rw [hv2.2.1.1.2.2.1]
            exact v_qt rfl (by rw [if_pos (by rw [hia, hib]; rfl), hck, behR, if_neg hw41_0, if_pos hw41_1]) hs1 ((thk_b hE1).tr (thk_v hE2)) ⟨l8 rfl, l8 rfl⟩ dX10_behind_83
          by_cases hw41_2 : xb = 2
          · refine v_table (tgt := 84) (off := 43) dX10_behind_41 (by rw [hw41_2, t_2]; decide) (by rw [hw41_2, t_2]; rfl) (by decide) ?_
            refine v_aload_n (n := 85) dX10_behind_84 rfl rfl rfl ?_
            refine v_getR (n := 88) f_X10_85 rfl (L1.c3.v (i := 0) (by decide)).s (L1.c3.v (i := 0) (by decide)).g0 dX10_behind_85 rfl ?_
            refine v_cVi (n := 91) (x := (sm (J2 (x + 23 + 2 + 1 + 4)) (yn X))) mc_X5_brokenOfAll l_X10_201 iv_X5_brokenOfAll se_X5_brokenOfAll (ci := 4) ⟨by decide, rfl⟩ (L1.c3.v (i := 0) (by decide)).c0.s (k_X5_brokenOfAll (n := yn X) (L1.c3.v (i := 0) (by decide)).c0 hv2.1.1 hW.2.1) ⟨rfl, rfl⟩ (l8 rfl) ⟨l8 rfl, l8 rfl⟩ rfl rfl (l8 rfl) dX10_behind_88 rfl ?_
            rw [brk_sum hv2.1]
            exact v_qt rfl (by rw [if_pos (by rw [hia, hib]; rfl), hck, behR, if_neg hw41_0, if_neg hw41_1, if_pos hw41_2]) hs1 ((thk_b hE1).tr (thk_v hE2)) ⟨l8 rfl, l8 rfl⟩ dX10_behind_91
          refine v_tableO (tgt := 92) dX10_behind_41 (sw_out3 (lo := 0) hw41_0 hw41_1 hw41_2 t_0 t_1 t_2) (by decide) ?_
          refine v_aload_n (n := 93) dX10_behind_92 rfl rfl rfl ?_
          refine v_getR (n := 96) f_X10_126 rfl (L1.c3.v (i := 0) (by decide)).s (L1.c3.v (i := 0) (by decide)).g1 dX10_behind_93 rfl ?_
          refine v_getI (n := 99) f_X10_170 rfl (L1.c3.v (i := 0) (by decide)).c1.s dX10_behind_96 rfl ?_
          rw [hv2.2.1.1.1, ← g1.2.2.1]
          exact v_qt rfl (by rw [if_pos (by rw [hia, hib]; rfl), hck, behR, if_neg hw41_0, if_neg hw41_1, if_neg hw41_2]) hs1 ((thk_b hE1).tr (thk_v hE2)) ⟨l8 rfl, l8 rfl⟩ dX10_behind_99
        · refine v_ldc (n := 21) k_X10_84 dX10_behind_19 rfl ?_
          exact v_qt rfl (by rw [if_neg (by rw [inn_no2 hq16, Bool.and_false]; decide)]) SGp.rf Eqx.rf ⟨l8 rfl, l8 rfl⟩ dX10_behind_21

set_option maxRecDepth 100000 in
set_option maxHeartbeats 1000000 in
theorem l_X10_gone {ro : Ro} {S S1 : St} {I : In} {x B T b : Nat} {X : Ar} {lw : Nat → Nat} (L : LayX S x) (h : VN S I (x + 1) B X T lw) (hW : WN X T b) (hB : x + 134 ≤ B) (hm : mvOk X) (hb : b < 900000000) (L1 : LayX S1 x) (hs1 : SGp (thP (x + 23) 0) S S1) : ∀ k r i, i + r = 301 → 1 ≤ r → 301 < i + k → ∀ J, VR S1 J (x + 23 + 2) B (itX X T (yn X) i) (X 5) T (yn X) (ln (itX X T (yn X) i)) lw → Eqx (thk x B) I J → V RX10 cX10_gone 3 (some .int) "gone" ro (rmD 6 0 0) (QM 0 0 (QT S I x B (goneF X T (yn X) r i))) 0 0 14 [.ref x, .ref ((x + 23 + 2)), .int (nI i)] [] S1 J := by
  intro k
  induction k with
  | zero => intro r i hi hr hk; exact absurd hk (by omega)
  | succ k ih =>
    intro r i hi hr hk J hv hE
    refine v_iload_n (n := 15) dX10_gone_14 rfl rfl rfl ?_
    refine v_sipush (n := 18) (v := 300) dX10_gone_15 s_300 rfl ?_
    refine v_icmp_ge (n := 21) (tgt := 44) dX10_gone_18 (by decide) rfl (fun hq18 => ?_) (fun hq18 => ?_)
    · obtain rfl : i = 300 := by have := le_out (a := 300) hq18 (by decide) (by omega); omega
      obtain ⟨g1, g2⟩ := it_WX hW 300 (by omega)
      obtain rfl : r = 1 := by omega
      refine v_aload_n (n := 45) dX10_gone_44 rfl rfl rfl ?_
      refine v_getR (n := 48) f_X10_126 rfl (L1.c3.v (i := 0) (by decide)).s (L1.c3.v (i := 0) (by decide)).g1 dX10_gone_45 rfl ?_
      refine v_getI (n := 51) f_X10_163 rfl (L1.c3.v (i := 0) (by decide)).c1.s dX10_gone_48 rfl ?_
      rw [hv.2.1.1.2.1]
      refine v_if_ne (n := 54) (tgt := 60) dX10_gone_51 (by decide) rfl (fun hq51 => ?_) (fun hq51 => ?_)
      · refine v_ldc (n := 62) k_X10_193 dX10_gone_60 rfl ?_
        exact v_qt rfl (by rw [goneF, if_neg (fun z => hq51 ((ws_0 g1 (by omega)).mpr z))]; rfl) hs1 hE ⟨l8 rfl, l8 rfl⟩ dX10_gone_62
      · refine v_sipush (n := 57) (v := 300) dX10_gone_54 s_300 rfl ?_
        refine v_goto (tgt := 62) dX10_gone_57 (by decide) ?_
        exact v_qt rfl (by rw [goneF, if_pos ((ws_0 g1 (by omega)).mp hq51)]; rfl) hs1 hE ⟨l8 rfl, l8 rfl⟩ dX10_gone_62
    · have hlt := nle_in (a := 300) hq18 (by decide) (by omega)
      obtain ⟨g1, g2⟩ := it_WX hW i (by omega)
      obtain ⟨r9, rfl⟩ : ∃ r9, r = r9 + 1 := ⟨r - 1, by omega⟩
      refine v_aload_n (n := 22) dX10_gone_21 rfl rfl rfl ?_
      refine v_getR (n := 25) f_X10_126 rfl (L1.c3.v (i := 0) (by decide)).s (L1.c3.v (i := 0) (by decide)).g1 dX10_gone_22 rfl ?_
      refine v_getI (n := 28) f_X10_163 rfl (L1.c3.v (i := 0) (by decide)).c1.s dX10_gone_25 rfl ?_
      rw [hv.2.1.1.2.1]
      refine v_if_ne (n := 31) (tgt := 33) dX10_gone_28 (by decide) rfl (fun hq28 => ?_) (fun hq28 => ?_)
      · refine v_aload_n (n := 34) dX10_gone_33 rfl rfl rfl ?_
        refine v_callV (n := 37) mc_X9_passDay l_X10_204 iv_X9_passDay se_X9_passDay (ci := 8) ⟨by decide, rfl⟩ (L1.c3.v (i := 0) (by decide)).s (k_X9_passDay (L1.c3.v (i := 0) (by decide)) hv g1 (by omega) (by exact ⟨by have := hm.1; omega, by have := hm.2; omega⟩) (by omega)) ⟨rfl, rfl⟩ (l8 rfl) ⟨l8 rfl, l8 rfl⟩ rfl rfl (l8 rfl) dX10_gone_34 rfl ?_
        rintro _ _ J2 ⟨rfl, hS9, hv2, hE2⟩
        replace hS9 := hS9.symm
        subst hS9
        refine v_pop (n := 38) dX10_gone_37 rfl rfl ?_
        refine v_iinc (n := 41) (v := (nI i) + 1) (al' := [.ref x, .ref ((x + 23 + 2)), .int ((nI i) + 1)]) dX10_gone_38 rfl (by rw [c_1]) rfl rfl rfl ?_
        refine v_goto (tgt := 14) dX10_gone_41 (by decide) ?_
        rw [nI_1]
        have h5 : itX X T (yn X) i 5 = X 5 := it_5 hW (by omega)
        rw [goneF, if_neg (fun z => hq28 ((ws_0 g1 (by omega)).mpr z))]
        exact ih r9 (i + 1) (by omega) (by omega) (by omega) J2 (by rw [itX, h5]; exact hv2) (hE.tr (thk_v hE2))
      · refine v_iload_n (n := 32) dX10_gone_31 rfl rfl rfl ?_
        exact v_qt rfl (by rw [goneF, if_pos ((ws_0 g1 (by omega)).mp hq28)]) hs1 hE ⟨l8 rfl, l8 rfl⟩ dX10_gone_32

set_option maxRecDepth 100000 in
set_option maxHeartbeats 1000000 in
theorem c_X10_gone {ro : Ro} {S : St} {I : In} {x B T b : Nat} {X : Ar} {lw : Nat → Nat} (L : LayX S x) (h : VN S I (x + 1) B X T lw) (hW : WN X T b) (hB : x + 134 ≤ B) (hm : mvOk X) (hb : b < 900000000) : Ok mX10_gone ro 6 0 0 [.ref x] S I (QT S I x B (goneF X T (yn X) 301 0)) := by
  refine ok_of (al := [.ref x, JJ, JJ]) (by decide) (l8 rfl) rfl ?_
  refine v_aload_n (n := 1) dX10_gone_0 rfl rfl rfl ?_
  refine v_getR (n := 4) f_X10_26 rfl L.s L.g3 dX10_gone_1 rfl ?_
  refine v_aload_n (n := 5) dX10_gone_4 rfl rfl rfl ?_
  refine v_getR (n := 8) f_X10_10 rfl L.s L.g0 dX10_gone_5 rfl ?_
  refine v_callV (n := 11) mc_X3_thoughtOf l_X10_197 iv_X3_thoughtOf se_X3_thoughtOf (ci := 2) ⟨by decide, rfl⟩ L.c3.s (k_X3_thoughtOf L.c3 L.c0 (by omega) h hW.2.2.2.2.1.2.1 hW.2.1 hW.2.2.2.1 (by omega)) ⟨rfl, rfl⟩ (l8 rfl) ⟨l8 rfl, l8 rfl⟩ rfl rfl (l8 rfl) dX10_gone_8 rfl ?_
  rintro _ S1 J1 ⟨rfl, hS1, hv1, hE1⟩
  have hs1 : SGp (thP (x + 23) 0) S S1 := by rw [hS1]; exact th_of
  have L1 := L.th hs1
  refine v_astore_n (n := 12) (al' := [.ref x, .ref ((x + 23 + 2)), JJ]) dX10_gone_11 rfl rfl rfl rfl ?_
  refine v_iconst (n := 13) (v := 0) dX10_gone_12 c_0 rfl ?_
  refine v_istore_n (n := 14) (al' := [.ref x, .ref ((x + 23 + 2)), .int 0]) dX10_gone_13 rfl rfl rfl rfl ?_
  exact l_X10_gone L h hW hB hm hb L1 hs1 302 301 0 (by omega) (by omega) (by omega) J1 hv1 (thk_b hE1)

set_option maxRecDepth 100000 in
set_option maxHeartbeats 1000000 in
theorem c_X10_way {ro : Ro} {S : St} {I : In} {xa xb : Int32} {x B T b : Nat} {X : Ar} {lw : Nat → Nat} (L : LayX S x) (h : VN S I (x + 1) B X T lw) (hW : WN X T b) (hB : x + 134 ≤ B) (hb : b < 900000000) : Ok mX10_way ro 11 0 0 [.ref x, .int xa, .int xb] S I (QT S I x B (wayS X T (yn X) xa xb)) := by
  refine ok_of (al := [.ref x, .int xa, .int xb]) (by decide) (l8 rfl) rfl ?_
  refine v_iload_n (n := 1) dX10_way_0 rfl rfl rfl ?_
  refine v_iconst (n := 2) (v := 1) dX10_way_1 c_1 rfl ?_
  refine v_icmp_lt (n := 5) (tgt := 19) dX10_way_2 (by decide) rfl (fun hq2 => ?_) (fun hq2 => ?_)
  · refine v_ldc (n := 21) k_X10_84 dX10_way_19 rfl ?_
    exact v_qt rfl (by rw [wayS, if_neg (by rw [inn_no1 hq2, Bool.false_and]; decide)]) SGp.rf Eqx.rf ⟨l8 rfl, l8 rfl⟩ dX10_way_21
  · refine v_iload_n (n := 6) dX10_way_5 rfl rfl rfl ?_
    refine v_iconst (n := 7) (v := 5) dX10_way_6 c_5 rfl ?_
    refine v_icmp_gt (n := 10) (tgt := 19) dX10_way_7 (by decide) rfl (fun hq7 => ?_) (fun hq7 => ?_)
    · refine v_ldc (n := 21) k_X10_84 dX10_way_19 rfl ?_
      exact v_qt rfl (by rw [wayS, if_neg (by rw [inn_no2 (Int32.not_le.mpr hq7), Bool.false_and]; decide)]) SGp.rf Eqx.rf ⟨l8 rfl, l8 rfl⟩ dX10_way_21
    · refine v_iload_n (n := 11) dX10_way_10 rfl rfl rfl ?_
      refine v_if_lt (n := 14) (tgt := 19) dX10_way_11 (by decide) rfl (fun hq11 => ?_) (fun hq11 => ?_)
      · refine v_ldc (n := 21) k_X10_84 dX10_way_19 rfl ?_
        exact v_qt rfl (by rw [wayS, if_neg (by rw [inn_no1 hq11, Bool.and_false]; decide)]) SGp.rf Eqx.rf ⟨l8 rfl, l8 rfl⟩ dX10_way_21
      · refine v_iload_n (n := 15) dX10_way_14 rfl rfl rfl ?_
        refine v_iconst (n := 16) (v := 2) dX10_way_15 c_2 rfl ?_
        refine v_icmp_le (n := 19) (tgt := 22) dX10_way_16 (by decide) rfl (fun hq16 => ?_) (fun hq16 => ?_)
        · have hia := inn_of hq2 (Int32.not_lt.mp hq7)
          have hib := inn_of hq11 hq16
          refine v_aload_n (n := 23) dX10_way_22 rfl rfl rfl ?_
          refine v_getR (n := 26) f_X10_10 rfl L.s L.g0 dX10_way_23 rfl ?_
          refine v_getR (n := 29) f_X10_85 rfl L.c0.s L.c0.g0 dX10_way_26 rfl ?_
          refine v_getI (n := 32) f_X10_89 rfl L.c0.c0.s dX10_way_29 rfl ?_
          rw [h.1.1, ← hW.1]
          refine v_if_ne (n := 35) (tgt := 38) dX10_way_32 (by decide) rfl (fun hq32 => ?_) (fun hq32 => ?_)
          · obtain ⟨k, hk1, hk, rfl⟩ := inn_get1 (a := 5) (c := 1) hia (by decide) (by decide)
            have hck : (nI k).toNatClampNeg = k := nI_clamp (by omega)
            refine v_aload_n (n := 39) dX10_way_38 rfl rfl rfl ?_
            refine v_getR (n := 42) f_X10_26 rfl L.s L.g3 dX10_way_39 rfl ?_
            refine v_aload_n (n := 43) dX10_way_42 rfl rfl rfl ?_
            refine v_getR (n := 46) f_X10_10 rfl L.s L.g0 dX10_way_43 rfl ?_
            refine v_iload_n (n := 47) dX10_way_46 rfl rfl rfl ?_
            refine v_callV (n := 50) mc_X3_search l_X10_207 iv_X3_search se_X3_search (ci := 2) ⟨by decide, rfl⟩ L.c3.s (k_X3_search (D := k) L.c3 L.c0 (by omega) h hW (by omega) (by omega) (by omega) hk1 hk) ⟨rfl, rfl⟩ (l8 rfl) ⟨l8 rfl, l8 rfl⟩ rfl rfl (l8 rfl) dX10_way_47 rfl ?_
            rintro _ S1 J1 ⟨rfl, hs1, hT1, hE1⟩
            have L1 := L.th hs1
            have hE2 : Eqx (thk x B) I J1 := hE1.mono (fun a z => by exact z.elim (fun z => Or.inl (by omega)) (fun z => z.elim (fun z => Or.inl (by omega)) Or.inr))
            refine v_iload_n (n := 51) dX10_way_50 rfl rfl rfl ?_
            by_cases hw51_0 : xb = 0
            · refine v_lookup (tgt := 76) (off := 25) dX10_way_51 (by decide) (by rw [hw51_0, t_0]; decide) (by decide) ?_
              refine v_aload_n (n := 77) dX10_way_76 rfl rfl rfl ?_
              refine v_getR (n := 80) f_X10_26 rfl L1.s L1.g3 dX10_way_77 rfl ?_
              refine v_getI (n := 83) f_X10_211 rfl L1.c3.s dX10_way_80 rfl ?_
              exact v_qt rfl (by rw [wayS, if_pos (by rw [hia, hib]; rfl), if_neg hq32, hck, ← hT1, pickT, if_pos hw51_0]) hs1 hE2 ⟨l8 rfl, l8 rfl⟩ dX10_way_83
            by_cases hw51_1 : xb = 1
            · refine v_lookup (tgt := 84) (off := 33) dX10_way_51 (by decide) (by rw [hw51_1, t_1]; decide) (by decide) ?_
              refine v_aload_n (n := 85) dX10_way_84 rfl rfl rfl ?_
              refine v_getR (n := 88) f_X10_26 rfl L1.s L1.g3 dX10_way_85 rfl ?_
              refine v_getI (n := 91) f_X10_214 rfl L1.c3.s dX10_way_88 rfl ?_
              exact v_qt rfl (by rw [wayS, if_pos (by rw [hia, hib]; rfl), if_neg hq32, hck, ← hT1, pickT, if_neg hw51_0, if_pos hw51_1]) hs1 hE2 ⟨l8 rfl, l8 rfl⟩ dX10_way_91
            refine v_lookup (tgt := 92) (off := 41) dX10_way_51 (by decide) (by simp only [Op.lookupswitch.offset_cons, if_neg (lk_ne hw51_0 t_0), if_neg (lk_ne hw51_1 t_1)]; rfl) (by decide) ?_
            refine v_aload_n (n := 93) dX10_way_92 rfl rfl rfl ?_
            refine v_getR (n := 96) f_X10_26 rfl L1.s L1.g3 dX10_way_93 rfl ?_
            refine v_getI (n := 99) f_X10_217 rfl L1.c3.s dX10_way_96 rfl ?_
            exact v_qt rfl (by rw [wayS, if_pos (by rw [hia, hib]; rfl), if_neg hq32, hck, ← hT1, pickT, if_neg hw51_0, if_neg hw51_1]) hs1 hE2 ⟨l8 rfl, l8 rfl⟩ dX10_way_99
          · refine v_ldc (n := 37) k_X10_193 dX10_way_35 rfl ?_
            exact v_qt rfl (by rw [wayS, if_pos (by rw [hia, hib]; rfl), if_pos hq32]) SGp.rf Eqx.rf ⟨l8 rfl, l8 rfl⟩ dX10_way_37
        · refine v_ldc (n := 21) k_X10_84 dX10_way_19 rfl ?_
          exact v_qt rfl (by rw [wayS, if_neg (by rw [inn_no2 hq16, Bool.and_false]; decide)]) SGp.rf Eqx.rf ⟨l8 rfl, l8 rfl⟩ dX10_way_21

