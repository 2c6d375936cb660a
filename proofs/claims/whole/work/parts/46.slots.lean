/-! ===== the calls of the class: reads, pour, slots ===== -/
set_option maxRecDepth 100000 in
set_option maxHeartbeats 1000000 in
theorem l_X10_reads {ro : Ro} {S : St} {I : In} {x B T b : Nat} {X : Ar} {lw : Nat → Nat} (L : LayX S x) (h : VN S I (x + 1) B X T lw) (hW : WN X T b) (hB : x + 134 ≤ B) {J : In} {m : Nat} (hX : J (m + 1) = X) (hSh : ShR I J x m) (hM : MW J m) {s z : Nat} (hs : s < 4) (hz : I (x + 88 + 2 * s) 2 = nI z) (hz24 : z ≤ 24) (hce : ∀ j, j < 24 → I (x + 88 + 2 * s + 1) j = J (m + 16) (24 * s + j)) : ∀ k r i, i + r = z → z < i + k → V RX10 cX10_reads 5 (some .int) "reads" ro (rmD 1 0 0) (QM 0 0 (QX S I x B T lw (rdF X (fun j => J (m + 16) (24 * s + j)) (ln X) r i, X))) 0 0 30 [.ref x, JJ, .ref ((x + 88 + 2 * s)), .int (nI i), JJ] [] S I := by
  have hl30 := hW.2.2.2.1
  intro k
  induction k with
  | zero => intro r i hi hk; exact absurd hk (by omega)
  | succ k ih =>
    intro r i hi hk
    refine v_iload_n (n := 31) dX10_reads_30 rfl rfl rfl ?_
    refine v_aload_n (n := 32) dX10_reads_31 rfl rfl rfl ?_
    refine v_getI (n := 35) f_X10_279 rfl (L.sh hs).2.s dX10_reads_32 rfl ?_
    rw [hz]
    refine v_icmp_ge (n := 38) (tgt := 104) dX10_reads_35 (by decide) rfl (fun hq35 => ?_) (fun hq35 => ?_)
    · obtain rfl : r = 0 := by have := le_out hq35 (by omega) (by omega); omega
      refine v_ldc (n := 106) k_X10_193 dX10_reads_104 rfl ?_
      exact v_qx rfl rfl h Eqx.rf ⟨l8 rfl, l8 rfl⟩ dX10_reads_106
    · have hlt := nle_in hq35 (by omega) (by omega)
      obtain ⟨r9, rfl⟩ : ∃ r9, r = r9 + 1 := ⟨r - 1, by omega⟩
      refine v_iload_n (n := 39) dX10_reads_38 rfl rfl rfl ?_
      refine v_aload_n (n := 40) dX10_reads_39 rfl rfl rfl ?_
      refine v_getR (n := 43) f_X10_10 rfl L.s L.g0 dX10_reads_40 rfl ?_
      refine v_getR (n := 46) f_X10_126 rfl L.c0.s L.c0.g1 dX10_reads_43 rfl ?_
      refine v_getI (n := 49) f_X10_170 rfl L.c0.c1.s dX10_reads_46 rfl ?_
      rw [h.2.1.1.1]
      refine v_icmp_ge (n := 52) (tgt := 77) dX10_reads_49 (by decide) rfl (fun hq49 => ?_) (fun hq49 => ?_)
      · have hle49 := le_out hq49 (by omega) (by omega)
        refine v_iconst (n := 78) (v := 0) dX10_reads_77 c_0 rfl ?_
        refine v_istore (n := 80) (al' := [.ref x, JJ, .ref ((x + 88 + 2 * s)), .int (nI i), .int 0]) dX10_reads_78 rfl rfl rfl ?_
        refine v_aload_n (n := 81) dX10_reads_80 rfl rfl rfl ?_
        refine v_getR (n := 84) f_X10_274 rfl (L.sh hs).2.s (L.sh hs).2.g0 dX10_reads_81 rfl ?_
        refine v_iload_n (n := 85) dX10_reads_84 rfl rfl rfl ?_
        refine v_iald (n := 86) (j := i) (L.sh hs).2.c0 (ix_nI (by omega) (by decide)) dX10_reads_85 rfl ?_
        rw [hce i (by omega)]
        refine v_ldc (n := 88) k_X10_193 dX10_reads_86 rfl ?_
        refine v_icmp_eq (n := 91) (tgt := 98) dX10_reads_88 (by decide) rfl (fun hq88 => ?_) (fun hq88 => ?_)
        · refine v_iinc (n := 101) (v := (nI i) + 1) (al' := [.ref x, JJ, .ref ((x + 88 + 2 * s)), .int ((nI i) + 1), .int 0]) dX10_reads_98 rfl (by rw [c_1]) rfl rfl rfl ?_
          refine v_goto (tgt := 30) dX10_reads_101 (by decide) ?_
          refine v_drop 4 (al' := [.ref x, JJ, .ref ((x + 88 + 2 * s)), .int ((nI i) + 1), JJ]) rfl ?_
          rw [nI_1, rdF, if_neg (fun z => z.1 hq88)]
          exact ih r9 (i + 1) (by omega) (by omega)
        · refine v_iload (n := 93) dX10_reads_91 rfl rfl ?_
          refine v_if_ne (n := 96) (tgt := 98) dX10_reads_93 (by decide) rfl (fun hq93 => ?_) (fun hq93 => ?_)
          · exact absurd rfl hq93
          · refine v_iload_n (n := 97) dX10_reads_96 rfl rfl rfl ?_
            rw [rdF, if_pos ⟨hq88, Or.inl hle49⟩]
            exact v_qx rfl rfl h Eqx.rf ⟨l8 rfl, l8 rfl⟩ dX10_reads_97
      · have hlt49 := nle_in hq49 (by omega) (by omega)
        refine v_aload_n (n := 53) dX10_reads_52 rfl rfl rfl ?_
        refine v_getR (n := 56) f_X10_274 rfl (L.sh hs).2.s (L.sh hs).2.g0 dX10_reads_53 rfl ?_
        refine v_iload_n (n := 57) dX10_reads_56 rfl rfl rfl ?_
        refine v_iald (n := 58) (j := i) (L.sh hs).2.c0 (ix_nI (by omega) (by decide)) dX10_reads_57 rfl ?_
        rw [hce i (by omega)]
        refine v_aload_n (n := 59) dX10_reads_58 rfl rfl rfl ?_
        refine v_getR (n := 62) f_X10_10 rfl L.s L.g0 dX10_reads_59 rfl ?_
        refine v_getR (n := 65) f_X10_126 rfl L.c0.s L.c0.g1 dX10_reads_62 rfl ?_
        refine v_getR (n := 68) f_X10_179 rfl L.c0.c1.s L.c0.c1.g1 dX10_reads_65 rfl ?_
        refine v_iload_n (n := 69) dX10_reads_68 rfl rfl rfl ?_
        refine v_iald (n := 70) (j := i) L.c0.c1.c1 (ix_nI (by omega) (by decide)) dX10_reads_69 rfl ?_
        rw [(h.2.1.2.1 i hlt49).2]
        refine v_icmp_ne (n := 73) (tgt := 77) dX10_reads_70 (by decide) rfl (fun hq70 => ?_) (fun hq70 => ?_)
        · refine v_iconst (n := 78) (v := 0) dX10_reads_77 c_0 rfl ?_
          refine v_istore (n := 80) (al' := [.ref x, JJ, .ref ((x + 88 + 2 * s)), .int (nI i), .int 0]) dX10_reads_78 rfl rfl rfl ?_
          refine v_aload_n (n := 81) dX10_reads_80 rfl rfl rfl ?_
          refine v_getR (n := 84) f_X10_274 rfl (L.sh hs).2.s (L.sh hs).2.g0 dX10_reads_81 rfl ?_
          refine v_iload_n (n := 85) dX10_reads_84 rfl rfl rfl ?_
          refine v_iald (n := 86) (j := i) (L.sh hs).2.c0 (ix_nI (by omega) (by decide)) dX10_reads_85 rfl ?_
          rw [hce i (by omega)]
          refine v_ldc (n := 88) k_X10_193 dX10_reads_86 rfl ?_
          refine v_icmp_eq (n := 91) (tgt := 98) dX10_reads_88 (by decide) rfl (fun hq88 => ?_) (fun hq88 => ?_)
          · refine v_iinc (n := 101) (v := (nI i) + 1) (al' := [.ref x, JJ, .ref ((x + 88 + 2 * s)), .int ((nI i) + 1), .int 0]) dX10_reads_98 rfl (by rw [c_1]) rfl rfl rfl ?_
            refine v_goto (tgt := 30) dX10_reads_101 (by decide) ?_
            refine v_drop 4 (al' := [.ref x, JJ, .ref ((x + 88 + 2 * s)), .int ((nI i) + 1), JJ]) rfl ?_
            rw [nI_1, rdF, if_neg (fun z => z.1 hq88)]
            exact ih r9 (i + 1) (by omega) (by omega)
          · refine v_iload (n := 93) dX10_reads_91 rfl rfl ?_
            refine v_if_ne (n := 96) (tgt := 98) dX10_reads_93 (by decide) rfl (fun hq93 => ?_) (fun hq93 => ?_)
            · exact absurd rfl hq93
            · refine v_iload_n (n := 97) dX10_reads_96 rfl rfl rfl ?_
              rw [rdF, if_pos ⟨hq88, Or.inr hq70⟩]
              exact v_qx rfl rfl h Eqx.rf ⟨l8 rfl, l8 rfl⟩ dX10_reads_97
        · refine v_iconst (n := 74) (v := 1) dX10_reads_73 c_1 rfl ?_
          refine v_goto (tgt := 78) dX10_reads_74 (by decide) ?_
          refine v_istore (n := 80) (al' := [.ref x, JJ, .ref ((x + 88 + 2 * s)), .int (nI i), .int 1]) dX10_reads_78 rfl rfl rfl ?_
          refine v_aload_n (n := 81) dX10_reads_80 rfl rfl rfl ?_
          refine v_getR (n := 84) f_X10_274 rfl (L.sh hs).2.s (L.sh hs).2.g0 dX10_reads_81 rfl ?_
          refine v_iload_n (n := 85) dX10_reads_84 rfl rfl rfl ?_
          refine v_iald (n := 86) (j := i) (L.sh hs).2.c0 (ix_nI (by omega) (by decide)) dX10_reads_85 rfl ?_
          rw [hce i (by omega)]
          refine v_ldc (n := 88) k_X10_193 dX10_reads_86 rfl ?_
          refine v_icmp_eq (n := 91) (tgt := 98) dX10_reads_88 (by decide) rfl (fun hq88 => ?_) (fun hq88 => ?_)
          · refine v_iinc (n := 101) (v := (nI i) + 1) (al' := [.ref x, JJ, .ref ((x + 88 + 2 * s)), .int ((nI i) + 1), .int 1]) dX10_reads_98 rfl (by rw [c_1]) rfl rfl rfl ?_
            refine v_goto (tgt := 30) dX10_reads_101 (by decide) ?_
            refine v_drop 4 (al' := [.ref x, JJ, .ref ((x + 88 + 2 * s)), .int ((nI i) + 1), JJ]) rfl ?_
            rw [nI_1, rdF, if_neg (fun z => z.1 hq88)]
            exact ih r9 (i + 1) (by omega) (by omega)
          · refine v_iload (n := 93) dX10_reads_91 rfl rfl ?_
            refine v_if_ne (n := 96) (tgt := 98) dX10_reads_93 (by decide) rfl (fun hq93 => ?_) (fun hq93 => ?_)
            · refine v_iinc (n := 101) (v := (nI i) + 1) (al' := [.ref x, JJ, .ref ((x + 88 + 2 * s)), .int ((nI i) + 1), .int 1]) dX10_reads_98 rfl (by rw [c_1]) rfl rfl rfl ?_
              refine v_goto (tgt := 30) dX10_reads_101 (by decide) ?_
              refine v_drop 4 (al' := [.ref x, JJ, .ref ((x + 88 + 2 * s)), .int ((nI i) + 1), JJ]) rfl ?_
              rw [nI_1, rdF, if_neg (fun z => z.2.elim (fun z => absurd z (by omega)) (fun z => z hq70))]
              exact ih r9 (i + 1) (by omega) (by omega)
            · exact absurd hq93 (by decide)

set_option maxRecDepth 100000 in
set_option maxHeartbeats 1000000 in
theorem c_X10_reads {ro : Ro} {S : St} {I : In} {xa : Int32} {x B T b : Nat} {X : Ar} {lw : Nat → Nat} (L : LayX S x) (h : VN S I (x + 1) B X T lw) (hW : WN X T b) (hB : x + 134 ≤ B) {J : In} {m : Nat} (hX : J (m + 1) = X) (hSh : ShR I J x m) (hM : MW J m) : Ok mX10_reads ro 1 0 0 [.ref x, .int xa] S I (QX S I x B T lw (readsM J m (ln X) xa, X)) := by
  refine ok_of (al := [.ref x, .int xa, JJ, JJ, JJ]) (by decide) (l8 rfl) rfl ?_
  refine v_iload_n (n := 1) dX10_reads_0 rfl rfl rfl ?_
  refine v_cSi (n := 4) (x := (bi (inn xa 0 3))) mc_X10_isSheet l_X10_220 sta_X10_isSheet k_sh ⟨rfl, rfl⟩ (l8 rfl) ⟨l8 rfl, l8 rfl⟩ rfl rfl (l8 rfl) dX10_reads_1 rfl ?_
  refine v_if_ne (n := 7) (tgt := 10) dX10_reads_4 (by decide) rfl (fun hq4 => ?_) (fun hq4 => ?_)
  · have his := bi_n0.mp hq4
    obtain ⟨s, hs3, rfl⟩ := inn_get (a := 3) his (by decide)
    have hs : s < 4 := by omega
    have hcs : (nI s).toNatClampNeg = s := nI_clamp (by omega)
    obtain ⟨es1, es2, es3⟩ := hSh s hs
    obtain ⟨ms1, zs, hzs, ms2⟩ := hM.1 s hs
    refine v_aload_n (n := 11) dX10_reads_10 rfl rfl rfl ?_
    refine v_getR (n := 14) f_X10_52 rfl L.s L.g7 dX10_reads_11 rfl ?_
    refine v_iload_n (n := 15) dX10_reads_14 rfl rfl rfl ?_
    refine v_aald (n := 16) (t := 5) (j := s) ⟨by decide, by decide⟩ L.c7 (ix_nI hs (by decide)) (L.sh hs).1 dX10_reads_15 rfl ?_
    refine v_astore_n (n := 17) (al' := [.ref x, .int (nI s), .ref ((x + 88 + 2 * s)), JJ, JJ]) dX10_reads_16 rfl rfl rfl rfl ?_
    refine v_aload_n (n := 18) dX10_reads_17 rfl rfl rfl ?_
    refine v_getI (n := 21) f_X10_223 rfl (L.sh hs).2.s dX10_reads_18 rfl ?_
    rw [es1]
    refine v_iconst (n := 22) (v := (-1)) dX10_reads_21 c_m1 rfl ?_
    refine v_icmp_ne (n := 25) (tgt := 28) dX10_reads_22 (by decide) rfl (fun hq22 => ?_) (fun hq22 => ?_)
    · have h0 : 0 ≤ J (m + 14) s := sort_0 ms1 hq22
      refine v_iconst (n := 29) (v := 0) dX10_reads_28 c_0 rfl ?_
      refine v_istore_n (n := 30) (al' := [.ref x, .int (nI s), .ref ((x + 88 + 2 * s)), .int 0, JJ]) dX10_reads_29 rfl rfl rfl rfl ?_
      refine v_drop 1 (al' := [.ref x, JJ, .ref ((x + 88 + 2 * s)), .int 0, JJ]) rfl ?_
      rw [readsM, if_pos his, hcs, if_pos h0, hX, ms2, nI_clamp (by omega)]
      exact l_X10_reads L h hW hB hX hSh hM hs (es2.trans ms2) hzs es3 (zs + 1) zs 0 (by omega) (by omega)
    · refine v_ldc (n := 27) k_X10_226 dX10_reads_25 rfl ?_
      exact v_qx rfl (by rw [readsM, if_pos his, hcs, if_neg (by rw [hq22]; decide)]) h Eqx.rf ⟨l8 rfl, l8 rfl⟩ dX10_reads_27
  · refine v_ldc (n := 9) k_X10_84 dX10_reads_7 rfl ?_
    exact v_qx rfl (by rw [readsM, if_neg (by rw [bi_0.mp hq4]; decide)]) h Eqx.rf ⟨l8 rfl, l8 rfl⟩ dX10_reads_9

theorem upd_same {X : Ar} {k : Nat} {v : Int32} (h : X k = v) : upd X k v = X := by
  funext j
  by_cases c : j = k
  · subst c; rw [pk_us, h]
  · rw [pk_un c]
theorem pou_f {X ce : Ar} (i : Nat) : yn (pouX X ce i) = yn X ∧ ln (pouX X ce i) = ln X := ⟨congrArg Int32.toNatClampNeg (pou_o i (by omega)), congrArg Int32.toNatClampNeg (pou_o i (by omega))⟩
set_option maxRecDepth 100000 in
set_option maxHeartbeats 1000000 in
theorem l_X10_pour {ro : Ro} {S : St} {I : In} {F : Int32 × Ar} {x B T b : Nat} {X : Ar} {lw : Nat → Nat} (L : LayX S x) (h : VN S I (x + 1) B X T lw) (hW : WN X T b) (hB : x + 134 ≤ B) {J : In} {m : Nat} (hX : J (m + 1) = X) (hSh : ShR I J x m) (hM : MW J m) {s z : Nat} (hs : s < 4) (hz : I (x + 88 + 2 * s) 2 = nI z) (hz24 : z ≤ 24) (hce : ∀ j, j < 24 → I (x + 88 + 2 * s + 1) j = J (m + 16) (24 * s + j)) {K : Nat} (hK : K = min z (yn X)) (hF : F = ((pouN X (fun j => J (m + 16) (24 * s + j)) K), (pouX X (fun j => J (m + 16) (24 * s + j)) K))) : ∀ k i, i ≤ K → K < i + k → ∀ J1, VN S J1 (x + 1) B (pouX X (fun j => J (m + 16) (24 * s + j)) i) T lw → Eqx (vfr (x + 1) B) I J1 → V RX10 cX10_pour 6 (some .int) "pour" ro (rmD 2 0 0) (QM 0 0 (QX S I x B T lw (F))) 0 0 33 [.ref x, JJ, .ref ((x + 88 + 2 * s)), .int (pouN X (fun j => J (m + 16) (24 * s + j)) i), .int (nI i), JJ] [] S J1 := by
  have hn10 := hW.2.1
  intro k
  induction k with
  | zero => intro i hi hk; exact absurd hk (by omega)
  | succ k ih =>
    intro i hi hk J1 hv hE
    refine v_iload (n := 35) dX10_pour_33 rfl rfl ?_
    refine v_aload_n (n := 36) dX10_pour_35 rfl rfl rfl ?_
    refine v_getI (n := 39) f_X10_279 rfl (L.sh hs).2.s dX10_pour_36 rfl ?_
    rw [hE _ (by unfold vfr blk stk; omega), hz]
    refine v_icmp_ge (n := 42) (tgt := 126) dX10_pour_39 (by decide) rfl (fun hq39 => ?_) (fun hq39 => ?_)
    · obtain rfl : i = K := by have := le_out hq39 (by omega) (by omega); omega
      refine v_iload_n (n := 127) dX10_pour_126 rfl rfl rfl ?_
      exact v_qx rfl hF hv hE ⟨l8 rfl, l8 rfl⟩ dX10_pour_127
    · have hlt := nle_in hq39 (by omega) (by omega)
      refine v_iload (n := 44) dX10_pour_42 rfl rfl ?_
      refine v_aload_n (n := 45) dX10_pour_44 rfl rfl rfl ?_
      refine v_getR (n := 48) f_X10_10 rfl L.s L.g0 dX10_pour_45 rfl ?_
      refine v_getR (n := 51) f_X10_85 rfl L.c0.s L.c0.g0 dX10_pour_48 rfl ?_
      refine v_getI (n := 54) f_X10_89 rfl L.c0.c0.s dX10_pour_51 rfl ?_
      rw [hv.1.1, (pou_f i).1]
      refine v_icmp_ge (n := 57) (tgt := 126) dX10_pour_54 (by decide) rfl (fun hq54 => ?_) (fun hq54 => ?_)
      · obtain rfl : i = K := by have := le_out hq54 (by omega) (by omega); omega
        refine v_iload_n (n := 127) dX10_pour_126 rfl rfl rfl ?_
        exact v_qx rfl hF hv hE ⟨l8 rfl, l8 rfl⟩ dX10_pour_127
      · have hlt2 := nle_in hq54 (by omega) (by omega)
        have hlt9 : i < K := by omega
        have ev := (hv.1.2 i (by rw [(pou_f i).1]; exact hlt2)).2.1
        have hto : ¬ J (m + 16) (24 * s + i) = -1000000005 → pTo X (fun j => J (m + 16) (24 * s + j)) i = win (J (m + 16) (24 * s + i)) 0 999 := fun z => by rw [pTo, if_neg z]
        refine v_aload_n (n := 58) dX10_pour_57 rfl rfl rfl ?_
        refine v_getR (n := 61) f_X10_274 rfl (L.sh hs).2.s (L.sh hs).2.g0 dX10_pour_58 rfl ?_
        refine v_iload (n := 63) dX10_pour_61 rfl rfl ?_
        refine v_iald (n := 64) (j := i) (L.sh hs).2.c0 (ix_nI (by omega) (by decide)) dX10_pour_63 rfl ?_
        rw [hE _ (by unfold vfr blk stk; omega), hce i (by omega)]
        refine v_sipush (n := 67) (v := 999) dX10_pour_64 s_999 rfl ?_
        refine v_cSi (n := 70) (x := (mx 0 (mn 999 (J (m + 16) (24 * s + i))))) mc_X10_held l_X10_282 sta_X10_held k_X10_held ⟨rfl, rfl⟩ (l8 rfl) ⟨l8 rfl, l8 rfl⟩ rfl rfl (l8 rfl) dX10_pour_67 rfl ?_
        rw [held_win (by decide)]
        refine v_istore (n := 72) (al' := [.ref x, JJ, .ref ((x + 88 + 2 * s)), .int (pouN X (fun j => J (m + 16) (24 * s + j)) i), .int (nI i), .int (win (J (m + 16) (24 * s + i)) 0 999)]) dX10_pour_70 rfl rfl rfl ?_
        refine v_aload_n (n := 73) dX10_pour_72 rfl rfl rfl ?_
        refine v_getR (n := 76) f_X10_274 rfl (L.sh hs).2.s (L.sh hs).2.g0 dX10_pour_73 rfl ?_
        refine v_iload (n := 78) dX10_pour_76 rfl rfl ?_
        refine v_iald (n := 79) (j := i) (L.sh hs).2.c0 (ix_nI (by omega) (by decide)) dX10_pour_78 rfl ?_
        rw [hE _ (by unfold vfr blk stk; omega), hce i (by omega)]
        refine v_ldc (n := 81) k_X10_193 dX10_pour_79 rfl ?_
        refine v_icmp_eq (n := 84) (tgt := 120) dX10_pour_81 (by decide) rfl (fun hq81 => ?_) (fun hq81 => ?_)
        · refine v_iinc (n := 123) (v := (nI i) + 1) (al' := [.ref x, JJ, .ref ((x + 88 + 2 * s)), .int (pouN X (fun j => J (m + 16) (24 * s + j)) i), .int ((nI i) + 1), .int (win (J (m + 16) (24 * s + i)) 0 999)]) dX10_pour_120 rfl (by rw [c_1]) rfl rfl rfl ?_
          refine v_goto (tgt := 33) dX10_pour_123 (by decide) ?_
          refine v_drop 5 (al' := [.ref x, JJ, .ref ((x + 88 + 2 * s)), .int (pouN X (fun j => J (m + 16) (24 * s + j)) i), .int ((nI i) + 1), JJ]) rfl ?_
          rw [nI_1]
          have hsm : X (76 + 4 * i + 1) = pTo X (fun j => J (m + 16) (24 * s + j)) i := by rw [pTo, if_pos hq81]
          rw [show (pouN X (fun j => J (m + 16) (24 * s + j)) i) = (pouN X (fun j => J (m + 16) (24 * s + j)) (i + 1)) from by rw [pouN, if_pos hsm, Int32.add_zero]]
          exact ih (i + 1) hlt9 (by omega) J1 (by rw [pouX, upd_same (by rw [pou_o i (by omega)]; exact hsm)]; exact hv) hE
        · refine v_iload (n := 86) dX10_pour_84 rfl rfl ?_
          refine v_aload_n (n := 87) dX10_pour_86 rfl rfl rfl ?_
          refine v_getR (n := 90) f_X10_10 rfl L.s L.g0 dX10_pour_87 rfl ?_
          refine v_getR (n := 93) f_X10_85 rfl L.c0.s L.c0.g0 dX10_pour_90 rfl ?_
          refine v_getR (n := 96) f_X10_103 rfl L.c0.c0.s L.c0.c0.g1 dX10_pour_93 rfl ?_
          refine v_iload (n := 98) dX10_pour_96 rfl rfl ?_
          refine v_iald (n := 99) (j := i) L.c0.c0.c1 (ix_nI (by omega) (by decide)) dX10_pour_98 rfl ?_
          rw [ev, pou_o i (by omega)]
          refine v_icmp_eq (n := 102) (tgt := 120) dX10_pour_99 (by decide) rfl (fun hq99 => ?_) (fun hq99 => ?_)
          · refine v_iinc (n := 123) (v := (nI i) + 1) (al' := [.ref x, JJ, .ref ((x + 88 + 2 * s)), .int (pouN X (fun j => J (m + 16) (24 * s + j)) i), .int ((nI i) + 1), .int (win (J (m + 16) (24 * s + i)) 0 999)]) dX10_pour_120 rfl (by rw [c_1]) rfl rfl rfl ?_
            refine v_goto (tgt := 33) dX10_pour_123 (by decide) ?_
            refine v_drop 5 (al' := [.ref x, JJ, .ref ((x + 88 + 2 * s)), .int (pouN X (fun j => J (m + 16) (24 * s + j)) i), .int ((nI i) + 1), JJ]) rfl ?_
            rw [nI_1]
            have hsm : X (76 + 4 * i + 1) = pTo X (fun j => J (m + 16) (24 * s + j)) i := by rw [hto hq81]; exact hq99.symm
            rw [show (pouN X (fun j => J (m + 16) (24 * s + j)) i) = (pouN X (fun j => J (m + 16) (24 * s + j)) (i + 1)) from by rw [pouN, if_pos hsm, Int32.add_zero]]
            exact ih (i + 1) hlt9 (by omega) J1 (by rw [pouX, upd_same (by rw [pou_o i (by omega)]; exact hsm)]; exact hv) hE
          · refine v_aload_n (n := 103) dX10_pour_102 rfl rfl rfl ?_
            refine v_getR (n := 106) f_X10_10 rfl L.s L.g0 dX10_pour_103 rfl ?_
            refine v_getR (n := 109) f_X10_85 rfl L.c0.s L.c0.g0 dX10_pour_106 rfl ?_
            refine v_getR (n := 112) f_X10_103 rfl L.c0.c0.s L.c0.c0.g1 dX10_pour_109 rfl ?_
            refine v_iload (n := 114) dX10_pour_112 rfl rfl ?_
            refine v_iload (n := 116) dX10_pour_114 rfl rfl ?_
            refine v_iast (n := 117) (j := i) L.c0.c0.c1 (ix_nI (by omega) (by decide)) dX10_pour_116 rfl ?_
            refine v_iinc (n := 120) (v := (pouN X (fun j => J (m + 16) (24 * s + j)) i) + 1) (al' := [.ref x, JJ, .ref ((x + 88 + 2 * s)), .int ((pouN X (fun j => J (m + 16) (24 * s + j)) i) + 1), .int (nI i), .int (win (J (m + 16) (24 * s + i)) 0 999)]) dX10_pour_117 rfl (by rw [c_1]) rfl rfl rfl ?_
            refine v_iinc (n := 123) (v := (nI i) + 1) (al' := [.ref x, JJ, .ref ((x + 88 + 2 * s)), .int ((pouN X (fun j => J (m + 16) (24 * s + j)) i) + 1), .int ((nI i) + 1), .int (win (J (m + 16) (24 * s + i)) 0 999)]) dX10_pour_120 rfl (by rw [c_1]) rfl rfl rfl ?_
            refine v_goto (tgt := 33) dX10_pour_123 (by decide) ?_
            refine v_drop 5 (al' := [.ref x, JJ, .ref ((x + 88 + 2 * s)), .int ((pouN X (fun j => J (m + 16) (24 * s + j)) i) + 1), .int ((nI i) + 1), JJ]) rfl ?_
            rw [nI_1]
            rw [show (pouN X (fun j => J (m + 16) (24 * s + j)) i) + 1 = (pouN X (fun j => J (m + 16) (24 * s + j)) (i + 1)) from by rw [pouN, hto hq81, if_neg (fun z => hq99 z.symm)]]
            exact ih (i + 1) hlt9 (by omega) _ (by rw [pouX, hto hq81]; exact vn_ring (u := 1) (y := i) hv (by omega) hW.2.2.2.2.1.2.1 (by rw [(pou_f i).1]; exact hW.2.1) (by rw [(pou_f i).2]; exact hW.2.2.2.1) (by omega) (by decide)) (hE.set (Or.inl (by unfold blk; omega)))

set_option maxRecDepth 100000 in
set_option maxHeartbeats 1000000 in
theorem c_X10_pour {ro : Ro} {S : St} {I : In} {xa : Int32} {x B T b : Nat} {X : Ar} {lw : Nat → Nat} (L : LayX S x) (h : VN S I (x + 1) B X T lw) (hW : WN X T b) (hB : x + 134 ≤ B) {J : In} {m : Nat} (hX : J (m + 1) = X) (hSh : ShR I J x m) (hM : MW J m) : Ok mX10_pour ro 2 0 0 [.ref x, .int xa] S I (QX S I x B T lw ((pourM J m (yn X) xa).1, (pourM J m (yn X) xa).2 (m + 1))) := by
  refine ok_of (al := [.ref x, .int xa, JJ, JJ, JJ, JJ]) (by decide) (l8 rfl) rfl ?_
  refine v_iload_n (n := 1) dX10_pour_0 rfl rfl rfl ?_
  refine v_cSi (n := 4) (x := (bi (inn xa 0 3))) mc_X10_isSheet l_X10_220 sta_X10_isSheet k_sh ⟨rfl, rfl⟩ (l8 rfl) ⟨l8 rfl, l8 rfl⟩ rfl rfl (l8 rfl) dX10_pour_1 rfl ?_
  refine v_if_ne (n := 7) (tgt := 10) dX10_pour_4 (by decide) rfl (fun hq4 => ?_) (fun hq4 => ?_)
  · have his := bi_n0.mp hq4
    obtain ⟨s, hs3, rfl⟩ := inn_get (a := 3) his (by decide)
    have hs : s < 4 := by omega
    have hcs : (nI s).toNatClampNeg = s := nI_clamp (by omega)
    obtain ⟨es1, es2, es3⟩ := hSh s hs
    obtain ⟨ms1, zs, hzs, ms2⟩ := hM.1 s hs
    refine v_aload_n (n := 11) dX10_pour_10 rfl rfl rfl ?_
    refine v_getR (n := 14) f_X10_52 rfl L.s L.g7 dX10_pour_11 rfl ?_
    refine v_iload_n (n := 15) dX10_pour_14 rfl rfl rfl ?_
    refine v_aald (n := 16) (t := 5) (j := s) ⟨by decide, by decide⟩ L.c7 (ix_nI hs (by decide)) (L.sh hs).1 dX10_pour_15 rfl ?_
    refine v_astore_n (n := 17) (al' := [.ref x, .int (nI s), .ref ((x + 88 + 2 * s)), JJ, JJ, JJ]) dX10_pour_16 rfl rfl rfl rfl ?_
    refine v_aload_n (n := 18) dX10_pour_17 rfl rfl rfl ?_
    refine v_getI (n := 21) f_X10_223 rfl (L.sh hs).2.s dX10_pour_18 rfl ?_
    rw [es1]
    refine v_iconst (n := 22) (v := (-1)) dX10_pour_21 c_m1 rfl ?_
    refine v_icmp_ne (n := 25) (tgt := 28) dX10_pour_22 (by decide) rfl (fun hq22 => ?_) (fun hq22 => ?_)
    · have h0 : 0 ≤ J (m + 14) s := sort_0 ms1 hq22
      refine v_iconst (n := 29) (v := 0) dX10_pour_28 c_0 rfl ?_
      refine v_istore_n (n := 30) (al' := [.ref x, .int (nI s), .ref ((x + 88 + 2 * s)), .int 0, JJ, JJ]) dX10_pour_29 rfl rfl rfl rfl ?_
      refine v_iconst (n := 31) (v := 0) dX10_pour_30 c_0 rfl ?_
      refine v_istore (n := 33) (al' := [.ref x, .int (nI s), .ref ((x + 88 + 2 * s)), .int 0, .int 0, JJ]) dX10_pour_31 rfl rfl rfl ?_
      refine v_drop 1 (al' := [.ref x, JJ, .ref ((x + 88 + 2 * s)), .int 0, .int 0, JJ]) rfl ?_
      exact l_X10_pour L h hW hB hX hSh hM hs (es2.trans ms2) hzs es3 rfl (by rw [pourM, if_pos his, hcs, if_pos h0, hX, ms2, nI_clamp (by omega)]; simp only [row_s]) (min zs (yn X) + 1) 0 (Nat.zero_le _) (by omega) I h Eqx.rf
    · refine v_ldc (n := 27) k_X10_226 dX10_pour_25 rfl ?_
      exact v_qx rfl (by rw [pourM, if_pos his, hcs, if_neg (by rw [hq22]; decide)]; simp only [hX]) h Eqx.rf ⟨l8 rfl, l8 rfl⟩ dX10_pour_27
  · refine v_ldc (n := 9) k_X10_84 dX10_pour_7 rfl ?_
    exact v_qx rfl (by rw [pourM, if_neg (by rw [bi_0.mp hq4]; decide)]; simp only [hX]) h Eqx.rf ⟨l8 rfl, l8 rfl⟩ dX10_pour_9

def SlR (I J : In) (x m : Nat) : Prop := ∀ s, s < 5 → I (x + 96 + 3 * s) 1 = J (m + 17) s ∧ (J (m + 17) s = 1 → I (x + 96 + 3 * s) 2 = J (m + 18) s ∧ (∃ k, k < 6 ∧ J (m + 18) s = nI k) ∧ kWorthM (I (x + 96 + 3 * s) 2) (I (x + 96 + 3 * s) 3) (I (x + 96 + 3 * s) 4) = J (m + 19) s) ∧ (J (m + 17) s = 2 → I (x + 96 + 3 * s + 1) 2 = J (m + 18) s ∧ ∀ j, j < 24 → I (x + 96 + 3 * s + 1 + 1) j = J (m + 20) (24 * s + j)) ∧ (J (m + 17) s = 3 → I (x + 96 + 3 * s) 5 = J (m + 18) s)
theorem SlR.eqx {P : Nat → Prop} {I I' J : In} {x m : Nat} (h : SlR I J x m) (hE : Eqx P I I') (hP : ∀ a, P a → a < x + 96 ∨ x + 111 ≤ a) : SlR I' J x m := fun s hs => by
  rw [hE (x + 96 + 3 * s) (fun z => by have := hP _ z; omega), hE (x + 96 + 3 * s + 1) (fun z => by have := hP _ z; omega), hE (x + 96 + 3 * s + 1 + 1) (fun z => by have := hP _ z; omega)]
  exact h s hs
theorem mod_m1 (v : Int32) : v % -1 = 0 := by
  apply Int32.toInt_inj.mp
  rw [Int32.toInt_mod, show (-1 : Int32).toInt = -1 from by decide, Int.tmod_neg, Int.tmod_one]; rfl
set_option maxRecDepth 100000 in
set_option maxHeartbeats 1000000 in
theorem c_X10_ask {ro : Ro} {S : St} {I : In} {xa xb : Int32} {x m : Nat} {J : In} (L : LayX S x) (hSl : SlR I J x m) (hM : MW J m) : Ok mX10_ask ro 2 0 0 [.ref x, .int xa, .int xb] S I (RI (askM J m xa xb) S I) := by
  refine ok_of (al := [.ref x, .int xa, .int xb, JJ]) (by decide) (l8 rfl) rfl ?_
  refine v_iload_n (n := 1) dX10_ask_0 rfl rfl rfl ?_
  refine v_cSi (n := 4) (x := (bi (inn xa 0 4))) mc_X10_isSlot l_X10_294 sta_X10_isSlot k_sl ⟨rfl, rfl⟩ (l8 rfl) ⟨l8 rfl, l8 rfl⟩ rfl rfl (l8 rfl) dX10_ask_1 rfl ?_
  refine v_if_eq (n := 7) (tgt := 14) dX10_ask_4 (by decide) rfl (fun hq4 => ?_) (fun hq4 => ?_)
  · refine v_ldc (n := 16) k_X10_84 dX10_ask_14 rfl ?_
    exact v_rI rfl (by rw [askM, if_neg (by rw [bi_0.mp hq4, Bool.false_and]; decide)]) rfl rfl ⟨l8 rfl, l8 rfl⟩ dX10_ask_16
  · refine v_iload_n (n := 8) dX10_ask_7 rfl rfl rfl ?_
    refine v_cSi (n := 11) (x := (bi (inn xb 0 5))) mc_X1_has l_X10_72 sta_X1_has k_X1_has ⟨rfl, rfl⟩ (l8 rfl) ⟨l8 rfl, l8 rfl⟩ rfl rfl (l8 rfl) dX10_ask_8 rfl ?_
    refine v_if_ne (n := 14) (tgt := 17) dX10_ask_11 (by decide) rfl (fun hq11 => ?_) (fun hq11 => ?_)
    · have his := bi_n0.mp hq4
      obtain ⟨s, hs4, rfl⟩ := inn_get (a := 4) his (by decide)
      have hs : s < 5 := by omega
      have hcs : (nI s).toNatClampNeg = s := nI_clamp (by omega)
      obtain ⟨e1, ea, eb, ec⟩ := hSl s hs
      obtain ⟨m1, m2⟩ := hM.2.1 s hs
      have hib := bi_n0.mp hq11
      obtain ⟨q, hq5, rfl⟩ := inn_get (a := 5) hib (by decide)
      have hq : q < 6 := by omega
      have hgt : (inn (nI s) 0 4 && inn (nI q) 0 5) = true := by rw [his, hib]; rfl
      refine v_aload_n (n := 18) dX10_ask_17 rfl rfl rfl ?_
      refine v_getR (n := 21) f_X10_58 rfl L.s L.g8 dX10_ask_18 rfl ?_
      refine v_iload_n (n := 22) dX10_ask_21 rfl rfl rfl ?_
      refine v_aald (n := 23) (t := 6) (j := s) ⟨by decide, by decide⟩ L.c8 (ix_nI hs (by decide)) (L.sl hs).1 dX10_ask_22 rfl ?_
      refine v_astore_n (n := 24) (al' := [.ref x, .int (nI s), .int (nI q), .ref ((x + 96 + 3 * s))]) dX10_ask_23 rfl rfl rfl rfl ?_
      refine v_aload_n (n := 25) dX10_ask_24 rfl rfl rfl ?_
      refine v_getI (n := 28) f_X10_297 rfl (L.sl hs).2.s dX10_ask_25 rfl ?_
      rw [e1]
      refine v_if_ne (n := 31) (tgt := 34) dX10_ask_28 (by decide) rfl (fun hq28 => ?_) (fun hq28 => ?_)
      · refine v_aload_n (n := 35) dX10_ask_34 rfl rfl rfl ?_
        refine v_getI (n := 38) f_X10_297 rfl (L.sl hs).2.s dX10_ask_35 rfl ?_
        rw [e1]
        refine v_iconst (n := 39) (v := 1) dX10_ask_38 c_1 rfl ?_
        refine v_icmp_ne (n := 42) (tgt := 53) dX10_ask_39 (by decide) rfl (fun hq39 => ?_) (fun hq39 => ?_)
        · refine v_ldc (n := 55) k_X10_139 dX10_ask_53 rfl ?_
          exact v_rI rfl (by rw [askM, if_pos hgt, hcs, if_neg hq28, if_neg (fun z => hq39 z.1)]) rfl rfl ⟨l8 rfl, l8 rfl⟩ dX10_ask_55
        · obtain ⟨f1, ⟨k, hk, f2⟩, f3⟩ := ea hq39
          refine v_aload_n (n := 43) dX10_ask_42 rfl rfl rfl ?_
          refine v_getI (n := 46) f_X10_313 rfl (L.sl hs).2.s dX10_ask_43 rfl ?_
          rw [f1, f2]
          refine v_iload_n (n := 47) dX10_ask_46 rfl rfl rfl ?_
          refine v_cSi (n := 50) (x := (bi (under (nI k) (nI q)))) mc_X1_isOf l_X10_135 sta_X1_isOf (k_X1_isOf hk hq) ⟨rfl, rfl⟩ (l8 rfl) ⟨l8 rfl, l8 rfl⟩ rfl rfl (l8 rfl) dX10_ask_47 rfl ?_
          refine v_if_ne (n := 53) (tgt := 56) dX10_ask_50 (by decide) rfl (fun hq50 => ?_) (fun hq50 => ?_)
          · refine v_aload_n (n := 57) dX10_ask_56 rfl rfl rfl ?_
            refine v_getI (n := 60) f_X10_313 rfl (L.sl hs).2.s dX10_ask_57 rfl ?_
            refine v_aload_n (n := 61) dX10_ask_60 rfl rfl rfl ?_
            refine v_getI (n := 64) f_X10_316 rfl (L.sl hs).2.s dX10_ask_61 rfl ?_
            refine v_aload_n (n := 65) dX10_ask_64 rfl rfl rfl ?_
            refine v_getI (n := 68) f_X10_318 rfl (L.sl hs).2.s dX10_ask_65 rfl ?_
            refine v_cSi (n := 71) (x := (kWorth (I (x + 96 + 3 * s) 2) (I (x + 96 + 3 * s) 3) (I (x + 96 + 3 * s) 4))) mc_X1_worth l_X10_123 sta_X1_worth k_X1_worth ⟨rfl, rfl⟩ (l8 rfl) ⟨l8 rfl, l8 rfl⟩ rfl rfl (l8 rfl) dX10_ask_68 rfl ?_
            exact v_rI rfl (by rw [askM, if_pos hgt, hcs, if_neg hq28, if_pos ⟨hq39, by rw [f2]; exact bi_n0.mp hq50⟩, worth_eq]; exact f3) rfl rfl ⟨l8 rfl, l8 rfl⟩ dX10_ask_71
          · refine v_ldc (n := 55) k_X10_139 dX10_ask_53 rfl ?_
            exact v_rI rfl (by rw [askM, if_pos hgt, hcs, if_neg hq28, if_neg (fun z => by rw [f2, bi_0.mp hq50] at z; cases z.2)]) rfl rfl ⟨l8 rfl, l8 rfl⟩ dX10_ask_55
      · refine v_ldc (n := 33) k_X10_226 dX10_ask_31 rfl ?_
        exact v_rI rfl (by rw [askM, if_pos hgt, hcs, if_pos hq28]) rfl rfl ⟨l8 rfl, l8 rfl⟩ dX10_ask_33
    · refine v_ldc (n := 16) k_X10_84 dX10_ask_14 rfl ?_
      exact v_rI rfl (by rw [askM, if_neg (by rw [bi_0.mp hq11, Bool.and_false]; decide)]) rfl rfl ⟨l8 rfl, l8 rfl⟩ dX10_ask_16

set_option maxRecDepth 100000 in
set_option maxHeartbeats 1000000 in
theorem c_X10_item {ro : Ro} {S : St} {I : In} {xa xb : Int32} {x m : Nat} {J : In} (L : LayX S x) (hSl : SlR I J x m) (hM : MW J m) : Ok mX10_item ro 1 0 0 [.ref x, .int xa, .int xb] S I (RI (itemM J m xa xb) S I) := by
  refine ok_of (al := [.ref x, .int xa, .int xb, JJ, JJ]) (by decide) (l8 rfl) rfl ?_
  refine v_iload_n (n := 1) dX10_item_0 rfl rfl rfl ?_
  refine v_cSi (n := 4) (x := (bi (inn xa 0 4))) mc_X10_isSlot l_X10_294 sta_X10_isSlot k_sl ⟨rfl, rfl⟩ (l8 rfl) ⟨l8 rfl, l8 rfl⟩ rfl rfl (l8 rfl) dX10_item_1 rfl ?_
  refine v_if_ne (n := 7) (tgt := 10) dX10_item_4 (by decide) rfl (fun hq4 => ?_) (fun hq4 => ?_)
  · have his := bi_n0.mp hq4
    obtain ⟨s, hs4, rfl⟩ := inn_get (a := 4) his (by decide)
    have hs : s < 5 := by omega
    have hcs : (nI s).toNatClampNeg = s := nI_clamp (by omega)
    obtain ⟨e1, ea, eb, ec⟩ := hSl s hs
    obtain ⟨m1, m2⟩ := hM.2.1 s hs
    refine v_aload_n (n := 11) dX10_item_10 rfl rfl rfl ?_
    refine v_getR (n := 14) f_X10_58 rfl L.s L.g8 dX10_item_11 rfl ?_
    refine v_iload_n (n := 15) dX10_item_14 rfl rfl rfl ?_
    refine v_aald (n := 16) (t := 6) (j := s) ⟨by decide, by decide⟩ L.c8 (ix_nI hs (by decide)) (L.sl hs).1 dX10_item_15 rfl ?_
    refine v_astore_n (n := 17) (al' := [.ref x, .int (nI s), .int xb, .ref ((x + 96 + 3 * s)), JJ]) dX10_item_16 rfl rfl rfl rfl ?_
    refine v_aload_n (n := 18) dX10_item_17 rfl rfl rfl ?_
    refine v_getI (n := 21) f_X10_297 rfl (L.sl hs).2.s dX10_item_18 rfl ?_
    rw [e1]
    refine v_if_ne (n := 24) (tgt := 27) dX10_item_21 (by decide) rfl (fun hq21 => ?_) (fun hq21 => ?_)
    · refine v_aload_n (n := 28) dX10_item_27 rfl rfl rfl ?_
      refine v_getI (n := 31) f_X10_297 rfl (L.sl hs).2.s dX10_item_28 rfl ?_
      rw [e1]
      refine v_iconst (n := 32) (v := 2) dX10_item_31 c_2 rfl ?_
      refine v_icmp_eq (n := 35) (tgt := 38) dX10_item_32 (by decide) rfl (fun hq32 => ?_) (fun hq32 => ?_)
      · obtain ⟨f1, f2⟩ := eb hq32
        obtain ⟨z, hz24, f3⟩ := m2 hq32
        refine v_aload_n (n := 39) dX10_item_38 rfl rfl rfl ?_
        refine v_getR (n := 42) f_X10_304 rfl (L.sl hs).2.s (L.sl hs).2.g0 dX10_item_39 rfl ?_
        refine v_iload_n (n := 43) dX10_item_42 rfl rfl rfl ?_
        refine v_cVi (n := 46) (x := (bi (rHas (I (x + 96 + 3 * s + 1) 2) xb))) mc_X6_has l_X10_272 iv_X6_has se_X6_has (ci := 5) ⟨by decide, rfl⟩ (L.sl hs).2.c0.s (k_X6_has (L.sl hs).2.c0) ⟨rfl, rfl⟩ (l8 rfl) ⟨l8 rfl, l8 rfl⟩ rfl rfl (l8 rfl) dX10_item_43 rfl ?_
        rw [f1, has_inn f3 (by omega)]
        refine v_if_ne (n := 49) (tgt := 53) dX10_item_46 (by decide) rfl (fun hq46 => ?_) (fun hq46 => ?_)
        · have hip := bi_n0.mp hq46
          obtain ⟨p, hp, rfl⟩ := sz_get hip f3 (by omega)
          have hcp : (nI p).toNatClampNeg = p := nI_clamp (by omega)
          refine v_aload_n (n := 54) dX10_item_53 rfl rfl rfl ?_
          refine v_getR (n := 57) f_X10_304 rfl (L.sl hs).2.s (L.sl hs).2.g0 dX10_item_54 rfl ?_
          refine v_getR (n := 60) f_X10_274 rfl (L.sl hs).2.c0.s (L.sl hs).2.c0.g0 dX10_item_57 rfl ?_
          refine v_iload_n (n := 61) dX10_item_60 rfl rfl rfl ?_
          refine v_iald (n := 62) (j := p) (L.sl hs).2.c0.c0 (ix_nI (by omega) (by decide)) dX10_item_61 rfl ?_
          rw [f2 p (by omega)]
          refine v_istore (n := 64) (al' := [.ref x, .int (nI s), .int (nI p), .ref ((x + 96 + 3 * s)), .int (J (m + 20) (24 * s + p))]) dX10_item_62 rfl rfl rfl ?_
          refine v_iload (n := 66) dX10_item_64 rfl rfl ?_
          refine v_ldc (n := 68) k_X10_193 dX10_item_66 rfl ?_
          refine v_icmp_ne (n := 71) (tgt := 76) dX10_item_68 (by decide) rfl (fun hq68 => ?_) (fun hq68 => ?_)
          · refine v_iload (n := 78) dX10_item_76 rfl rfl ?_
            exact v_rI rfl (by rw [itemM, if_pos his, hcs, if_neg hq21, if_pos hq32, if_pos hip, hcp, if_neg hq68]) rfl rfl ⟨l8 rfl, l8 rfl⟩ dX10_item_78
          · refine v_ldc (n := 73) k_X10_139 dX10_item_71 rfl ?_
            refine v_goto (tgt := 78) dX10_item_73 (by decide) ?_
            exact v_rI rfl (by rw [itemM, if_pos his, hcs, if_neg hq21, if_pos hq32, if_pos hip, hcp, if_pos hq68]) rfl rfl ⟨l8 rfl, l8 rfl⟩ dX10_item_78
        · refine v_ldcw (n := 52) k_X10_273 dX10_item_49 rfl ?_
          exact v_rI rfl (by rw [itemM, if_pos his, hcs, if_neg hq21, if_pos hq32, if_neg (by rw [bi_0.mp hq46]; decide)]) rfl rfl ⟨l8 rfl, l8 rfl⟩ dX10_item_52
      · refine v_ldc (n := 37) k_X10_139 dX10_item_35 rfl ?_
        exact v_rI rfl (by rw [itemM, if_pos his, hcs, if_neg hq21, if_neg hq32]) rfl rfl ⟨l8 rfl, l8 rfl⟩ dX10_item_37
    · refine v_ldc (n := 26) k_X10_226 dX10_item_24 rfl ?_
      exact v_rI rfl (by rw [itemM, if_pos his, hcs, if_pos hq21]) rfl rfl ⟨l8 rfl, l8 rfl⟩ dX10_item_26
  · refine v_ldc (n := 9) k_X10_84 dX10_item_7 rfl ?_
    exact v_rI rfl (by rw [itemM, if_neg (by rw [bi_0.mp hq4]; decide)]) rfl rfl ⟨l8 rfl, l8 rfl⟩ dX10_item_9

set_option maxRecDepth 100000 in
set_option maxHeartbeats 1000000 in
theorem c_X10_rest {ro : Ro} {S : St} {I : In} {xa xb : Int32} {x m : Nat} {J : In} (L : LayX S x) (hSl : SlR I J x m) (hM : MW J m) : Ok mX10_rest ro 1 0 0 [.ref x, .int xa, .int xb] S I (RI (restM J m xa xb) S I) := by
  refine ok_of (al := [.ref x, .int xa, .int xb, JJ]) (by decide) (l8 rfl) rfl ?_
  refine v_iload_n (n := 1) dX10_rest_0 rfl rfl rfl ?_
  refine v_cSi (n := 4) (x := (bi (inn xa 0 4))) mc_X10_isSlot l_X10_294 sta_X10_isSlot k_sl ⟨rfl, rfl⟩ (l8 rfl) ⟨l8 rfl, l8 rfl⟩ rfl rfl (l8 rfl) dX10_rest_1 rfl ?_
  refine v_if_ne (n := 7) (tgt := 10) dX10_rest_4 (by decide) rfl (fun hq4 => ?_) (fun hq4 => ?_)
  · have his := bi_n0.mp hq4
    obtain ⟨s, hs4, rfl⟩ := inn_get (a := 4) his (by decide)
    have hs : s < 5 := by omega
    have hcs : (nI s).toNatClampNeg = s := nI_clamp (by omega)
    obtain ⟨e1, ea, eb, ec⟩ := hSl s hs
    obtain ⟨m1, m2⟩ := hM.2.1 s hs
    refine v_aload_n (n := 11) dX10_rest_10 rfl rfl rfl ?_
    refine v_getR (n := 14) f_X10_58 rfl L.s L.g8 dX10_rest_11 rfl ?_
    refine v_iload_n (n := 15) dX10_rest_14 rfl rfl rfl ?_
    refine v_aald (n := 16) (t := 6) (j := s) ⟨by decide, by decide⟩ L.c8 (ix_nI hs (by decide)) (L.sl hs).1 dX10_rest_15 rfl ?_
    refine v_astore_n (n := 17) (al' := [.ref x, .int (nI s), .int xb, .ref ((x + 96 + 3 * s))]) dX10_rest_16 rfl rfl rfl rfl ?_
    refine v_aload_n (n := 18) dX10_rest_17 rfl rfl rfl ?_
    refine v_getI (n := 21) f_X10_297 rfl (L.sl hs).2.s dX10_rest_18 rfl ?_
    rw [e1]
    refine v_if_ne (n := 24) (tgt := 27) dX10_rest_21 (by decide) rfl (fun hq21 => ?_) (fun hq21 => ?_)
    · refine v_aload_n (n := 28) dX10_rest_27 rfl rfl rfl ?_
      refine v_getI (n := 31) f_X10_297 rfl (L.sl hs).2.s dX10_rest_28 rfl ?_
      rw [e1]
      refine v_iconst (n := 32) (v := 3) dX10_rest_31 c_3 rfl ?_
      refine v_icmp_eq (n := 35) (tgt := 38) dX10_rest_32 (by decide) rfl (fun hq32 => ?_) (fun hq32 => ?_)
      · refine v_iload_n (n := 39) dX10_rest_38 rfl rfl rfl ?_
        refine v_if_ne (n := 42) (tgt := 47) dX10_rest_39 (by decide) rfl (fun hq39 => ?_) (fun hq39 => ?_)
        · refine v_aload_n (n := 48) dX10_rest_47 rfl rfl rfl ?_
          refine v_getI (n := 51) f_X10_312 rfl (L.sl hs).2.s dX10_rest_48 rfl ?_
          rw [ec hq32]
          refine v_iload_n (n := 52) dX10_rest_51 rfl rfl rfl ?_
          refine v_irem (n := 53) dX10_rest_52 hq39 rfl ?_
          exact v_rI rfl (by rw [restM, if_pos his, hcs, if_neg hq21, if_pos hq32, if_neg hq39]; split; (rename_i e; rw [e, mod_m1]); rfl) rfl rfl ⟨l8 rfl, l8 rfl⟩ dX10_rest_53
        · refine v_ldc (n := 44) k_X10_189 dX10_rest_42 rfl ?_
          refine v_goto (tgt := 53) dX10_rest_44 (by decide) ?_
          exact v_rI rfl (by rw [restM, if_pos his, hcs, if_neg hq21, if_pos hq32, if_pos hq39]) rfl rfl ⟨l8 rfl, l8 rfl⟩ dX10_rest_53
      · refine v_ldc (n := 37) k_X10_139 dX10_rest_35 rfl ?_
        exact v_rI rfl (by rw [restM, if_pos his, hcs, if_neg hq21, if_neg hq32]) rfl rfl ⟨l8 rfl, l8 rfl⟩ dX10_rest_37
    · refine v_ldc (n := 26) k_X10_226 dX10_rest_24 rfl ?_
      exact v_rI rfl (by rw [restM, if_pos his, hcs, if_pos hq21]) rfl rfl ⟨l8 rfl, l8 rfl⟩ dX10_rest_26
  · refine v_ldc (n := 9) k_X10_84 dX10_rest_7 rfl ?_
    exact v_rI rfl (by rw [restM, if_neg (by rw [bi_0.mp hq4]; decide)]) rfl rfl ⟨l8 rfl, l8 rfl⟩ dX10_rest_9

