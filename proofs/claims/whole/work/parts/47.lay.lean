/-! ===== the calls of the class: lay ===== -/
def slP (x a : Nat) : Prop := x + 96 ≤ a ∧ a < x + 111
def QL (S : St) (I : In) (x m : Nat) (F : Int32 × In) : Option Value → St → In → Prop := fun r S' I' => r = some (.int F.1) ∧ S' = S ∧ SlR I' F.2 x m ∧ Eqx (slP x) I I'
theorem v_ql {own : String} {cc : ByteArray} {nL : Nat} {ret : Option FieldType} {nm : String} {ro : Ro} {R : Room} {cells slots pc mc ms : Nat} {al : List Value} {S : St} {I I1 J1 : In} {x m : Nat} {F : Int32 × In} {y : Int32} (hr : ret = some .int) (hF : F = (y, J1)) (hV : SlR I1 J1 x m) (hE : Eqx (slP x) I I1) (hc : cells ≤ mc ∧ slots ≤ ms) (hd : decode cc pc = .ok (.ireturn, 1)) : V own cc nL ret nm ro R (QM mc ms (QL S I x m F)) cells slots pc al [.int y] S I1 := by
  subst hF
  exact v_iret hr ⟨rfl, rfl, hV, hE⟩ hc hd
theorem lay_o {J : In} {m s t : Nat} {b c : Int32} (hct : (nI s).toNatClampNeg = s) (h : t ≠ s) : layI J m (nI s) b c (m + 17) t = J (m + 17) t ∧ layI J m (nI s) b c (m + 18) t = J (m + 18) t ∧ layI J m (nI s) b c (m + 19) t = J (m + 19) t := by
  unfold layI
  rw [hct]
  exact ⟨by rw [sI_o (by omega), sI_o (by omega), sI_k h], by rw [sI_o (by omega), sI_k h, sI_o (by omega)], by rw [sI_k h, sI_o (by omega), sI_o (by omega)]⟩
theorem lay_s {J : In} {m s : Nat} {b c : Int32} (hct : (nI s).toNatClampNeg = s) : layI J m (nI s) b c (m + 17) s = b ∧ layI J m (nI s) b c (m + 18) s = layA J m b c ∧ layI J m (nI s) b c (m + 19) s = layB J m b c := by
  unfold layI
  rw [hct]
  exact ⟨by rw [sI_o (by omega), sI_o (by omega), sI_s], by rw [sI_o (by omega), sI_s], by rw [sI_s]⟩
theorem lay_20 {J : In} {m s : Nat} {b c : Int32} : layI J m (nI s) b c (m + 20) = J (m + 20) := by
  unfold layI
  rw [setI_ne (by omega), setI_ne (by omega), setI_ne (by omega)]
/-- one slot is set otherwise -/
theorem sl_set {I I1 J J1 : In} {x m s : Nat} (h : SlR I J x m) (hE : ∀ a, a ≠ x + 96 + 3 * s → a ≠ x + 96 + 3 * s + 1 → a ≠ x + 96 + 3 * s + 2 → I1 a = I a) (hJ : ∀ t, t ≠ s → J1 (m + 17) t = J (m + 17) t ∧ J1 (m + 18) t = J (m + 18) t ∧ J1 (m + 19) t = J (m + 19) t ∧ ∀ j, j < 24 → J1 (m + 20) (24 * t + j) = J (m + 20) (24 * t + j))
    (hs : I1 (x + 96 + 3 * s) 1 = J1 (m + 17) s ∧ (J1 (m + 17) s = 1 → I1 (x + 96 + 3 * s) 2 = J1 (m + 18) s ∧ (∃ k, k < 6 ∧ J1 (m + 18) s = nI k) ∧ kWorthM (I1 (x + 96 + 3 * s) 2) (I1 (x + 96 + 3 * s) 3) (I1 (x + 96 + 3 * s) 4) = J1 (m + 19) s) ∧ (J1 (m + 17) s = 2 → I1 (x + 96 + 3 * s + 1) 2 = J1 (m + 18) s ∧ ∀ j, j < 24 → I1 (x + 96 + 3 * s + 1 + 1) j = J1 (m + 20) (24 * s + j)) ∧ (J1 (m + 17) s = 3 → I1 (x + 96 + 3 * s) 5 = J1 (m + 18) s)) : SlR I1 J1 x m := by
  intro t ht
  by_cases c : t = s
  · subst c; exact hs
  · obtain ⟨j1, j2, j3, j4⟩ := hJ t c
    rw [j1, j2, j3, hE (x + 96 + 3 * t) (by omega) (by omega) (by omega), hE (x + 96 + 3 * t + 1) (by omega) (by omega) (by omega), hE (x + 96 + 3 * t + 1 + 1) (by omega) (by omega) (by omega)]
    obtain ⟨a1, a2, a3, a4⟩ := h t ht
    exact ⟨a1, a2, fun z => ⟨(a3 z).1, fun j hj => by rw [j4 j hj]; exact (a3 z).2 j hj⟩, a4⟩
theorem lay_1 {J : In} {m s : Nat} {c : Int32} (hi : inn (nI s) 0 4 = true) (hcs : (nI s).toNatClampNeg = s) (hy : yd (J (m + 1)) c = true) : layM J m (nI s) 1 c = (J (m + 17) s, layI J m (nI s) 1 c) := by
  rw [layM, if_pos (by rw [hi]; decide), if_neg (fun z => by rw [hy] at z; cases z.2), if_neg (fun z => absurd z.1 (by decide)), if_neg (fun z => absurd z.1 (by decide)), if_neg (by decide), hcs]
theorem lay_2 {J : In} {m s t : Nat} (hi : inn (nI s) 0 4 = true) (hcs : (nI s).toNatClampNeg = s) (ht : inn (nI t) 0 3 = true) (hct : (nI t).toNatClampNeg = t) (h0 : 0 ≤ J (m + 14) t) : layM J m (nI s) 2 (nI t) = (J (m + 17) s, uO (layI J m (nI s) 2 (nI t)) (m + 20) (24 * s) (fun i => J (m + 16) (24 * t + i)) 24) := by
  rw [layM, if_pos (by rw [hi]; decide), if_neg (fun z => absurd z.1 (by decide)), if_neg (fun z => by rw [ht] at z; cases z.2), hct, if_neg (fun z => z.2 h0), if_pos rfl, hcs]
theorem lay_3 {J : In} {m s : Nat} {b c : Int32} (hi : inn (nI s) 0 4 = true) (hib : inn b 0 3 = true) (hcs : (nI s).toNatClampNeg = s) (h1 : ¬ b = 1) (h2 : ¬ b = 2) : layM J m (nI s) b c = (J (m + 17) s, layI J m (nI s) b c) := by
  rw [layM, if_pos (by rw [hi, hib]; rfl), if_neg (fun z => h1 z.1), if_neg (fun z => h2 z.1), if_neg (fun z => h2 z.1), if_neg h2, hcs]

set_option maxRecDepth 100000 in
set_option maxHeartbeats 1000000 in
theorem c_X10_lay {ro : Ro} {S : St} {I : In} {xa xb xc : Int32} {x B T b : Nat} {X : Ar} {lw : Nat → Nat} (L : LayX S x) (h : VN S I (x + 1) B X T lw) (hW : WN X T b) (hB : x + 134 ≤ B) {J : In} {m : Nat} (hX : J (m + 1) = X) (hSh : ShR I J x m) (hSl : SlR I J x m) (hM : MW J m) : Ok mX10_lay ro 2 0 0 [.ref x, .int xa, .int xb, .int xc] S I (QL S I x m (layM J m xa xb xc)) := by
  refine ok_of (al := [.ref x, .int xa, .int xb, .int xc, JJ, JJ]) (by decide) (l8 rfl) rfl ?_
  refine v_iload_n (n := 1) dX10_lay_0 rfl rfl rfl ?_
  refine v_cSi (n := 4) (x := (bi (inn xa 0 4))) mc_X10_isSlot l_X10_294 sta_X10_isSlot k_sl ⟨rfl, rfl⟩ (l8 rfl) ⟨l8 rfl, l8 rfl⟩ rfl rfl (l8 rfl) dX10_lay_1 rfl ?_
  refine v_if_eq (n := 7) (tgt := 16) dX10_lay_4 (by decide) rfl (fun hq4 => ?_) (fun hq4 => ?_)
  · refine v_ldc (n := 18) k_X10_84 dX10_lay_16 rfl ?_
    exact v_ql rfl (by rw [layM, if_neg (by rw [bi_0.mp hq4, Bool.false_and]; decide)]) hSl Eqx.rf ⟨l8 rfl, l8 rfl⟩ dX10_lay_18
  · refine v_iload_n (n := 8) dX10_lay_7 rfl rfl rfl ?_
    refine v_if_lt (n := 11) (tgt := 16) dX10_lay_8 (by decide) rfl (fun hq8 => ?_) (fun hq8 => ?_)
    · refine v_ldc (n := 18) k_X10_84 dX10_lay_16 rfl ?_
      exact v_ql rfl (by rw [layM, if_neg (by rw [inn_no1 hq8, Bool.and_false]; decide)]) hSl Eqx.rf ⟨l8 rfl, l8 rfl⟩ dX10_lay_18
    · refine v_iload_n (n := 12) dX10_lay_11 rfl rfl rfl ?_
      refine v_iconst (n := 13) (v := 3) dX10_lay_12 c_3 rfl ?_
      refine v_icmp_le (n := 16) (tgt := 19) dX10_lay_13 (by decide) rfl (fun hq13 => ?_) (fun hq13 => ?_)
      · have his := bi_n0.mp hq4
        obtain ⟨s, hs4, rfl⟩ := inn_get (a := 4) his (by decide)
        have hs : s < 5 := by omega
        have hcs : (nI s).toNatClampNeg = s := nI_clamp (by omega)
        obtain ⟨e1, ea, eb, ec⟩ := hSl s hs
        obtain ⟨m1, m2⟩ := hM.2.1 s hs
        have hib := inn_of hq8 hq13
        have hgt : (inn (nI s) 0 4 && inn xb 0 3) = true := by rw [his, hib]; rfl
        refine v_aload_n (n := 20) dX10_lay_19 rfl rfl rfl ?_
        refine v_getR (n := 23) f_X10_58 rfl L.s L.g8 dX10_lay_20 rfl ?_
        refine v_iload_n (n := 24) dX10_lay_23 rfl rfl rfl ?_
        refine v_aald (n := 25) (t := 6) (j := s) ⟨by decide, by decide⟩ L.c8 (ix_nI hs (by decide)) (L.sl hs).1 dX10_lay_24 rfl ?_
        refine v_astore (n := 27) (al' := [.ref x, .int (nI s), .int xb, .int xc, .ref ((x + 96 + 3 * s)), JJ]) dX10_lay_25 rfl rfl rfl ?_
        refine v_aload (n := 29) dX10_lay_27 rfl rfl ?_
        refine v_getI (n := 32) f_X10_297 rfl (L.sl hs).2.s dX10_lay_29 rfl ?_
        rw [e1]
        refine v_istore (n := 34) (al' := [.ref x, .int (nI s), .int xb, .int xc, .ref ((x + 96 + 3 * s)), .int (J (m + 17) s)]) dX10_lay_32 rfl rfl rfl ?_
        refine v_iload_n (n := 35) dX10_lay_34 rfl rfl rfl ?_
        refine v_iconst (n := 36) (v := 1) dX10_lay_35 c_1 rfl ?_
        refine v_icmp_ne (n := 39) (tgt := 72) dX10_lay_36 (by decide) rfl (fun hq36 => ?_) (fun hq36 => ?_)
        · refine v_iload_n (n := 73) dX10_lay_72 rfl rfl rfl ?_
          refine v_iconst (n := 74) (v := 2) dX10_lay_73 c_2 rfl ?_
          refine v_icmp_ne (n := 77) (tgt := 120) dX10_lay_74 (by decide) rfl (fun hq74 => ?_) (fun hq74 => ?_)
          · refine v_aload (n := 122) dX10_lay_120 rfl rfl ?_
            refine v_iload_n (n := 123) dX10_lay_122 rfl rfl rfl ?_
            refine v_putI (n := 126) f_X10_312 rfl (Or.inl rfl) (L.sl hs).2.s dX10_lay_123 rfl ?_
            refine v_aload (n := 128) dX10_lay_126 rfl rfl ?_
            refine v_iload_n (n := 129) dX10_lay_128 rfl rfl rfl ?_
            refine v_putI (n := 132) f_X10_297 rfl (Or.inl rfl) (L.sl hs).2.s dX10_lay_129 rfl ?_
            refine v_iload (n := 134) dX10_lay_132 rfl rfl ?_
            obtain ⟨p1, p2, p3⟩ := lay_s (J := J) (m := m) (b := xb) (c := xc) hcs
            refine v_ql rfl (lay_3 his hib hcs hq36 hq74) ?_ ?_ ⟨l8 rfl, l8 rfl⟩ dX10_lay_134
            · refine sl_set hSl (fun a h1 h2 h3 => by rw [setI_ne h1, setI_ne h1]) (fun t h => ?_) ⟨by rw [sI_s, p1], fun z => ?_, fun z => ?_, fun z => ?_⟩
              · obtain ⟨q1, q2, q3⟩ := lay_o (J := J) (m := m) (b := xb) (c := xc) hcs h; exact ⟨q1, q2, q3, fun j _ => by rw [lay_20]⟩
              · rw [p1] at z; exact absurd z hq36
              · rw [p1] at z; exact absurd z hq74
              · rw [p2, layA, if_neg hq36, if_neg hq74, sI_k (by decide), sI_s]
            · intro a ha; unfold slP at ha; rw [setI_ne (by omega), setI_ne (by omega)]
          · refine v_iload_n (n := 78) dX10_lay_77 rfl rfl rfl ?_
            refine v_cSi (n := 81) (x := (bi (inn xc 0 3))) mc_X10_isSheet l_X10_220 sta_X10_isSheet k_sh ⟨rfl, rfl⟩ (l8 rfl) ⟨l8 rfl, l8 rfl⟩ rfl rfl (l8 rfl) dX10_lay_78 rfl ?_
            refine v_if_ne (n := 84) (tgt := 87) dX10_lay_81 (by decide) rfl (fun hq81 => ?_) (fun hq81 => ?_)
            · have hit := bi_n0.mp hq81
              obtain ⟨t, ht3, rfl⟩ := inn_get (a := 3) hit (by decide)
              have ht : t < 4 := by omega
              have hct : (nI t).toNatClampNeg = t := nI_clamp (by omega)
              obtain ⟨et1, et2, et3⟩ := hSh t ht
              obtain ⟨mt1, zt, hzt, mt2⟩ := hM.1 t ht
              refine v_aload_n (n := 88) dX10_lay_87 rfl rfl rfl ?_
              refine v_getR (n := 91) f_X10_52 rfl L.s L.g7 dX10_lay_88 rfl ?_
              refine v_iload_n (n := 92) dX10_lay_91 rfl rfl rfl ?_
              refine v_aald (n := 93) (t := 5) (j := t) ⟨by decide, by decide⟩ L.c7 (ix_nI ht (by decide)) (L.sh ht).1 dX10_lay_92 rfl ?_
              refine v_getI (n := 96) f_X10_223 rfl (L.sh ht).2.s dX10_lay_93 rfl ?_
              rw [et1]
              refine v_iconst (n := 97) (v := (-1)) dX10_lay_96 c_m1 rfl ?_
              refine v_icmp_ne (n := 100) (tgt := 103) dX10_lay_97 (by decide) rfl (fun hq97 => ?_) (fun hq97 => ?_)
              · have h0 : 0 ≤ J (m + 14) t := sort_0 mt1 hq97
                refine v_aload (n := 105) dX10_lay_103 rfl rfl ?_
                refine v_getR (n := 108) f_X10_304 rfl (L.sl hs).2.s (L.sl hs).2.g0 dX10_lay_105 rfl ?_
                refine v_aload_n (n := 109) dX10_lay_108 rfl rfl rfl ?_
                refine v_getR (n := 112) f_X10_52 rfl L.s L.g7 dX10_lay_109 rfl ?_
                refine v_iload_n (n := 113) dX10_lay_112 rfl rfl rfl ?_
                refine v_aald (n := 114) (t := 5) (j := t) ⟨by decide, by decide⟩ L.c7 (ix_nI ht (by decide)) (L.sh ht).1 dX10_lay_113 rfl ?_
                refine v_callV (n := 117) mc_X6_take l_X10_308 iv_X6_take se_X6_take (ci := 5) ⟨by decide, rfl⟩ (L.sl hs).2.c0.s (k_X6_take (a := x + 96 + 3 * s + 1) (c := x + 88 + 2 * t) (L.sl hs).2.c0 (L.sh ht).2 (by omega)) ⟨rfl, rfl⟩ (l8 rfl) ⟨l8 rfl, l8 rfl⟩ rfl rfl (l8 rfl) dX10_lay_114 rfl ?_
                rintro _ _ J2 ⟨rfl, hS9, hJ3, hJ4, hJ5, hJo⟩
                replace hS9 := hS9.symm
                subst hS9
                refine v_goto (tgt := 126) dX10_lay_117 (by decide) ?_
                refine v_aload (n := 128) dX10_lay_126 rfl rfl ?_
                refine v_iload_n (n := 129) dX10_lay_128 rfl rfl rfl ?_
                refine v_putI (n := 132) f_X10_297 rfl (Or.inl rfl) (L.sl hs).2.s dX10_lay_129 rfl ?_
                refine v_iload (n := 134) dX10_lay_132 rfl rfl ?_
                subst hq74
                obtain ⟨p1, p2, p3⟩ := lay_s (J := J) (m := m) (b := 2) (c := nI t) hcs
                refine v_ql rfl (lay_2 his hcs hit hct h0) ?_ ?_ ⟨l8 rfl, l8 rfl⟩ dX10_lay_134
                · refine sl_set hSl (fun a h1 h2 h3 => by rw [setI_ne h1, hJo a h2 h3]) (fun u h => ?_) ⟨by rw [sI_s, uO_ne (by omega), p1], fun z => ?_, fun z => ?_, fun z => ?_⟩
                  · obtain ⟨q1, q2, q3⟩ := lay_o (J := J) (m := m) (b := 2) (c := nI t) hcs h; rw [uO_ne (by omega), uO_ne (by omega), uO_ne (by omega)]; exact ⟨q1, q2, q3, fun j _ => by rw [uO_k (by omega), lay_20]⟩
                  · rw [uO_ne (by omega), p1] at z; exact absurd z (by decide)
                  · rw [uO_ne (by omega), p2, layA, if_neg (by decide), if_pos rfl, hct, sI_o (by omega), hJ4, et2]; exact ⟨rfl, fun j hj => by rw [sI_o (by omega), hJ5 j hj, et3 j hj, uO_in hj]⟩
                  · rw [uO_ne (by omega), p1] at z; exact absurd z (by decide)
                · intro a ha; unfold slP at ha; rw [setI_ne (by omega), hJo a (by omega) (by omega)]
              · refine v_ldc (n := 102) k_X10_226 dX10_lay_100 rfl ?_
                exact v_ql rfl (by rw [layM, if_pos hgt, if_neg (fun z => hq36 z.1), if_neg (fun z => by rw [hit] at z; cases z.2), hct, if_pos ⟨hq74, by rw [hq97]; decide⟩]) hSl Eqx.rf ⟨l8 rfl, l8 rfl⟩ dX10_lay_102
            · refine v_ldc (n := 86) k_X10_84 dX10_lay_84 rfl ?_
              exact v_ql rfl (by rw [layM, if_pos hgt, if_neg (fun z => hq36 z.1), if_pos ⟨hq74, bi_0.mp hq81⟩]) hSl Eqx.rf ⟨l8 rfl, l8 rfl⟩ dX10_lay_86
        · refine v_aload_n (n := 40) dX10_lay_39 rfl rfl rfl ?_
          refine v_getR (n := 43) f_X10_10 rfl L.s L.g0 dX10_lay_40 rfl ?_
          refine v_getR (n := 46) f_X10_85 rfl L.c0.s L.c0.g0 dX10_lay_43 rfl ?_
          refine v_iload_n (n := 47) dX10_lay_46 rfl rfl rfl ?_
          refine v_cVi (n := 50) (x := (bi (yd X xc))) mc_X5_has l_X10_99 iv_X5_has se_X5_has (ci := 4) ⟨by decide, rfl⟩ L.c0.c0.s (k_yd L.c0.c0 h.1 hW.1 hW.2.1) ⟨rfl, rfl⟩ (l8 rfl) ⟨l8 rfl, l8 rfl⟩ rfl rfl (l8 rfl) dX10_lay_47 rfl ?_
          refine v_if_ne (n := 53) (tgt := 56) dX10_lay_50 (by decide) rfl (fun hq50 => ?_) (fun hq50 => ?_)
          · have hyd := bi_n0.mp hq50
            obtain ⟨y, hy, rfl⟩ := yd_get (bi_n0.mp hq50) hW.1 hW.2.1
            have hy10 : y < 10 := by have := hW.2.1; omega
            have hcy : (nI y).toNatClampNeg = y := nI_clamp (by omega)
            have ey := h.1.2 y hy
            refine v_aload (n := 58) dX10_lay_56 rfl rfl ?_
            refine v_aload_n (n := 59) dX10_lay_58 rfl rfl rfl ?_
            refine v_getR (n := 62) f_X10_10 rfl L.s L.g0 dX10_lay_59 rfl ?_
            refine v_getR (n := 65) f_X10_85 rfl L.c0.s L.c0.g0 dX10_lay_62 rfl ?_
            refine v_iload_n (n := 66) dX10_lay_65 rfl rfl rfl ?_
            refine v_callV (n := 69) mc_X7_takeYard l_X10_300 iv_X7_takeYard se_X7_takeYard (ci := 6) ⟨by decide, rfl⟩ (L.sl hs).2.s (k_X7_takeYard (a := x + 96 + 3 * s) (r := x + 1 + 1) (n := yn X) (L.sl hs).2 L.c0.c0 h.1.1 hW.2.1 hy (by omega)) ⟨rfl, rfl⟩ (l8 rfl) ⟨l8 rfl, l8 rfl⟩ rfl rfl (l8 rfl) dX10_lay_66 rfl ?_
            rintro _ _ J1 ⟨rfl, hS9, hJ2, hJ3, hJ4, hJk, hJo⟩
            replace hS9 := hS9.symm
            subst hS9
            refine v_goto (tgt := 126) dX10_lay_69 (by decide) ?_
            refine v_aload (n := 128) dX10_lay_126 rfl rfl ?_
            refine v_iload_n (n := 129) dX10_lay_128 rfl rfl rfl ?_
            refine v_putI (n := 132) f_X10_297 rfl (Or.inl rfl) (L.sl hs).2.s dX10_lay_129 rfl ?_
            refine v_iload (n := 134) dX10_lay_132 rfl rfl ?_
            subst hq36
            obtain ⟨p1, p2, p3⟩ := lay_s (J := J) (m := m) (b := 1) (c := nI y) hcs
            refine v_ql rfl (lay_1 his hcs (by rw [hX]; exact hyd)) ?_ ?_ ⟨l8 rfl, l8 rfl⟩ dX10_lay_134
            · refine sl_set hSl (fun a h1 h2 h3 => by rw [setI_ne h1, hJo a h1]) (fun t h => ?_) ⟨by rw [sI_s, p1], fun _ => ?_, fun z => ?_, fun z => ?_⟩
              · obtain ⟨q1, q2, q3⟩ := lay_o (J := J) (m := m) (b := 1) (c := nI y) hcs h; exact ⟨q1, q2, q3, fun j _ => by rw [lay_20]⟩
              · rw [p2, p3, layA, if_pos rfl, layB, if_pos rfl, hX, hcy, sI_k (by decide), sI_k (by decide), sI_k (by decide), hJ2, hJ3, hJ4, ey.1, ey.2.1, ey.2.2.1]; exact ⟨rfl, (hW.2.2.2.2.2.2.2.2.2 y hy).1, rfl⟩
              · rw [p1] at z; exact absurd z (by decide)
              · rw [p1] at z; exact absurd z (by decide)
            · intro a ha; unfold slP at ha; rw [setI_ne (by omega), hJo a (by omega)]
          · refine v_ldc (n := 55) k_X10_84 dX10_lay_53 rfl ?_
            exact v_ql rfl (by rw [layM, if_pos hgt, if_pos ⟨hq36, by rw [hX]; exact bi_0.mp hq50⟩]) hSl Eqx.rf ⟨l8 rfl, l8 rfl⟩ dX10_lay_55
      · refine v_ldc (n := 18) k_X10_84 dX10_lay_16 rfl ?_
        exact v_ql rfl (by rw [layM, if_neg (by rw [inn_no2 hq13, Bool.and_false]; decide)]) hSl Eqx.rf ⟨l8 rfl, l8 rfl⟩ dX10_lay_18

