/-! ===== warmed ===== -/
def offT (v w : Int32) : Int64 := if v = -1000000005 then 0 else if 0 ≤ v.toInt64 - w.toInt64 then v.toInt64 - w.toInt64 else -(v.toInt64 - w.toInt64)
def ofL (X : Ar) (T n : Nat) (ce : Ar) : Nat → Int64
  | 0 => 0
  | k + 1 => ofL X T n ce k + offT (ce k) (wS (itX X T n k) (ln (itX X T n k)))
def offW (X : Ar) (T n : Nat) (ce : Ar) (z w : Nat) : Int64 := ofL (upd X 3 (nI w)) T n ce z
def wmF (X : Ar) (T n : Nat) (ce : Ar) (z : Nat) : Nat → Int32 × Int64
  | 0 => (0, offW X T n ce z 0)
  | w + 1 => if offW X T n ce z (w + 1) < (wmF X T n ce z w).2 then (nI (w + 1), offW X T n ce z (w + 1)) else wmF X T n ce z w
def warmS (I : In) (m T n : Nat) (a b : Int32) : Int32 := if (inn a 0 3 && inn b 0 1) = true then (if 0 ≤ I (m + 14) a.toNatClampNeg then (if b = 0 then (wmF (I (m + 1)) T n (fun j => I (m + 16) (24 * a.toNatClampNeg + j)) (I (m + 15) a.toNatClampNeg).toNatClampNeg 20).1 else (wmF (I (m + 1)) T n (fun j => I (m + 16) (24 * a.toNatClampNeg + j)) (I (m + 15) a.toNatClampNeg).toNatClampNeg 20).2.toInt32) else -1000000011) else -1000000001
theorem WX.set3 {X : Ar} {T n l b w : Nat} (h : WX X T n l b) (hw : w ≤ 99) : WX (upd X 3 (nI w)) T n l b := by
  obtain ⟨a1, a2, a3, a4, a5, a6, ⟨p, a7, a8⟩, a9, ⟨f, b1, b2⟩, b3⟩ := h
  exact ⟨by rw [pk_un (by decide)]; exact a1, a2, by rw [pk_un (by decide)]; exact a3, a4, a5.cong (pk_un (by decide)) (fun j hj => pk_un (by omega)), a6.cong (fun i _ => pk_un (by omega)), ⟨p, by rw [pk_un (by decide)]; exact a7, a8⟩, ⟨w, hw, pk_us⟩, ⟨f, b1, by rw [pk_un (by decide)]; exact b2⟩, fun y hy => by rw [pk_un (by omega), pk_un (by omega)]; exact b3 y hy⟩
theorem off_back {I J : In} {m : Nat} (h1 : Eqx (scN m) I J) (h2 : ∀ j, 116 ≤ j → J (m + 1) j = I (m + 1) j) (h4 : ∀ j, j < 116 → I (m + 4) j = I (m + 1) j) : Eqx (scM m) I (uP J (m + 1) (J (m + 4)) 116) := by
  intro a ha
  have e4 : J (m + 4) = I (m + 4) := h1 (m + 4) (by unfold scN scM; omega)
  by_cases h : a = m + 1
  · subst h
    funext j
    by_cases hj : j < 116
    · rw [uP_in hj, e4, h4 j hj]
    · rw [uP_k (by omega)]; exact h2 j (by omega)
  · rw [uP_ne h, h1 a (fun q => q.elim h ha)]

set_option maxRecDepth 100000 in
set_option maxHeartbeats 1000000 in
theorem l_X11_offBy {ro : Ro} {S : St} {I : In} {m T n l b s z w : Nat} (L : LayM S m) (h : WX (I (m + 1)) T n l b) (hm : mvOk (I (m + 1))) (hb : b < 900000000) (hs : s < 4) (hz : I (m + 15) s = nI z) (hz24 : z ≤ 24) (hw : w ≤ 99) (h4 : ∀ j, j < 116 → I (m + 4) j = I (m + 1) j) : ∀ c k, k ≤ z → z < k + c → ∀ J, J (m + 1) = itX (upd (I (m + 1)) 3 (nI w)) T n k → Eqx (scN m) I J → V RX11 cX11_offBy 10 (some .long) "offBy" ro (rmD 6 0 0) (QM 0 0 (fun r S' I' => r = some (.long (offW (I (m + 1)) T n (fun j => I (m + 16) (24 * s + j)) z w)) ∧ S' = S ∧ Eqx (scM m) I I')) 0 0 12 [.ref m, .int (nI s), JJ, .long (ofL (upd (I (m + 1)) 3 (nI w)) T n (fun j => I (m + 16) (24 * s + j)) k), JJ, .int (nI k), JJ, JJ, JJ, JJ] [] S J := by
  intro c
  induction c with
  | zero => intro k hk hc; exact absurd hc (by omega)
  | succ c ih =>
    intro k hk hc J hX hE
    refine v_iload (n := 14) dX11_offBy_12 rfl rfl ?_
    refine v_aload_n (n := 15) dX11_offBy_14 rfl rfl rfl ?_
    refine v_getR (n := 18) f_X11_54 rfl L.s L.g25 dX11_offBy_15 rfl ?_
    refine v_iload_n (n := 19) dX11_offBy_18 rfl rfl rfl ?_
    refine v_iald (n := 20) (j := s) L.c25 (ix_nI (by omega) (by decide)) dX11_offBy_19 rfl ?_
    refine v_icmp_ge (n := 23) (tgt := 95) dX11_offBy_20 (by decide) rfl (fun hq20 => ?_) (fun hq20 => ?_)
    · rw [show J (m + 15) = I (m + 15) from hE (m + 15) (by unfold scN scM; omega), hz] at hq20
      obtain rfl : k = z := Nat.le_antisymm hk (le_out hq20 (by omega) (by omega))
      refine v_aload_n (n := 96) dX11_offBy_95 rfl rfl rfl ?_
      refine v_cVv (n := 99) mc_X11_putsBack l_X11_172 iv_X11_putsBack se_X11_putsBack (ci := 10) ⟨by decide, rfl⟩ L.s (k_X11_putsBack L) ⟨rfl, rfl⟩ (l8 rfl) ⟨l8 rfl, l8 rfl⟩ rfl rfl (l8 rfl) dX11_offBy_96 rfl ?_
      refine v_lload_n (n := 100) dX11_offBy_99 rfl rfl rfl ?_
      exact v_lret rfl ⟨rfl, rfl, off_back hE (fun j hj => by rw [hX, (it_WX (h.set3 hw) k (by omega)).2 j (by omega) (by omega) (by omega) (by omega) (by omega) (by omega), pk_un (by omega)]) h4⟩ ⟨l8 rfl, l8 rfl⟩ dX11_offBy_100
    · rw [show J (m + 15) = I (m + 15) from hE (m + 15) (by unfold scN scM; omega), hz] at hq20
      have hlt := nle_in hq20 (by omega) (by omega)
      obtain ⟨g1, g2⟩ := it_WX (h.set3 hw) k (by omega)
      have h5 : J (m + 1) 5 = I (m + 1) 5 := by rw [hX, it_5 (h.set3 hw) (by omega), pk_un (by decide)]
      refine v_aload_n (n := 24) dX11_offBy_23 rfl rfl rfl ?_
      refine v_getR (n := 27) f_X11_57 rfl L.s L.g26 dX11_offBy_24 rfl ?_
      refine v_bipush (n := 29) (v := 24) dX11_offBy_27 b_24 rfl ?_
      refine v_iload_n (n := 30) dX11_offBy_29 rfl rfl rfl ?_
      refine v_imul (n := 31) dX11_offBy_30 rfl ?_
      refine v_iload (n := 33) dX11_offBy_31 rfl rfl ?_
      refine v_iadd (n := 34) dX11_offBy_33 rfl ?_
      refine v_iald (n := 35) (j := 24 * s + k) L.c26 (ix_of (i_24 s k) (by omega) (by decide)) dX11_offBy_34 rfl ?_
      rw [show J (m + 16) = I (m + 16) from hE (m + 16) (by unfold scN scM; omega)]
      refine v_istore (n := 37) (al' := [.ref m, .int (nI s), JJ, .long (ofL (upd (I (m + 1)) 3 (nI w)) T n (fun j => I (m + 16) (24 * s + j)) k), JJ, .int (nI k), .int (I (m + 16) (24 * s + k)), JJ, JJ, JJ]) dX11_offBy_35 rfl rfl rfl ?_
      refine v_iload (n := 39) dX11_offBy_37 rfl rfl ?_
      refine v_i2l (n := 40) dX11_offBy_39 rfl ?_
      refine v_aload_n (n := 41) dX11_offBy_40 rfl rfl rfl ?_
      refine v_cVi (n := 44) (x := (wS (J (m + 1)) (ln (itX (upd (I (m + 1)) 3 (nI w)) T n k)))) mc_X11_weight l_X11_100 iv_X11_weight se_X11_weight (ci := 10) ⟨by decide, rfl⟩ L.s (k_X11_weight (l := ln (itX (upd (I (m + 1)) 3 (nI w)) T n k)) L (by rw [hX]; exact g1.2.2.1) g1.2.2.2.1) ⟨rfl, rfl⟩ (l8 rfl) ⟨l8 rfl, l8 rfl⟩ rfl rfl (l8 rfl) dX11_offBy_41 rfl ?_
      rw [hX]
      refine v_i2l (n := 45) dX11_offBy_44 rfl ?_
      refine v_lsub (n := 46) dX11_offBy_45 rfl ?_
      refine v_lstore (n := 48) (al' := [.ref m, .int (nI s), JJ, .long (ofL (upd (I (m + 1)) 3 (nI w)) T n (fun j => I (m + 16) (24 * s + j)) k), JJ, .int (nI k), .int (I (m + 16) (24 * s + k)), .long ((((I (m + 16) (24 * s + k))).toInt64 - ((wS (itX (upd (I (m + 1)) 3 (nI w)) T n k) (ln (itX (upd (I (m + 1)) 3 (nI w)) T n k)))).toInt64)), JJ, JJ]) dX11_offBy_46 rfl rfl rfl ?_
      refine v_lload_n (n := 49) dX11_offBy_48 rfl rfl rfl ?_
      refine v_iload (n := 51) dX11_offBy_49 rfl rfl ?_
      refine v_ldc (n := 53) k_X11_152 dX11_offBy_51 rfl ?_
      refine v_icmp_ne (n := 56) (tgt := 60) dX11_offBy_53 (by decide) rfl (fun hq53 => ?_) (fun hq53 => ?_)
      · refine v_lload (n := 62) dX11_offBy_60 rfl rfl ?_
        refine v_lconst (n := 63) (v := 0) dX11_offBy_62 rfl rfl ?_
        refine v_lcmp (n := 64) dX11_offBy_63 rfl ?_
        refine v_if_ge (n := 67) (tgt := 73) dX11_offBy_64 (by decide) rfl (fun hq64 => ?_) (fun hq64 => ?_)
        · have hq64 := (lg_cmp_ge _ _).mp hq64
          refine v_lload (n := 75) dX11_offBy_73 rfl rfl ?_
          refine v_ladd (n := 76) dX11_offBy_75 rfl ?_
          refine v_lstore_n (n := 77) (al' := [.ref m, .int (nI s), JJ, .long ((ofL (upd (I (m + 1)) 3 (nI w)) T n (fun j => I (m + 16) (24 * s + j)) k + (((I (m + 16) (24 * s + k))).toInt64 - ((wS (itX (upd (I (m + 1)) 3 (nI w)) T n k) (ln (itX (upd (I (m + 1)) 3 (nI w)) T n k)))).toInt64))), JJ, .int (nI k), .int (I (m + 16) (24 * s + k)), .long ((((I (m + 16) (24 * s + k))).toInt64 - ((wS (itX (upd (I (m + 1)) 3 (nI w)) T n k) (ln (itX (upd (I (m + 1)) 3 (nI w)) T n k)))).toInt64)), JJ, JJ]) dX11_offBy_76 rfl rfl rfl rfl ?_
          refine v_aload_n (n := 78) dX11_offBy_77 rfl rfl rfl ?_
          refine v_aload_n (n := 79) dX11_offBy_78 rfl rfl rfl ?_
          refine v_getR (n := 82) f_X11_9 rfl L.s L.g0 dX11_offBy_79 rfl ?_
          refine v_iconst (n := 83) (v := 5) dX11_offBy_82 c_5 rfl ?_
          refine v_iald (n := 84) (j := 5) L.c0 (ix_lit rfl rfl rfl) dX11_offBy_83 rfl ?_
          refine v_callV (n := 87) mc_X11_day l_X11_160 iv_X11_day se_X11_day (ci := 10) ⟨by decide, rfl⟩ L.s (k_X11_day (T := T) (n := n) L (by rw [hX]; exact g1) (by omega) (by rw [h5]; exact ⟨by have := hm.1; omega, by have := hm.2; omega⟩)) ⟨rfl, rfl⟩ (l8 rfl) ⟨l8 rfl, l8 rfl⟩ rfl rfl (l8 rfl) dX11_offBy_84 rfl ?_
          rintro _ _ J1 ⟨rfl, rfl, hJ1, hE1⟩
          have hX1 : J1 (m + 1) = itX (upd (I (m + 1)) 3 (nI w)) T n (k + 1) := by rw [hJ1, hX, itX]
          have hE1 := hE.tr hE1
          refine v_istore (n := 89) (al' := [.ref m, .int (nI s), JJ, .long ((ofL (upd (I (m + 1)) 3 (nI w)) T n (fun j => I (m + 16) (24 * s + j)) k + (((I (m + 16) (24 * s + k))).toInt64 - ((wS (itX (upd (I (m + 1)) 3 (nI w)) T n k) (ln (itX (upd (I (m + 1)) 3 (nI w)) T n k)))).toInt64))), JJ, .int (nI k), .int (I (m + 16) (24 * s + k)), .long ((((I (m + 16) (24 * s + k))).toInt64 - ((wS (itX (upd (I (m + 1)) 3 (nI w)) T n k) (ln (itX (upd (I (m + 1)) 3 (nI w)) T n k)))).toInt64)), JJ, .int (dayN (J (m + 1)) T n (ln (itX (upd (I (m + 1)) 3 (nI w)) T n k)) (J (m + 1) 5))]) dX11_offBy_87 rfl rfl rfl ?_
          refine v_iinc (n := 92) (v := (nI k) + 1) (al' := [.ref m, .int (nI s), JJ, .long ((ofL (upd (I (m + 1)) 3 (nI w)) T n (fun j => I (m + 16) (24 * s + j)) k + (((I (m + 16) (24 * s + k))).toInt64 - ((wS (itX (upd (I (m + 1)) 3 (nI w)) T n k) (ln (itX (upd (I (m + 1)) 3 (nI w)) T n k)))).toInt64))), JJ, .int ((nI k) + 1), .int (I (m + 16) (24 * s + k)), .long ((((I (m + 16) (24 * s + k))).toInt64 - ((wS (itX (upd (I (m + 1)) 3 (nI w)) T n k) (ln (itX (upd (I (m + 1)) 3 (nI w)) T n k)))).toInt64)), JJ, .int (dayN (J (m + 1)) T n (ln (itX (upd (I (m + 1)) 3 (nI w)) T n k)) (J (m + 1) 5))]) dX11_offBy_89 rfl (by rw [c_1]) rfl rfl rfl ?_
          refine v_goto (tgt := 12) dX11_offBy_92 (by decide) ?_
          refine v_drop 6 (al' := [.ref m, .int (nI s), JJ, .long ((ofL (upd (I (m + 1)) 3 (nI w)) T n (fun j => I (m + 16) (24 * s + j)) k + (((I (m + 16) (24 * s + k))).toInt64 - ((wS (itX (upd (I (m + 1)) 3 (nI w)) T n k) (ln (itX (upd (I (m + 1)) 3 (nI w)) T n k)))).toInt64))), JJ, .int ((nI k) + 1), JJ, .long ((((I (m + 16) (24 * s + k))).toInt64 - ((wS (itX (upd (I (m + 1)) 3 (nI w)) T n k) (ln (itX (upd (I (m + 1)) 3 (nI w)) T n k)))).toInt64)), JJ, .int (dayN (J (m + 1)) T n (ln (itX (upd (I (m + 1)) 3 (nI w)) T n k)) (J (m + 1) 5))]) rfl ?_
          refine v_drop 7 (al' := [.ref m, .int (nI s), JJ, .long ((ofL (upd (I (m + 1)) 3 (nI w)) T n (fun j => I (m + 16) (24 * s + j)) k + (((I (m + 16) (24 * s + k))).toInt64 - ((wS (itX (upd (I (m + 1)) 3 (nI w)) T n k) (ln (itX (upd (I (m + 1)) 3 (nI w)) T n k)))).toInt64))), JJ, .int ((nI k) + 1), JJ, JJ, JJ, .int (dayN (J (m + 1)) T n (ln (itX (upd (I (m + 1)) 3 (nI w)) T n k)) (J (m + 1) 5))]) rfl ?_
          refine v_drop 9 (al' := [.ref m, .int (nI s), JJ, .long ((ofL (upd (I (m + 1)) 3 (nI w)) T n (fun j => I (m + 16) (24 * s + j)) k + (((I (m + 16) (24 * s + k))).toInt64 - ((wS (itX (upd (I (m + 1)) 3 (nI w)) T n k) (ln (itX (upd (I (m + 1)) 3 (nI w)) T n k)))).toInt64))), JJ, .int ((nI k) + 1), JJ, JJ, JJ, JJ]) rfl ?_
          rw [nI_1]
          rw [show ((ofL (upd (I (m + 1)) 3 (nI w)) T n (fun j => I (m + 16) (24 * s + j)) k + (((I (m + 16) (24 * s + k))).toInt64 - ((wS (itX (upd (I (m + 1)) 3 (nI w)) T n k) (ln (itX (upd (I (m + 1)) 3 (nI w)) T n k)))).toInt64)) : Int64) = ofL (upd (I (m + 1)) 3 (nI w)) T n (fun j => I (m + 16) (24 * s + j)) (k + 1) from by rw [ofL, offT]; rw [if_neg hq53, if_pos hq64]]
          exact ih (k + 1) hlt (by omega) J1 hX1 hE1
        · have hq64 := fun q => hq64 ((lg_cmp_ge _ _).mpr q)
          refine v_lload (n := 69) dX11_offBy_67 rfl rfl ?_
          refine v_lneg (n := 70) dX11_offBy_69 rfl ?_
          refine v_goto (tgt := 75) dX11_offBy_70 (by decide) ?_
          refine v_ladd (n := 76) dX11_offBy_75 rfl ?_
          refine v_lstore_n (n := 77) (al' := [.ref m, .int (nI s), JJ, .long ((ofL (upd (I (m + 1)) 3 (nI w)) T n (fun j => I (m + 16) (24 * s + j)) k + (-(((I (m + 16) (24 * s + k))).toInt64 - ((wS (itX (upd (I (m + 1)) 3 (nI w)) T n k) (ln (itX (upd (I (m + 1)) 3 (nI w)) T n k)))).toInt64)))), JJ, .int (nI k), .int (I (m + 16) (24 * s + k)), .long ((((I (m + 16) (24 * s + k))).toInt64 - ((wS (itX (upd (I (m + 1)) 3 (nI w)) T n k) (ln (itX (upd (I (m + 1)) 3 (nI w)) T n k)))).toInt64)), JJ, JJ]) dX11_offBy_76 rfl rfl rfl rfl ?_
          refine v_aload_n (n := 78) dX11_offBy_77 rfl rfl rfl ?_
          refine v_aload_n (n := 79) dX11_offBy_78 rfl rfl rfl ?_
          refine v_getR (n := 82) f_X11_9 rfl L.s L.g0 dX11_offBy_79 rfl ?_
          refine v_iconst (n := 83) (v := 5) dX11_offBy_82 c_5 rfl ?_
          refine v_iald (n := 84) (j := 5) L.c0 (ix_lit rfl rfl rfl) dX11_offBy_83 rfl ?_
          refine v_callV (n := 87) mc_X11_day l_X11_160 iv_X11_day se_X11_day (ci := 10) ⟨by decide, rfl⟩ L.s (k_X11_day (T := T) (n := n) L (by rw [hX]; exact g1) (by omega) (by rw [h5]; exact ⟨by have := hm.1; omega, by have := hm.2; omega⟩)) ⟨rfl, rfl⟩ (l8 rfl) ⟨l8 rfl, l8 rfl⟩ rfl rfl (l8 rfl) dX11_offBy_84 rfl ?_
          rintro _ _ J1 ⟨rfl, rfl, hJ1, hE1⟩
          have hX1 : J1 (m + 1) = itX (upd (I (m + 1)) 3 (nI w)) T n (k + 1) := by rw [hJ1, hX, itX]
          have hE1 := hE.tr hE1
          refine v_istore (n := 89) (al' := [.ref m, .int (nI s), JJ, .long ((ofL (upd (I (m + 1)) 3 (nI w)) T n (fun j => I (m + 16) (24 * s + j)) k + (-(((I (m + 16) (24 * s + k))).toInt64 - ((wS (itX (upd (I (m + 1)) 3 (nI w)) T n k) (ln (itX (upd (I (m + 1)) 3 (nI w)) T n k)))).toInt64)))), JJ, .int (nI k), .int (I (m + 16) (24 * s + k)), .long ((((I (m + 16) (24 * s + k))).toInt64 - ((wS (itX (upd (I (m + 1)) 3 (nI w)) T n k) (ln (itX (upd (I (m + 1)) 3 (nI w)) T n k)))).toInt64)), JJ, .int (dayN (J (m + 1)) T n (ln (itX (upd (I (m + 1)) 3 (nI w)) T n k)) (J (m + 1) 5))]) dX11_offBy_87 rfl rfl rfl ?_
          refine v_iinc (n := 92) (v := (nI k) + 1) (al' := [.ref m, .int (nI s), JJ, .long ((ofL (upd (I (m + 1)) 3 (nI w)) T n (fun j => I (m + 16) (24 * s + j)) k + (-(((I (m + 16) (24 * s + k))).toInt64 - ((wS (itX (upd (I (m + 1)) 3 (nI w)) T n k) (ln (itX (upd (I (m + 1)) 3 (nI w)) T n k)))).toInt64)))), JJ, .int ((nI k) + 1), .int (I (m + 16) (24 * s + k)), .long ((((I (m + 16) (24 * s + k))).toInt64 - ((wS (itX (upd (I (m + 1)) 3 (nI w)) T n k) (ln (itX (upd (I (m + 1)) 3 (nI w)) T n k)))).toInt64)), JJ, .int (dayN (J (m + 1)) T n (ln (itX (upd (I (m + 1)) 3 (nI w)) T n k)) (J (m + 1) 5))]) dX11_offBy_89 rfl (by rw [c_1]) rfl rfl rfl ?_
          refine v_goto (tgt := 12) dX11_offBy_92 (by decide) ?_
          refine v_drop 6 (al' := [.ref m, .int (nI s), JJ, .long ((ofL (upd (I (m + 1)) 3 (nI w)) T n (fun j => I (m + 16) (24 * s + j)) k + (-(((I (m + 16) (24 * s + k))).toInt64 - ((wS (itX (upd (I (m + 1)) 3 (nI w)) T n k) (ln (itX (upd (I (m + 1)) 3 (nI w)) T n k)))).toInt64)))), JJ, .int ((nI k) + 1), JJ, .long ((((I (m + 16) (24 * s + k))).toInt64 - ((wS (itX (upd (I (m + 1)) 3 (nI w)) T n k) (ln (itX (upd (I (m + 1)) 3 (nI w)) T n k)))).toInt64)), JJ, .int (dayN (J (m + 1)) T n (ln (itX (upd (I (m + 1)) 3 (nI w)) T n k)) (J (m + 1) 5))]) rfl ?_
          refine v_drop 7 (al' := [.ref m, .int (nI s), JJ, .long ((ofL (upd (I (m + 1)) 3 (nI w)) T n (fun j => I (m + 16) (24 * s + j)) k + (-(((I (m + 16) (24 * s + k))).toInt64 - ((wS (itX (upd (I (m + 1)) 3 (nI w)) T n k) (ln (itX (upd (I (m + 1)) 3 (nI w)) T n k)))).toInt64)))), JJ, .int ((nI k) + 1), JJ, JJ, JJ, .int (dayN (J (m + 1)) T n (ln (itX (upd (I (m + 1)) 3 (nI w)) T n k)) (J (m + 1) 5))]) rfl ?_
          refine v_drop 9 (al' := [.ref m, .int (nI s), JJ, .long ((ofL (upd (I (m + 1)) 3 (nI w)) T n (fun j => I (m + 16) (24 * s + j)) k + (-(((I (m + 16) (24 * s + k))).toInt64 - ((wS (itX (upd (I (m + 1)) 3 (nI w)) T n k) (ln (itX (upd (I (m + 1)) 3 (nI w)) T n k)))).toInt64)))), JJ, .int ((nI k) + 1), JJ, JJ, JJ, JJ]) rfl ?_
          rw [nI_1]
          rw [show ((ofL (upd (I (m + 1)) 3 (nI w)) T n (fun j => I (m + 16) (24 * s + j)) k + (-(((I (m + 16) (24 * s + k))).toInt64 - ((wS (itX (upd (I (m + 1)) 3 (nI w)) T n k) (ln (itX (upd (I (m + 1)) 3 (nI w)) T n k)))).toInt64))) : Int64) = ofL (upd (I (m + 1)) 3 (nI w)) T n (fun j => I (m + 16) (24 * s + j)) (k + 1) from by rw [ofL, offT]; rw [if_neg hq53, if_neg hq64]]
          exact ih (k + 1) hlt (by omega) J1 hX1 hE1
      · refine v_lconst (n := 57) (v := 0) dX11_offBy_56 rfl rfl ?_
        refine v_goto (tgt := 75) dX11_offBy_57 (by decide) ?_
        refine v_ladd (n := 76) dX11_offBy_75 rfl ?_
        refine v_lstore_n (n := 77) (al' := [.ref m, .int (nI s), JJ, .long ((ofL (upd (I (m + 1)) 3 (nI w)) T n (fun j => I (m + 16) (24 * s + j)) k + 0)), JJ, .int (nI k), .int (I (m + 16) (24 * s + k)), .long ((((I (m + 16) (24 * s + k))).toInt64 - ((wS (itX (upd (I (m + 1)) 3 (nI w)) T n k) (ln (itX (upd (I (m + 1)) 3 (nI w)) T n k)))).toInt64)), JJ, JJ]) dX11_offBy_76 rfl rfl rfl rfl ?_
        refine v_aload_n (n := 78) dX11_offBy_77 rfl rfl rfl ?_
        refine v_aload_n (n := 79) dX11_offBy_78 rfl rfl rfl ?_
        refine v_getR (n := 82) f_X11_9 rfl L.s L.g0 dX11_offBy_79 rfl ?_
        refine v_iconst (n := 83) (v := 5) dX11_offBy_82 c_5 rfl ?_
        refine v_iald (n := 84) (j := 5) L.c0 (ix_lit rfl rfl rfl) dX11_offBy_83 rfl ?_
        refine v_callV (n := 87) mc_X11_day l_X11_160 iv_X11_day se_X11_day (ci := 10) ⟨by decide, rfl⟩ L.s (k_X11_day (T := T) (n := n) L (by rw [hX]; exact g1) (by omega) (by rw [h5]; exact ⟨by have := hm.1; omega, by have := hm.2; omega⟩)) ⟨rfl, rfl⟩ (l8 rfl) ⟨l8 rfl, l8 rfl⟩ rfl rfl (l8 rfl) dX11_offBy_84 rfl ?_
        rintro _ _ J1 ⟨rfl, rfl, hJ1, hE1⟩
        have hX1 : J1 (m + 1) = itX (upd (I (m + 1)) 3 (nI w)) T n (k + 1) := by rw [hJ1, hX, itX]
        have hE1 := hE.tr hE1
        refine v_istore (n := 89) (al' := [.ref m, .int (nI s), JJ, .long ((ofL (upd (I (m + 1)) 3 (nI w)) T n (fun j => I (m + 16) (24 * s + j)) k + 0)), JJ, .int (nI k), .int (I (m + 16) (24 * s + k)), .long ((((I (m + 16) (24 * s + k))).toInt64 - ((wS (itX (upd (I (m + 1)) 3 (nI w)) T n k) (ln (itX (upd (I (m + 1)) 3 (nI w)) T n k)))).toInt64)), JJ, .int (dayN (J (m + 1)) T n (ln (itX (upd (I (m + 1)) 3 (nI w)) T n k)) (J (m + 1) 5))]) dX11_offBy_87 rfl rfl rfl ?_
        refine v_iinc (n := 92) (v := (nI k) + 1) (al' := [.ref m, .int (nI s), JJ, .long ((ofL (upd (I (m + 1)) 3 (nI w)) T n (fun j => I (m + 16) (24 * s + j)) k + 0)), JJ, .int ((nI k) + 1), .int (I (m + 16) (24 * s + k)), .long ((((I (m + 16) (24 * s + k))).toInt64 - ((wS (itX (upd (I (m + 1)) 3 (nI w)) T n k) (ln (itX (upd (I (m + 1)) 3 (nI w)) T n k)))).toInt64)), JJ, .int (dayN (J (m + 1)) T n (ln (itX (upd (I (m + 1)) 3 (nI w)) T n k)) (J (m + 1) 5))]) dX11_offBy_89 rfl (by rw [c_1]) rfl rfl rfl ?_
        refine v_goto (tgt := 12) dX11_offBy_92 (by decide) ?_
        refine v_drop 6 (al' := [.ref m, .int (nI s), JJ, .long ((ofL (upd (I (m + 1)) 3 (nI w)) T n (fun j => I (m + 16) (24 * s + j)) k + 0)), JJ, .int ((nI k) + 1), JJ, .long ((((I (m + 16) (24 * s + k))).toInt64 - ((wS (itX (upd (I (m + 1)) 3 (nI w)) T n k) (ln (itX (upd (I (m + 1)) 3 (nI w)) T n k)))).toInt64)), JJ, .int (dayN (J (m + 1)) T n (ln (itX (upd (I (m + 1)) 3 (nI w)) T n k)) (J (m + 1) 5))]) rfl ?_
        refine v_drop 7 (al' := [.ref m, .int (nI s), JJ, .long ((ofL (upd (I (m + 1)) 3 (nI w)) T n (fun j => I (m + 16) (24 * s + j)) k + 0)), JJ, .int ((nI k) + 1), JJ, JJ, JJ, .int (dayN (J (m + 1)) T n (ln (itX (upd (I (m + 1)) 3 (nI w)) T n k)) (J (m + 1) 5))]) rfl ?_
        refine v_drop 9 (al' := [.ref m, .int (nI s), JJ, .long ((ofL (upd (I (m + 1)) 3 (nI w)) T n (fun j => I (m + 16) (24 * s + j)) k + 0)), JJ, .int ((nI k) + 1), JJ, JJ, JJ, JJ]) rfl ?_
        rw [nI_1]
        rw [show ((ofL (upd (I (m + 1)) 3 (nI w)) T n (fun j => I (m + 16) (24 * s + j)) k + 0) : Int64) = ofL (upd (I (m + 1)) 3 (nI w)) T n (fun j => I (m + 16) (24 * s + j)) (k + 1) from by rw [ofL, offT]; rw [if_pos hq53]]
        exact ih (k + 1) hlt (by omega) J1 hX1 hE1

set_option maxRecDepth 100000 in
set_option maxHeartbeats 1000000 in
theorem k_X11_offBy {ro : Ro} {S : St} {I : In} {m T n l b s z w : Nat} (L : LayM S m) (h : WX (I (m + 1)) T n l b) (hm : mvOk (I (m + 1))) (hb : b < 900000000) (hs : s < 4) (hz : I (m + 15) s = nI z) (hz24 : z ≤ 24) (hw : w ≤ 99) (h4 : ∀ j, j < 116 → I (m + 4) j = I (m + 1) j) : Ok mX11_offBy ro 6 0 0 [.ref m, .int (nI s), .int (nI w)] S I (fun r S' I' => r = some (.long (offW (I (m + 1)) T n (fun j => I (m + 16) (24 * s + j)) z w)) ∧ S' = S ∧ Eqx (scM m) I I') := by
  refine ok_of (al := [.ref m, .int (nI s), .int (nI w), JJ, JJ, JJ, JJ, JJ, JJ, JJ]) (by decide) (l8 rfl) rfl ?_
  refine v_aload_n (n := 1) dX11_offBy_0 rfl rfl rfl ?_
  refine v_getR (n := 4) f_X11_9 rfl L.s L.g0 dX11_offBy_1 rfl ?_
  refine v_iconst (n := 5) (v := 3) dX11_offBy_4 c_3 rfl ?_
  refine v_iload_n (n := 6) dX11_offBy_5 rfl rfl rfl ?_
  refine v_iast (n := 7) (j := 3) L.c0 (ix_lit rfl rfl rfl) dX11_offBy_6 rfl ?_
  refine v_lconst (n := 8) (v := 0) dX11_offBy_7 rfl rfl ?_
  refine v_lstore_n (n := 9) (al' := [.ref m, .int (nI s), .int (nI w), .long (0), JJ, JJ, JJ, JJ, JJ, JJ]) dX11_offBy_8 rfl rfl rfl rfl ?_
  refine v_iconst (n := 10) (v := 0) dX11_offBy_9 c_0 rfl ?_
  refine v_istore (n := 12) (al' := [.ref m, .int (nI s), .int (nI w), .long (0), JJ, .int 0, JJ, JJ, JJ, JJ]) dX11_offBy_10 rfl rfl rfl ?_
  refine v_drop 2 (al' := [.ref m, .int (nI s), JJ, .long (0), JJ, .int 0, JJ, JJ, JJ, JJ]) rfl ?_
  exact l_X11_offBy L h hm hb hs hz hz24 hw h4 (z + 1) 0 (Nat.zero_le _) (by omega) _ (by rw [row_set, row_s]; rfl) (Eqx.rf.set (Or.inl rfl))

set_option maxRecDepth 100000 in
set_option maxHeartbeats 1000000 in
theorem t79_X11_warmed {ro : Ro} {S : St} {I J : In} {f : Int32} {m T n l b s z : Nat} {xb : Int32} (L : LayM S m) (h : WX (I (m + 1)) T n l b) (hm : mvOk (I (m + 1))) (hb : b < 900000000) (hs : s < 4) (hz : I (m + 15) s = nI z) (hz24 : z ≤ 24) {w : Nat} (hf : f = (wmF (I (m + 1)) T n (fun j => I (m + 16) (24 * s + j)) z (w + 1)).1) (kk : V RX11 cX11_warmed 9 (some .int) "warmed" ro (rmD 7 0 0) (QM 0 0 (fun r S' I' => r = some (.int (if xb = 0 then (wmF (I (m + 1)) T n (fun j => I (m + 16) (24 * s + j)) z 20).1 else (wmF (I (m + 1)) T n (fun j => I (m + 16) (24 * s + j)) z 20).2.toInt32)) ∧ S' = S ∧ Eqx (scP m) I I')) 0 0 48 [.ref m, .int (nI s), .int xb, .int ((wmF (I (m + 1)) T n (fun j => I (m + 16) (24 * s + j)) z (w + 1)).1), .long ((wmF (I (m + 1)) T n (fun j => I (m + 16) (24 * s + j)) z (w + 1)).2), JJ, .int (nI (w + 2)), JJ, JJ] [] S J) : V RX11 cX11_warmed 9 (some .int) "warmed" ro (rmD 7 0 0) (QM 0 0 (fun r S' I' => r = some (.int (if xb = 0 then (wmF (I (m + 1)) T n (fun j => I (m + 16) (24 * s + j)) z 20).1 else (wmF (I (m + 1)) T n (fun j => I (m + 16) (24 * s + j)) z 20).2.toInt32)) ∧ S' = S ∧ Eqx (scP m) I I')) 0 0 79 [.ref m, .int (nI s), .int xb, .int f, .long ((wmF (I (m + 1)) T n (fun j => I (m + 16) (24 * s + j)) z w).2), JJ, .int (nI (w + 1)), .long ((offW (I (m + 1)) T n (fun j => I (m + 16) (24 * s + j)) z (w + 1))), JJ] [] S J := by
  refine v_lload (n := 81) dX11_warmed_79 rfl rfl ?_
  refine v_lload (n := 83) dX11_warmed_81 rfl rfl ?_
  refine v_lcmp (n := 84) dX11_warmed_83 rfl ?_
  refine v_if_ge (n := 87) (tgt := 92) dX11_warmed_84 (by decide) rfl (fun hq84 => ?_) (fun hq84 => ?_)
  · have hq84 := (lg_cmp_ge _ _).mp hq84
    refine v_lload (n := 94) dX11_warmed_92 rfl rfl ?_
    refine v_lstore (n := 96) (al' := [.ref m, .int (nI s), .int xb, .int f, .long ((wmF (I (m + 1)) T n (fun j => I (m + 16) (24 * s + j)) z w).2), JJ, .int (nI (w + 1)), .long ((offW (I (m + 1)) T n (fun j => I (m + 16) (24 * s + j)) z (w + 1))), JJ]) dX11_warmed_94 rfl rfl rfl ?_
    refine v_iinc (n := 99) (v := (nI (w + 1)) + 1) (al' := [.ref m, .int (nI s), .int xb, .int f, .long ((wmF (I (m + 1)) T n (fun j => I (m + 16) (24 * s + j)) z w).2), JJ, .int ((nI (w + 1)) + 1), .long ((offW (I (m + 1)) T n (fun j => I (m + 16) (24 * s + j)) z (w + 1))), JJ]) dX11_warmed_96 rfl (by rw [c_1]) rfl rfl rfl ?_
    refine v_goto (tgt := 48) dX11_warmed_99 (by decide) ?_
    refine v_drop 7 (al' := [.ref m, .int (nI s), .int xb, .int f, .long ((wmF (I (m + 1)) T n (fun j => I (m + 16) (24 * s + j)) z w).2), JJ, .int ((nI (w + 1)) + 1), JJ, JJ]) rfl ?_
    rw [nI_1]
    rw [show ((wmF (I (m + 1)) T n (fun j => I (m + 16) (24 * s + j)) z w).2 : Int64) = (wmF (I (m + 1)) T n (fun j => I (m + 16) (24 * s + j)) z (w + 1)).2 from by rw [wmF, if_neg (Int64.not_lt.mpr hq84)], hf]
    exact kk
  · have hq84 := Int64.not_le.mp (fun q => hq84 ((lg_cmp_ge _ _).mpr q))
    refine v_lload (n := 89) dX11_warmed_87 rfl rfl ?_
    refine v_goto (tgt := 94) dX11_warmed_89 (by decide) ?_
    refine v_lstore (n := 96) (al' := [.ref m, .int (nI s), .int xb, .int f, .long ((offW (I (m + 1)) T n (fun j => I (m + 16) (24 * s + j)) z (w + 1))), JJ, .int (nI (w + 1)), .long ((offW (I (m + 1)) T n (fun j => I (m + 16) (24 * s + j)) z (w + 1))), JJ]) dX11_warmed_94 rfl rfl rfl ?_
    refine v_iinc (n := 99) (v := (nI (w + 1)) + 1) (al' := [.ref m, .int (nI s), .int xb, .int f, .long ((offW (I (m + 1)) T n (fun j => I (m + 16) (24 * s + j)) z (w + 1))), JJ, .int ((nI (w + 1)) + 1), .long ((offW (I (m + 1)) T n (fun j => I (m + 16) (24 * s + j)) z (w + 1))), JJ]) dX11_warmed_96 rfl (by rw [c_1]) rfl rfl rfl ?_
    refine v_goto (tgt := 48) dX11_warmed_99 (by decide) ?_
    refine v_drop 7 (al' := [.ref m, .int (nI s), .int xb, .int f, .long ((offW (I (m + 1)) T n (fun j => I (m + 16) (24 * s + j)) z (w + 1))), JJ, .int ((nI (w + 1)) + 1), JJ, JJ]) rfl ?_
    rw [nI_1]
    rw [show ((offW (I (m + 1)) T n (fun j => I (m + 16) (24 * s + j)) z (w + 1)) : Int64) = (wmF (I (m + 1)) T n (fun j => I (m + 16) (24 * s + j)) z (w + 1)).2 from by rw [wmF, if_pos hq84], hf]
    exact kk

theorem wm_eq {I J : In} {m : Nat} (h : Eqx (scM m) (uP I (m + 4) (I (m + 1)) 116) J) : Eqx (scP m) I J := fun a ha => by
  rw [h a (by unfold scM; unfold scP scM at ha; omega), uP_ne (by unfold scP at ha; omega)]

set_option maxRecDepth 100000 in
set_option maxHeartbeats 1000000 in
theorem l_X11_warmed {ro : Ro} {S : St} {I : In} {m T n l b s z : Nat} {xb : Int32} (L : LayM S m) (h : WX (I (m + 1)) T n l b) (hm : mvOk (I (m + 1))) (hb : b < 900000000) (hs : s < 4) (hz : I (m + 15) s = nI z) (hz24 : z ≤ 24) : ∀ c w, w ≤ 20 → 20 < w + c → ∀ J, Eqx (scM m) (uP I (m + 4) (I (m + 1)) 116) J → V RX11 cX11_warmed 9 (some .int) "warmed" ro (rmD 7 0 0) (QM 0 0 (fun r S' I' => r = some (.int (if xb = 0 then (wmF (I (m + 1)) T n (fun j => I (m + 16) (24 * s + j)) z 20).1 else (wmF (I (m + 1)) T n (fun j => I (m + 16) (24 * s + j)) z 20).2.toInt32)) ∧ S' = S ∧ Eqx (scP m) I I')) 0 0 48 [.ref m, .int (nI s), .int xb, .int ((wmF (I (m + 1)) T n (fun j => I (m + 16) (24 * s + j)) z w).1), .long ((wmF (I (m + 1)) T n (fun j => I (m + 16) (24 * s + j)) z w).2), JJ, .int (nI (w + 1)), JJ, JJ] [] S J := by
  intro c
  induction c with
  | zero => intro w hw hc; exact absurd hc (by omega)
  | succ c ih =>
    intro w hw hc J hE
    have hX : J (m + 1) = I (m + 1) := (hE (m + 1) (by unfold scM; omega)).trans (uP_ne (by omega))
    have h15 : J (m + 15) = I (m + 15) := (hE (m + 15) (by unfold scM; omega)).trans (uP_ne (by omega))
    have h16 : J (m + 16) = I (m + 16) := (hE (m + 16) (by unfold scM; omega)).trans (uP_ne (by omega))
    have h4 : ∀ j, j < 116 → J (m + 4) j = J (m + 1) j := fun j hj => by rw [hE (m + 4) (by unfold scM; omega), uP_in hj, hX]
    refine v_iload (n := 50) dX11_warmed_48 rfl rfl ?_
    refine v_bipush (n := 52) (v := 20) dX11_warmed_50 b_20 rfl ?_
    refine v_icmp_gt (n := 55) (tgt := 102) dX11_warmed_52 (by decide) rfl (fun hq52 => ?_) (fun hq52 => ?_)
    · rw [lit_nI 20] at hq52
      have hw9 : w = 20 := by
        rcases Nat.lt_or_ge w 20 with q | q
        · exact absurd hq52 (Int32.not_lt.mpr ((nI_leI (by omega) (by omega)).mpr (by omega)))
        · omega
      subst hw9
      refine v_iload_n (n := 103) dX11_warmed_102 rfl rfl rfl ?_
      refine v_if_ne (n := 106) (tgt := 110) dX11_warmed_103 (by decide) rfl (fun hq103 => ?_) (fun hq103 => ?_)
      · refine v_lload (n := 112) dX11_warmed_110 rfl rfl ?_
        refine v_l2i (n := 113) dX11_warmed_112 rfl ?_
        exact v_iret rfl ⟨by rw [if_neg hq103], rfl, wm_eq hE⟩ ⟨l8 rfl, l8 rfl⟩ dX11_warmed_113
      · refine v_iload_n (n := 107) dX11_warmed_106 rfl rfl rfl ?_
        refine v_goto (tgt := 113) dX11_warmed_107 (by decide) ?_
        exact v_iret rfl ⟨by rw [if_pos hq103], rfl, wm_eq hE⟩ ⟨l8 rfl, l8 rfl⟩ dX11_warmed_113
    · rw [lit_nI 20] at hq52
      have hle := le_out (Int32.not_lt.mp hq52) (by omega) (by omega)
      refine v_aload_n (n := 56) dX11_warmed_55 rfl rfl rfl ?_
      refine v_iload_n (n := 57) dX11_warmed_56 rfl rfl rfl ?_
      refine v_iload (n := 59) dX11_warmed_57 rfl rfl ?_
      refine v_callV (n := 62) mc_X11_offBy l_X11_182 iv_X11_offBy se_X11_offBy (ci := 10) ⟨by decide, rfl⟩ L.s (k_X11_offBy (T := T) (n := n) (z := z) (w := w + 1) L (by rw [hX]; exact h) (by rw [hX]; exact hm) hb hs (by rw [h15]; exact hz) hz24 (by omega) h4) ⟨rfl, rfl⟩ (l8 rfl) ⟨l8 rfl, l8 rfl⟩ rfl rfl (l8 rfl) dX11_warmed_59 rfl ?_
      rintro _ _ J1 ⟨rfl, rfl, hE1⟩
      rw [hX, h16]
      have hE1 := hE.tr hE1
      refine v_lstore (n := 64) (al' := [.ref m, .int (nI s), .int xb, .int ((wmF (I (m + 1)) T n (fun j => I (m + 16) (24 * s + j)) z w).1), .long ((wmF (I (m + 1)) T n (fun j => I (m + 16) (24 * s + j)) z w).2), JJ, .int (nI (w + 1)), .long ((offW (I (m + 1)) T n (fun j => I (m + 16) (24 * s + j)) z (w + 1))), JJ]) dX11_warmed_62 rfl rfl rfl ?_
      refine v_lload (n := 66) dX11_warmed_64 rfl rfl ?_
      refine v_lload (n := 68) dX11_warmed_66 rfl rfl ?_
      refine v_lcmp (n := 69) dX11_warmed_68 rfl ?_
      refine v_if_ge (n := 72) (tgt := 77) dX11_warmed_69 (by decide) rfl (fun hq69 => ?_) (fun hq69 => ?_)
      · have hq69 := (lg_cmp_ge _ _).mp hq69
        refine v_iload_n (n := 78) dX11_warmed_77 rfl rfl rfl ?_
        refine v_istore_n (n := 79) (al' := [.ref m, .int (nI s), .int xb, .int ((wmF (I (m + 1)) T n (fun j => I (m + 16) (24 * s + j)) z w).1), .long ((wmF (I (m + 1)) T n (fun j => I (m + 16) (24 * s + j)) z w).2), JJ, .int (nI (w + 1)), .long ((offW (I (m + 1)) T n (fun j => I (m + 16) (24 * s + j)) z (w + 1))), JJ]) dX11_warmed_78 rfl rfl rfl rfl ?_
        exact t79_X11_warmed L h hm hb hs hz hz24 (by rw [wmF, if_neg (Int64.not_lt.mpr hq69)]) (ih (w + 1) (by omega) (by omega) J1 hE1)
      · have hq69 := Int64.not_le.mp (fun q => hq69 ((lg_cmp_ge _ _).mpr q))
        refine v_iload (n := 74) dX11_warmed_72 rfl rfl ?_
        refine v_goto (tgt := 78) dX11_warmed_74 (by decide) ?_
        refine v_istore_n (n := 79) (al' := [.ref m, .int (nI s), .int xb, .int (nI (w + 1)), .long ((wmF (I (m + 1)) T n (fun j => I (m + 16) (24 * s + j)) z w).2), JJ, .int (nI (w + 1)), .long ((offW (I (m + 1)) T n (fun j => I (m + 16) (24 * s + j)) z (w + 1))), JJ]) dX11_warmed_78 rfl rfl rfl rfl ?_
        exact t79_X11_warmed L h hm hb hs hz hz24 (by rw [wmF, if_pos hq69]) (ih (w + 1) (by omega) (by omega) J1 hE1)

set_option maxRecDepth 100000 in
set_option maxHeartbeats 1000000 in
theorem k_X11_warmed {ro : Ro} {S : St} {I : In} {xa xb : Int32} {m T n l b : Nat} (L : LayM S m) (h : WX (I (m + 1)) T n l b) (hM : MW I m) (hm : mvOk (I (m + 1))) (hb : b < 900000000) : Ok mX11_warmed ro 7 0 0 [.ref m, .int xa, .int xb] S I (fun r S' I' => r = some (.int (warmS I m T n xa xb)) ∧ S' = S ∧ Eqx (scP m) I I') := by
  refine ok_of (al := [.ref m, .int xa, .int xb, JJ, JJ, JJ, JJ, JJ, JJ]) (by decide) (l8 rfl) rfl ?_
  refine v_iload_n (n := 1) dX11_warmed_0 rfl rfl rfl ?_
  refine v_cSi (n := 4) (x := (bi (inn xa 0 3))) mc_X11_isSheet l_X11_178 sta_X11_isSheet k_X11_isSheet ⟨rfl, rfl⟩ (l8 rfl) ⟨l8 rfl, l8 rfl⟩ rfl rfl (l8 rfl) dX11_warmed_1 rfl ?_
  refine v_if_eq (n := 7) (tgt := 16) dX11_warmed_4 (by decide) rfl (fun hq4 => ?_) (fun hq4 => ?_)
  · refine v_ldc (n := 18) k_X11_90 dX11_warmed_16 rfl ?_
    exact v_iret rfl ⟨by clear h hM; simp_all [bi_0, bi_n0, warmS], rfl, Eqx.rf⟩ ⟨l8 rfl, l8 rfl⟩ dX11_warmed_18
  · refine v_iload_n (n := 8) dX11_warmed_7 rfl rfl rfl ?_
    refine v_iconst (n := 9) (v := 0) dX11_warmed_8 c_0 rfl ?_
    refine v_iconst (n := 10) (v := 1) dX11_warmed_9 c_1 rfl ?_
    refine v_cSi (n := 13) (x := (bi (inn xb 0 1))) mc_X11_in l_X11_78 sta_X11_in k_X11_in ⟨rfl, rfl⟩ (l8 rfl) ⟨l8 rfl, l8 rfl⟩ rfl rfl (l8 rfl) dX11_warmed_10 rfl ?_
    refine v_if_ne (n := 16) (tgt := 19) dX11_warmed_13 (by decide) rfl (fun hq13 => ?_) (fun hq13 => ?_)
    · obtain ⟨s, hs, rfl⟩ := inn_get (a := 3) (bi_n0.mp hq4) (by decide)
      refine v_aload_n (n := 20) dX11_warmed_19 rfl rfl rfl ?_
      refine v_getR (n := 23) f_X11_51 rfl L.s L.g24 dX11_warmed_20 rfl ?_
      refine v_iload_n (n := 24) dX11_warmed_23 rfl rfl rfl ?_
      refine v_iald (n := 25) (j := s) L.c24 (ix_nI (by omega) (by decide)) dX11_warmed_24 rfl ?_
      refine v_if_ge (n := 28) (tgt := 31) dX11_warmed_25 (by decide) rfl (fun hq25 => ?_) (fun hq25 => ?_)
      · obtain ⟨-, z, hz, ez⟩ := hM.1 s (by omega)
        refine v_aload_n (n := 32) dX11_warmed_31 rfl rfl rfl ?_
        refine v_cVv (n := 35) mc_X11_thinks l_X11_166 iv_X11_thinks se_X11_thinks (ci := 10) ⟨by decide, rfl⟩ L.s (k_X11_thinks L) ⟨rfl, rfl⟩ (l8 rfl) ⟨l8 rfl, l8 rfl⟩ rfl rfl (l8 rfl) dX11_warmed_32 rfl ?_
        refine v_iconst (n := 36) (v := 0) dX11_warmed_35 c_0 rfl ?_
        refine v_istore_n (n := 37) (al' := [.ref m, .int (nI s), .int xb, .int 0, JJ, JJ, JJ, JJ, JJ]) dX11_warmed_36 rfl rfl rfl rfl ?_
        refine v_aload_n (n := 38) dX11_warmed_37 rfl rfl rfl ?_
        have hX : (uP I (m + 4) (I (m + 1)) 116) (m + 1) = I (m + 1) := uP_ne (by omega)
        have h15 : (uP I (m + 4) (I (m + 1)) 116) (m + 15) = I (m + 15) := uP_ne (by omega)
        have h16 : (uP I (m + 4) (I (m + 1)) 116) (m + 16) = I (m + 16) := uP_ne (by omega)
        have h4 : ∀ j, j < 116 → (uP I (m + 4) (I (m + 1)) 116) (m + 4) j = (uP I (m + 4) (I (m + 1)) 116) (m + 1) j := fun j hj => by rw [uP_in hj, hX]
        refine v_iload_n (n := 39) dX11_warmed_38 rfl rfl rfl ?_
        refine v_iconst (n := 40) (v := 0) dX11_warmed_39 c_0 rfl ?_
        refine v_callV (n := 43) mc_X11_offBy l_X11_182 iv_X11_offBy se_X11_offBy (ci := 10) ⟨by decide, rfl⟩ L.s (k_X11_offBy (T := T) (n := n) (z := z) (w := 0) L (by rw [hX]; exact h) (by rw [hX]; exact hm) hb (by omega) (by rw [h15]; exact ez) hz (by omega) h4) ⟨rfl, rfl⟩ (l8 rfl) ⟨l8 rfl, l8 rfl⟩ rfl rfl (l8 rfl) dX11_warmed_40 rfl ?_
        rintro _ _ J1 ⟨rfl, rfl, hE1⟩
        rw [hX, h16]
        refine v_lstore (n := 45) (al' := [.ref m, .int (nI s), .int xb, .int 0, .long ((offW (I (m + 1)) T n (fun j => I (m + 16) (24 * s + j)) z 0)), JJ, JJ, JJ, JJ]) dX11_warmed_43 rfl rfl rfl ?_
        refine v_iconst (n := 46) (v := 1) dX11_warmed_45 c_1 rfl ?_
        refine v_istore (n := 48) (al' := [.ref m, .int (nI s), .int xb, .int 0, .long ((offW (I (m + 1)) T n (fun j => I (m + 16) (24 * s + j)) z 0)), JJ, .int 1, JJ, JJ]) dX11_warmed_46 rfl rfl rfl ?_
        rw [warmS, if_pos (by simp only [Bool.and_eq_true]; exact ⟨bi_n0.mp hq4, bi_n0.mp hq13⟩), nI_clamp (show s < 2 ^ 31 by omega), if_pos hq25, ez, nI_clamp (by omega)]
        exact l_X11_warmed L h hm hb (by omega) ez hz 21 0 (Nat.zero_le _) (by omega) J1 hE1
      · refine v_ldc (n := 30) k_X11_181 dX11_warmed_28 rfl ?_
        exact v_iret rfl ⟨by clear h hM; simp_all [-Int32.not_le, -Int32.not_lt, bi_0, bi_n0, warmS, nI_clamp (show s < 2 ^ 31 by omega)], rfl, Eqx.rf⟩ ⟨l8 rfl, l8 rfl⟩ dX11_warmed_30
    · refine v_ldc (n := 18) k_X11_90 dX11_warmed_16 rfl ?_
      exact v_iret rfl ⟨by clear h hM; simp_all [bi_0, bi_n0, warmS], rfl, Eqx.rf⟩ ⟨l8 rfl, l8 rfl⟩ dX11_warmed_18

