/-! ===== Village: what it gives, how wide the ball is, the fine ===== -/
theorem rHas_t {n y : Nat} (h : y < n) (hn : n ≤ 10) : rHas (nI n) (nI y) = true := by
  unfold rHas
  rw [decide_eq_false (nI_nlt0 (by omega)), decide_eq_false (fun q => by have := le_out q (by omega) (by omega); omega)]; rfl
theorem held_win {v c : Int32} (hc : ¬ c < 0) : mx 0 (mn c v) = win v 0 c := by
  unfold mx mn win
  have e0 : (0 : Int32).toInt = 0 := rfl
  simp only [Int32.lt_iff_toInt_lt, e0] at hc ⊢
  by_cases h1 : v.toInt < c.toInt
  · rw [if_pos h1]
    by_cases h2 : 0 < v.toInt
    · rw [if_pos h2, if_neg (by omega), if_neg (by omega)]
    · rw [if_neg h2]
      by_cases h3 : v.toInt < 0
      · rw [if_pos h3]
      · rw [if_neg h3, if_neg (by omega)]
        exact Int32.toInt_inj.mp (by rw [e0]; omega)
  · rw [if_neg h1]
    by_cases h2 : 0 < c.toInt
    · rw [if_pos h2, if_neg (by omega)]
      by_cases h3 : c.toInt < v.toInt
      · rw [if_pos h3]
      · rw [if_neg h3]; exact Int32.toInt_inj.mp (by omega)
    · rw [if_neg h2]
      by_cases h3 : v.toInt < 0
      · rw [if_pos h3]
      · rw [if_neg h3]
        by_cases h4 : c.toInt < v.toInt
        · rw [if_pos h4]; exact Int32.toInt_inj.mp (by rw [e0]; omega)
        · rw [if_neg h4]; exact Int32.toInt_inj.mp (by rw [e0]; omega)
theorem mn_win {a b : Nat} (ha : a < 2 ^ 31) (hb : b < 2 ^ 31) : mn (nI b) (nI a) = win (nI a) 0 (nI b) := by rw [mn_nI hb ha, win_min ha hb, Nat.min_comm]
theorem gift_eq {k : Int32} {q s : Nat} (hs : s ≤ 999) (hq : q ≤ s) : kGift k (nI q) (nI s) = (if k = 1 then nI q / 2 else if k = 2 then win (nI q + 10) 0 (nI s) else if k = 3 then nI q / 2 else if k = 4 then win (2 * win (nI q + 10) 0 (nI s)) 0 (nI s) else if k = 5 then 0 else nI q) := by
  have e1 : mn (nI s) (nI q + 10) = win (nI q + 10) 0 (nI s) := by rw [lit_nI 10, nI_add, mn_win (by omega) (by omega)]
  have e2 : mn (nI s) (2 * win (nI q + 10) 0 (nI s)) = win (2 * win (nI q + 10) 0 (nI s)) 0 (nI s) := by
    rw [lit_nI 10, nI_add, win_min (by omega) (by omega), lit_nI 2, pk_mul, mn_win (by omega) (by omega)]
  rw [kGift, e1, e2]
  by_cases h1 : k = 1
  · rw [if_pos (Or.inl h1), if_pos h1]
  · rw [if_neg h1]
    by_cases h3 : k = 3
    · rw [if_pos (Or.inr h3), if_neg (by rw [h3]; decide), if_pos h3]
    · rw [if_neg (by intro q; rcases q with q | q; exact h1 q; exact h3 q), if_neg h3]
def lawG (S : St) (I : In) (B : Nat) (X : Ar) (T k g t n na c : Nat) : Prop := t < T ∧ cnt X (nI k) T = nI t ∧ S.2.1 g k = .ref (c + 1) ∧ LayL S c n na ∧ WFT (fun j => X (144 + 96 * t + j)) (nfs k) n na ∧ (∀ j, j < n → I c j = trC k (X (144 + 96 * t + j))) ∧ X (116 + 2 * t) % 1000 = nI n ∧ n ≤ 96 ∧ stk B (c + 2) ∧ I (c + 1) 0 = nI t
theorem law_get {S : St} {I : In} {B T k g : Nat} {X : Ar} {lw : Nat → Nat} (hk : k < 3) (hT : T ≤ 14) (hc : CtR S g X T lw) (hl : LwR S I B X T lw) (h : ¬ cnt X (nI k) T < 0) : ∃ t n na c, lawG S I B X T k g t n na c := by
  rcases cnt_spec X (nI k) T hT with q | ⟨t, h1, h2, h3⟩
  · exact absurd (by rw [q]; decide) h
  · obtain ⟨key, n, na, i, g1, g2, g3, g4, g5, g6, g7, g8, g9, g10, g11⟩ := hl t h1
    have e1 : X (116 + 2 * t) / 1000 = nI key := by
      rw [g8, lit_nI 1000, pk_div (by omega) (by decide) (by decide)]
      congr 1; omega
    have e2 : key = k := eqn (e1.symm.trans h3) (by omega) (by omega)
    subst e2
    have hg := hc key g1
    rw [if_neg h, h2, nI_clamp (by omega)] at hg
    refine ⟨t, n, na, lw t, h1, h2, hg, g3, g11, g7, ?_, g10, ?_, g4⟩
    · rw [g8, lit_nI 1000, rem_nI (by omega) (by decide) (by decide)]
      congr 1; omega
    · rw [g2]; exact ⟨by omega, by omega⟩
theorem law_none {S : St} {T k g : Nat} {X : Ar} {lw : Nat → Nat} (hk : k < 3) (hc : CtR S g X T lw) (h : cnt X (nI k) T < 0) : S.2.1 g k = .null := by rw [hc k hk, if_pos h]

set_option maxRecDepth 100000 in
set_option maxHeartbeats 1000000 in
theorem k_X9_drawnRest {ro : Ro} {S : St} {I : In} {v : Nat} {x : Int32} (L : LayV S v) (hx : 0 < x) : Ok mX9_drawnRest ro 0 0 0 [.ref v, .int x] S I (RI (ushr (drawZ (I v 8)) 8 % x) S (setI I v 8 (drawZ (I v 8)))) := by
  refine ok_of (al := [.ref v, .int x]) (by decide) (l8 rfl) rfl ?_
  refine v_aload_n (n := 1) dX9_drawnRest_0 rfl rfl rfl ?_
  refine v_aload_n (n := 2) dX9_drawnRest_1 rfl rfl rfl ?_
  refine v_getI (n := 5) f_X9_47 rfl L.s dX9_drawnRest_2 rfl ?_
  refine v_ldc (n := 7) k_X9_60 dX9_drawnRest_5 rfl ?_
  refine v_imul (n := 8) dX9_drawnRest_7 rfl ?_
  refine v_sipush (n := 11) (v := 12345) dX9_drawnRest_8 s_12345 rfl ?_
  refine v_iadd (n := 12) dX9_drawnRest_11 rfl ?_
  refine v_putI (n := 15) f_X9_47 rfl (Or.inl rfl) L.s dX9_drawnRest_12 rfl ?_
  refine v_iload_n (n := 16) dX9_drawnRest_15 rfl rfl rfl ?_
  refine v_if_le (n := 19) (tgt := 31) dX9_drawnRest_16 (by decide) rfl (fun hq16 => ?_) (fun hq16 => ?_)
  · exact absurd hx (Int32.not_lt.mpr hq16)
  · refine v_aload_n (n := 20) dX9_drawnRest_19 rfl rfl rfl ?_
    refine v_getI (n := 23) f_X9_47 rfl L.s dX9_drawnRest_20 rfl ?_
    rw [sI_s]
    refine v_bipush (n := 25) (v := 8) dX9_drawnRest_23 b_8 rfl ?_
    refine v_iushr (n := 26) dX9_drawnRest_25 rfl ?_
    refine v_iload_n (n := 27) dX9_drawnRest_26 rfl rfl rfl ?_
    refine v_irem (n := 28) dX9_drawnRest_27 (fun q => absurd hx (by rw [q]; decide)) rfl ?_
    refine v_goto (tgt := 32) dX9_drawnRest_28 (by decide) ?_
    exact v_rI rfl rfl rfl rfl ⟨l8 rfl, l8 rfl⟩ dX9_drawnRest_32

set_option maxRecDepth 100000 in
set_option maxHeartbeats 1000000 in
theorem k1_X9_ballSize {ro : Ro} {S : St} {I : In} {v B T n l : Nat} {X : Ar} {mv : Int32} {lw : Nat → Nat} (L : LayV S v) (h : VR S I v B X mv T n l lw) (hT : T ≤ 14) (h7 : X 7 = nI l) (hc : cnt X 0 T < 0) : Ok mX9_ballSize ro 2 0 0 [.ref v] S I (fun r S' I' => r = some (.int (wideX X T l)) ∧ S' = S ∧ Eqx (stk B) I I') := by
  refine ok_of (al := [.ref v, JJ, JJ]) (by decide) (l8 rfl) rfl ?_
  refine v_aload_n (n := 1) dX9_ballSize_0 rfl rfl rfl ?_
  refine v_getR (n := 4) f_X9_27 rfl L.s L.g2 dX9_ballSize_1 rfl ?_
  refine v_iconst (n := 5) (v := 0) dX9_ballSize_4 c_0 rfl ?_
  refine v_aald (n := 6) (t := 4) (j := 0) ⟨by decide, by decide⟩ L.c2 (ix_lit rfl rfl rfl) (law_none (by decide) h.2.2.2.1 hc) dX9_ballSize_5 rfl ?_
  refine v_astore_nN (n := 7) (al' := [.ref v, .null, JJ]) dX9_ballSize_6 rfl rfl rfl rfl ?_
  refine v_aload_nN (n := 8) dX9_ballSize_7 rfl rfl rfl ?_
  refine v_ifnonnullN (n := 11) dX9_ballSize_8 rfl ?_
  refine v_aload_n (n := 12) dX9_ballSize_11 rfl rfl rfl ?_
  refine v_getR (n := 15) f_X9_21 rfl L.s L.g1 dX9_ballSize_12 rfl ?_
  refine v_getI (n := 18) f_X9_61 rfl L.c1.s dX9_ballSize_15 rfl ?_
  rw [h.2.1.1.2.1]
  refine v_bipush (n := 20) (v := 10) dX9_ballSize_18 b_10 rfl ?_
  refine v_idiv (n := 21) dX9_ballSize_20 (by decide) rfl ?_
  refine v_goto (tgt := 43) dX9_ballSize_21 (by decide) ?_
  refine v_istore_n (n := 44) (al' := [.ref v, .null, .int ((wS X l) / 10)]) dX9_ballSize_43 rfl rfl rfl rfl ?_
  refine v_iload_n (n := 45) dX9_ballSize_44 rfl rfl rfl ?_
  refine v_sipush (n := 48) (v := 999) dX9_ballSize_45 s_999 rfl ?_
  refine v_cSNi (n := 51) (x := (mx 0 (mn 999 ((wS X l) / 10)))) (host := "SnowOwed") mc_X10_held (by decide) sta_X10_held k_X10_held ⟨rfl, rfl⟩ (l8 rfl) ⟨l8 rfl, l8 rfl⟩ rfl rfl (l8 rfl) dX9_ballSize_48 rfl ?_
  refine v_iret rfl ⟨?_, rfl, Eqx.rf⟩ ⟨l8 rfl, l8 rfl⟩ dX9_ballSize_51
  rw [held_win (by decide), wideX, txt, if_pos hc]

set_option maxRecDepth 100000 in
set_option maxHeartbeats 1000000 in
theorem k2_X9_ballSize {ro : Ro} {S : St} {I : In} {v B T n l : Nat} {X : Ar} {mv : Int32} {lw : Nat → Nat} (L : LayV S v) (h : VR S I v B X mv T n l lw) (hT : T ≤ 14) (h7 : X 7 = nI l) (hc : ¬ cnt X 0 T < 0) {t n0 na c : Nat} (G : lawG S I B X T 0 (v + 10) t n0 na c) : Ok mX9_ballSize ro 2 0 0 [.ref v] S I (fun r S' I' => r = some (.int (wideX X T l)) ∧ S' = S ∧ Eqx (stk B) I I') := by
  refine ok_of (al := [.ref v, JJ, JJ]) (by decide) (l8 rfl) rfl ?_
  refine v_aload_n (n := 1) dX9_ballSize_0 rfl rfl rfl ?_
  refine v_getR (n := 4) f_X9_27 rfl L.s L.g2 dX9_ballSize_1 rfl ?_
  refine v_iconst (n := 5) (v := 0) dX9_ballSize_4 c_0 rfl ?_
  refine v_aald (n := 6) (t := 4) (j := 0) ⟨by decide, by decide⟩ L.c2 (ix_lit rfl rfl rfl) G.2.2.1 dX9_ballSize_5 rfl ?_
  refine v_astore_n (n := 7) (al' := [.ref v, .ref ((c + 1)), JJ]) dX9_ballSize_6 rfl rfl rfl rfl ?_
  refine v_aload_n (n := 8) dX9_ballSize_7 rfl rfl rfl ?_
  refine v_ifnonnull (tgt := 24) dX9_ballSize_8 (by decide) ?_
  refine v_aload_n (n := 25) dX9_ballSize_24 rfl rfl rfl ?_
  refine v_aload_n (n := 26) dX9_ballSize_25 rfl rfl rfl ?_
  refine v_getR (n := 29) f_X9_21 rfl L.s L.g1 dX9_ballSize_26 rfl ?_
  refine v_getI (n := 32) f_X9_61 rfl L.c1.s dX9_ballSize_29 rfl ?_
  rw [h.2.1.1.2.1]
  refine v_aload_n (n := 33) dX9_ballSize_32 rfl rfl rfl ?_
  refine v_getR (n := 36) f_X9_21 rfl L.s L.g1 dX9_ballSize_33 rfl ?_
  refine v_getI (n := 39) f_X9_64 rfl L.c1.s dX9_ballSize_36 rfl ?_
  rw [h.2.1.1.1, ← h7]
  refine v_iconst (n := 40) (v := 0) dX9_ballSize_39 c_0 rfl ?_
  refine v_callV (n := 43) mc_X2_value l_X9_67 iv_X2_value se_X2_value (ci := 1) ⟨by decide, rfl⟩ G.2.2.2.1.s (k_X2_value (key := 0) G.2.2.2.1 G.2.2.2.2.1 (by decide) G.2.2.2.2.2.1) ⟨rfl, rfl⟩ (l8 rfl) ⟨l8 rfl, l8 rfl⟩ rfl rfl (l8 rfl) dX9_ballSize_40 rfl ?_
  rintro _ _ J ⟨rfl, rfl, hE⟩
  have hE : Eqx (stk B) I J := hE.mono (fun a q => by rw [q]; exact G.2.2.2.2.2.2.2.2.1)
  refine v_istore_n (n := 44) (al' := [.ref v, .ref ((c + 1)), .int ((wkL (fun j => X (144 + 96 * t + j)) (faC 0 (wS X l) (X 7) 0) n0).headD 0)]) dX9_ballSize_43 rfl rfl rfl rfl ?_
  refine v_iload_n (n := 45) dX9_ballSize_44 rfl rfl rfl ?_
  refine v_sipush (n := 48) (v := 999) dX9_ballSize_45 s_999 rfl ?_
  refine v_cSNi (n := 51) (x := (mx 0 (mn 999 ((wkL (fun j => X (144 + 96 * t + j)) (faC 0 (wS X l) (X 7) 0) n0).headD 0)))) (host := "SnowOwed") mc_X10_held (by decide) sta_X10_held k_X10_held ⟨rfl, rfl⟩ (l8 rfl) ⟨l8 rfl, l8 rfl⟩ rfl rfl (l8 rfl) dX9_ballSize_48 rfl ?_
  refine v_iret rfl ⟨?_, rfl, hE⟩ ⟨l8 rfl, l8 rfl⟩ dX9_ballSize_51
  have ht := G.1
  rw [held_win (by decide), wideX, txt, if_neg hc, show cnt X 0 T = nI t from G.2.1, nI_clamp (by omega), wkO_eq (fa := faC 0 (wS X l) (X 7) 0) (fb := fa3 (wS X l) (X 7) 0) G.2.2.2.2.2.2.1 G.2.2.2.2.2.2.2.1 G.2.2.2.2.1 (fun _ _ => rfl)]

theorem k_X9_ballSize {ro : Ro} {S : St} {I : In} {v B T n l : Nat} {X : Ar} {mv : Int32} {lw : Nat → Nat} (L : LayV S v) (h : VR S I v B X mv T n l lw) (hT : T ≤ 14) (h7 : X 7 = nI l) : Ok mX9_ballSize ro 2 0 0 [.ref v] S I (fun r S' I' => r = some (.int (wideX X T l)) ∧ S' = S ∧ Eqx (stk B) I I') := by
  by_cases hc : cnt X 0 T < 0
  · exact k1_X9_ballSize L h hT h7 hc
  · obtain ⟨t, n0, na, c, G⟩ := law_get (k := 0) (by decide) hT h.2.2.2.1 h.2.2.2.2 hc
    exact k2_X9_ballSize L h hT h7 hc G

set_option maxRecDepth 100000 in
set_option maxHeartbeats 1000000 in
theorem k1_X9_gives {ro : Ro} {S : St} {I : In} {v B T n l : Nat} {X : Ar} {mv : Int32} {lw : Nat → Nat} (L : LayV S v) (h : VR S I v B X mv T n l lw) (hT : T ≤ 14) (hvB : v + 11 ≤ B) {y s : Nat} (hy : y < n) (hn10 : n ≤ 10) (hs : s ≤ 999) (es : X (76 + 4 * y + 1) = nI s) (hc : cnt X 1 T < 0) : Ok mX9_gives ro 2 0 0 [.ref v, .int (nI y)] S I (fun r S' I' => r = some (.int (givesX X T l y)) ∧ S' = S ∧ Eqx (stk B) I I') := by
  refine ok_of (al := [.ref v, .int (nI y), JJ, JJ, JJ]) (by decide) (l8 rfl) rfl ?_
  refine v_aload_n (n := 1) dX9_gives_0 rfl rfl rfl ?_
  refine v_getR (n := 4) f_X9_12 rfl L.s L.g0 dX9_gives_1 rfl ?_
  refine v_iload_n (n := 5) dX9_gives_4 rfl rfl rfl ?_
  refine v_cVi (n := 8) (x := (bi (rHas (I (v + 1) 4) (nI y)))) mc_X5_has l_X9_75 iv_X5_has se_X5_has (ci := 4) ⟨by decide, rfl⟩ L.c0.s (k_X5_has L.c0) ⟨rfl, rfl⟩ (l8 rfl) ⟨l8 rfl, l8 rfl⟩ rfl rfl (l8 rfl) dX9_gives_5 rfl ?_
  refine v_if_ne (n := 11) (tgt := 13) dX9_gives_8 (by decide) rfl (fun hq8 => ?_) (fun hq8 => ?_)
  · refine v_aload_n (n := 14) dX9_gives_13 rfl rfl rfl ?_
    refine v_getR (n := 17) f_X9_12 rfl L.s L.g0 dX9_gives_14 rfl ?_
    refine v_getR (n := 20) f_X9_79 rfl L.c0.s L.c0.g1 dX9_gives_17 rfl ?_
    refine v_iload_n (n := 21) dX9_gives_20 rfl rfl rfl ?_
    refine v_iald (n := 22) (j := y) L.c0.c1 (ix_nI (by omega) (by decide)) dX9_gives_21 rfl ?_
    rw [(h.1.2 y hy).2.1]
    refine v_istore_n (n := 23) (al' := [.ref v, .int (nI y), .int (X (76 + 4 * y + 1)), JJ, JJ]) dX9_gives_22 rfl rfl rfl rfl ?_
    refine v_aload_n (n := 24) dX9_gives_23 rfl rfl rfl ?_
    refine v_getR (n := 27) f_X9_27 rfl L.s L.g2 dX9_gives_24 rfl ?_
    refine v_iconst (n := 28) (v := 1) dX9_gives_27 c_1 rfl ?_
    refine v_aald (n := 29) (t := 4) (j := 1) ⟨by decide, by decide⟩ L.c2 (ix_lit rfl rfl rfl) (law_none (by decide) h.2.2.2.1 hc) dX9_gives_28 rfl ?_
    refine v_astore_nN (n := 30) (al' := [.ref v, .int (nI y), .int (X (76 + 4 * y + 1)), .null, JJ]) dX9_gives_29 rfl rfl rfl rfl ?_
    refine v_aload_nN (n := 31) dX9_gives_30 rfl rfl rfl ?_
    refine v_ifnonnullN (n := 34) dX9_gives_31 rfl ?_
    refine v_iload_n (n := 35) dX9_gives_34 rfl rfl rfl ?_
    refine v_iconst (n := 36) (v := 2) dX9_gives_35 c_2 rfl ?_
    refine v_idiv (n := 37) dX9_gives_36 (by decide) rfl ?_
    refine v_goto (tgt := 60) dX9_gives_37 (by decide) ?_
    refine v_istore (n := 62) (al' := [.ref v, .int (nI y), .int (X (76 + 4 * y + 1)), .null, .int ((X (76 + 4 * y + 1)) / 2)]) dX9_gives_60 rfl rfl rfl ?_
    refine v_aload_n (n := 63) dX9_gives_62 rfl rfl rfl ?_
    refine v_getR (n := 66) f_X9_12 rfl L.s L.g0 dX9_gives_63 rfl ?_
    refine v_getR (n := 69) f_X9_83 rfl L.c0.s L.c0.g0 dX9_gives_66 rfl ?_
    refine v_iload_n (n := 70) dX9_gives_69 rfl rfl rfl ?_
    refine v_iald (n := 71) (j := y) L.c0.c0 (ix_nI (by omega) (by decide)) dX9_gives_70 rfl ?_
    rw [(h.1.2 y hy).1]
    refine v_iload (n := 73) dX9_gives_71 rfl rfl ?_
    refine v_iload_n (n := 74) dX9_gives_73 rfl rfl rfl ?_
    refine v_cSi (n := 77) (x := (kGift (X (76 + 4 * y)) ((X (76 + 4 * y + 1)) / 2) (X (76 + 4 * y + 1)))) mc_X1_gift l_X9_86 sta_X1_gift k_X1_gift ⟨rfl, rfl⟩ (l8 rfl) ⟨l8 rfl, l8 rfl⟩ rfl rfl (l8 rfl) dX9_gives_74 rfl ?_
    refine v_iret rfl ⟨?_, rfl, Eqx.rf⟩ ⟨l8 rfl, l8 rfl⟩ dX9_gives_77
    have e : plainX X T l y = nI (s / 2) := by
      rw [plainX, txt, if_pos hc, es, div2 (by omega), win_min (by omega) (by omega), Nat.min_eq_left (by omega)]
    rw [givesX, e, es, div2 (by omega), gift_eq hs (by omega)]
  · exact absurd hq8 (by rw [h.1.1, rHas_t hy hn10]; decide)

set_option maxRecDepth 100000 in
set_option maxHeartbeats 1000000 in
theorem k2_X9_gives {ro : Ro} {S : St} {I : In} {v B T n l : Nat} {X : Ar} {mv : Int32} {lw : Nat → Nat} (L : LayV S v) (h : VR S I v B X mv T n l lw) (hT : T ≤ 14) (hvB : v + 11 ≤ B) {y s : Nat} (hy : y < n) (hn10 : n ≤ 10) (hs : s ≤ 999) (es : X (76 + 4 * y + 1) = nI s) (hc : ¬ cnt X 1 T < 0) {t n0 na c : Nat} (G : lawG S I B X T 1 (v + 10) t n0 na c) : Ok mX9_gives ro 2 0 0 [.ref v, .int (nI y)] S I (fun r S' I' => r = some (.int (givesX X T l y)) ∧ S' = S ∧ Eqx (stk B) I I') := by
  refine ok_of (al := [.ref v, .int (nI y), JJ, JJ, JJ]) (by decide) (l8 rfl) rfl ?_
  refine v_aload_n (n := 1) dX9_gives_0 rfl rfl rfl ?_
  refine v_getR (n := 4) f_X9_12 rfl L.s L.g0 dX9_gives_1 rfl ?_
  refine v_iload_n (n := 5) dX9_gives_4 rfl rfl rfl ?_
  refine v_cVi (n := 8) (x := (bi (rHas (I (v + 1) 4) (nI y)))) mc_X5_has l_X9_75 iv_X5_has se_X5_has (ci := 4) ⟨by decide, rfl⟩ L.c0.s (k_X5_has L.c0) ⟨rfl, rfl⟩ (l8 rfl) ⟨l8 rfl, l8 rfl⟩ rfl rfl (l8 rfl) dX9_gives_5 rfl ?_
  refine v_if_ne (n := 11) (tgt := 13) dX9_gives_8 (by decide) rfl (fun hq8 => ?_) (fun hq8 => ?_)
  · refine v_aload_n (n := 14) dX9_gives_13 rfl rfl rfl ?_
    refine v_getR (n := 17) f_X9_12 rfl L.s L.g0 dX9_gives_14 rfl ?_
    refine v_getR (n := 20) f_X9_79 rfl L.c0.s L.c0.g1 dX9_gives_17 rfl ?_
    refine v_iload_n (n := 21) dX9_gives_20 rfl rfl rfl ?_
    refine v_iald (n := 22) (j := y) L.c0.c1 (ix_nI (by omega) (by decide)) dX9_gives_21 rfl ?_
    rw [(h.1.2 y hy).2.1]
    refine v_istore_n (n := 23) (al' := [.ref v, .int (nI y), .int (X (76 + 4 * y + 1)), JJ, JJ]) dX9_gives_22 rfl rfl rfl rfl ?_
    refine v_aload_n (n := 24) dX9_gives_23 rfl rfl rfl ?_
    refine v_getR (n := 27) f_X9_27 rfl L.s L.g2 dX9_gives_24 rfl ?_
    refine v_iconst (n := 28) (v := 1) dX9_gives_27 c_1 rfl ?_
    refine v_aald (n := 29) (t := 4) (j := 1) ⟨by decide, by decide⟩ L.c2 (ix_lit rfl rfl rfl) G.2.2.1 dX9_gives_28 rfl ?_
    refine v_astore_n (n := 30) (al' := [.ref v, .int (nI y), .int (X (76 + 4 * y + 1)), .ref ((c + 1)), JJ]) dX9_gives_29 rfl rfl rfl rfl ?_
    refine v_aload_n (n := 31) dX9_gives_30 rfl rfl rfl ?_
    refine v_ifnonnull (tgt := 40) dX9_gives_31 (by decide) ?_
    refine v_aload_n (n := 41) dX9_gives_40 rfl rfl rfl ?_
    refine v_aload_n (n := 42) dX9_gives_41 rfl rfl rfl ?_
    refine v_getR (n := 45) f_X9_21 rfl L.s L.g1 dX9_gives_42 rfl ?_
    refine v_getI (n := 48) f_X9_61 rfl L.c1.s dX9_gives_45 rfl ?_
    rw [h.2.1.1.2.1]
    refine v_iload_n (n := 49) dX9_gives_48 rfl rfl rfl ?_
    refine v_aload_n (n := 50) dX9_gives_49 rfl rfl rfl ?_
    refine v_getI (n := 53) f_X9_35 rfl L.s dX9_gives_50 rfl ?_
    rw [h.2.2.1.2.1]
    refine v_callV (n := 56) mc_X2_value l_X9_67 iv_X2_value se_X2_value (ci := 1) ⟨by decide, rfl⟩ G.2.2.2.1.s (k_X2_value (key := 1) G.2.2.2.1 G.2.2.2.2.1 (by decide) G.2.2.2.2.2.1) ⟨rfl, rfl⟩ (l8 rfl) ⟨l8 rfl, l8 rfl⟩ rfl rfl (l8 rfl) dX9_gives_53 rfl ?_
    rintro _ _ J ⟨rfl, rfl, hE⟩
    have hE : Eqx (stk B) I J := hE.mono (fun a q => by rw [q]; exact G.2.2.2.2.2.2.2.2.1)
    refine v_iload_n (n := 57) dX9_gives_56 rfl rfl rfl ?_
    refine v_cSNi (n := 60) (x := (mx 0 (mn (X (76 + 4 * y + 1)) ((wkL (fun j => X (144 + 96 * t + j)) (faC 1 (wS X l) (X (76 + 4 * y + 1)) (X 2)) n0).headD 0)))) (host := "SnowOwed") mc_X10_held (by decide) sta_X10_held k_X10_held ⟨rfl, rfl⟩ (l8 rfl) ⟨l8 rfl, l8 rfl⟩ rfl rfl (l8 rfl) dX9_gives_57 rfl ?_
    refine v_istore (n := 62) (al' := [.ref v, .int (nI y), .int (X (76 + 4 * y + 1)), .ref ((c + 1)), .int (mx 0 (mn (X (76 + 4 * y + 1)) ((wkL (fun j => X (144 + 96 * t + j)) (faC 1 (wS X l) (X (76 + 4 * y + 1)) (X 2)) n0).headD 0)))]) dX9_gives_60 rfl rfl rfl ?_
    refine v_aload_n (n := 63) dX9_gives_62 rfl rfl rfl ?_
    refine v_getR (n := 66) f_X9_12 rfl L.s L.g0 dX9_gives_63 rfl ?_
    refine v_getR (n := 69) f_X9_83 rfl L.c0.s L.c0.g0 dX9_gives_66 rfl ?_
    refine v_iload_n (n := 70) dX9_gives_69 rfl rfl rfl ?_
    refine v_iald (n := 71) (j := y) L.c0.c0 (ix_nI (by omega) (by decide)) dX9_gives_70 rfl ?_
    rw [hE (v + 2) (fun q => by unfold stk at q; omega), (h.1.2 y hy).1]
    refine v_iload (n := 73) dX9_gives_71 rfl rfl ?_
    refine v_iload_n (n := 74) dX9_gives_73 rfl rfl rfl ?_
    refine v_cSi (n := 77) (x := (kGift (X (76 + 4 * y)) (mx 0 (mn (X (76 + 4 * y + 1)) ((wkL (fun j => X (144 + 96 * t + j)) (faC 1 (wS X l) (X (76 + 4 * y + 1)) (X 2)) n0).headD 0))) (X (76 + 4 * y + 1)))) mc_X1_gift l_X9_86 sta_X1_gift k_X1_gift ⟨rfl, rfl⟩ (l8 rfl) ⟨l8 rfl, l8 rfl⟩ rfl rfl (l8 rfl) dX9_gives_74 rfl ?_
    refine v_iret rfl ⟨?_, rfl, hE⟩ ⟨l8 rfl, l8 rfl⟩ dX9_gives_77
    have ht := G.1
    have e : plainX X T l y = mx 0 (mn (X (76 + 4 * y + 1)) ((wkL (fun j => X (144 + 96 * t + j)) (faC 1 (wS X l) (X (76 + 4 * y + 1)) (X 2)) n0).headD 0)) := by
      rw [held_win (by rw [es]; exact nI_nlt0 (by omega)), plainX, txt, if_neg hc, show cnt X 1 T = nI t from G.2.1, nI_clamp (by omega), wkO_eq (fa := faC 1 (wS X l) (X (76 + 4 * y + 1)) (X 2)) (fb := fa3 (X (76 + 4 * y + 1)) (wS X l) (X 2)) G.2.2.2.2.2.2.1 G.2.2.2.2.2.2.2.1 G.2.2.2.2.1 (fun _ _ => rfl)]
    obtain ⟨q, hq, eq⟩ : ∃ q, q ≤ s ∧ plainX X T l y = nI q := by rw [plainX, es]; exact win_rng _ (by omega)
    rw [← e, givesX, eq, es, gift_eq hs hq]
  · exact absurd hq8 (by rw [h.1.1, rHas_t hy hn10]; decide)

theorem k_X9_gives {ro : Ro} {S : St} {I : In} {v B T n l : Nat} {X : Ar} {mv : Int32} {lw : Nat → Nat} (L : LayV S v) (h : VR S I v B X mv T n l lw) (hT : T ≤ 14) (hvB : v + 11 ≤ B) {y s : Nat} (hy : y < n) (hn10 : n ≤ 10) (hs : s ≤ 999) (es : X (76 + 4 * y + 1) = nI s) : Ok mX9_gives ro 2 0 0 [.ref v, .int (nI y)] S I (fun r S' I' => r = some (.int (givesX X T l y)) ∧ S' = S ∧ Eqx (stk B) I I') := by
  by_cases hc : cnt X 1 T < 0
  · exact k1_X9_gives L h hT hvB hy hn10 hs es hc
  · obtain ⟨t, n0, na, c, G⟩ := law_get (k := 1) (by decide) hT h.2.2.2.1 h.2.2.2.2 hc
    exact k2_X9_gives L h hT hvB hy hn10 hs es hc G

set_option maxRecDepth 100000 in
set_option maxHeartbeats 1000000 in
theorem k1_X9_fineOf {ro : Ro} {S : St} {I : In} {v B T n l : Nat} {X : Ar} {mv : Int32} {lw : Nat → Nat} (L : LayV S v) (h : VR S I v B X mv T n l lw) (hT : T ≤ 14) {y : Nat} (hy : y < n) (hn10 : n ≤ 10) (hc : cnt X 2 T < 0) : Ok mX9_fineOf ro 2 0 0 [.ref v, .int (nI y)] S I (fun r S' I' => r = some (.int (txt X T 2 (fa3 (wS X l) (X (76 + 4 * y + 3)) 0) (X (76 + 4 * y + 3)))) ∧ S' = S ∧ Eqx (stk B) I I') := by
  refine ok_of (al := [.ref v, .int (nI y), JJ]) (by decide) (l8 rfl) rfl ?_
  refine v_aload_n (n := 1) dX9_fineOf_0 rfl rfl rfl ?_
  refine v_getR (n := 4) f_X9_12 rfl L.s L.g0 dX9_fineOf_1 rfl ?_
  refine v_iload_n (n := 5) dX9_fineOf_4 rfl rfl rfl ?_
  refine v_cVi (n := 8) (x := (bi (rHas (I (v + 1) 4) (nI y)))) mc_X5_has l_X9_75 iv_X5_has se_X5_has (ci := 4) ⟨by decide, rfl⟩ L.c0.s (k_X5_has L.c0) ⟨rfl, rfl⟩ (l8 rfl) ⟨l8 rfl, l8 rfl⟩ rfl rfl (l8 rfl) dX9_fineOf_5 rfl ?_
  refine v_if_ne (n := 11) (tgt := 13) dX9_fineOf_8 (by decide) rfl (fun hq8 => ?_) (fun hq8 => ?_)
  · refine v_aload_n (n := 14) dX9_fineOf_13 rfl rfl rfl ?_
    refine v_getR (n := 17) f_X9_27 rfl L.s L.g2 dX9_fineOf_14 rfl ?_
    refine v_iconst (n := 18) (v := 2) dX9_fineOf_17 c_2 rfl ?_
    refine v_aald (n := 19) (t := 4) (j := 2) ⟨by decide, by decide⟩ L.c2 (ix_lit rfl rfl rfl) (law_none (by decide) h.2.2.2.1 hc) dX9_fineOf_18 rfl ?_
    refine v_astore_nN (n := 20) (al' := [.ref v, .int (nI y), .null]) dX9_fineOf_19 rfl rfl rfl rfl ?_
    refine v_aload_nN (n := 21) dX9_fineOf_20 rfl rfl rfl ?_
    refine v_ifnonnullN (n := 24) dX9_fineOf_21 rfl ?_
    refine v_aload_n (n := 25) dX9_fineOf_24 rfl rfl rfl ?_
    refine v_getR (n := 28) f_X9_12 rfl L.s L.g0 dX9_fineOf_25 rfl ?_
    refine v_getR (n := 31) f_X9_91 rfl L.c0.s L.c0.g3 dX9_fineOf_28 rfl ?_
    refine v_iload_n (n := 32) dX9_fineOf_31 rfl rfl rfl ?_
    refine v_iald (n := 33) (j := y) L.c0.c3 (ix_nI (by omega) (by decide)) dX9_fineOf_32 rfl ?_
    rw [(h.1.2 y hy).2.2.2]
    refine v_goto (tgt := 57) dX9_fineOf_33 (by decide) ?_
    refine v_iret rfl ⟨?_, rfl, Eqx.rf⟩ ⟨l8 rfl, l8 rfl⟩ dX9_fineOf_57
    rw [txt, if_pos hc]
  · exact absurd hq8 (by rw [h.1.1, rHas_t hy hn10]; decide)

set_option maxRecDepth 100000 in
set_option maxHeartbeats 1000000 in
theorem k2_X9_fineOf {ro : Ro} {S : St} {I : In} {v B T n l : Nat} {X : Ar} {mv : Int32} {lw : Nat → Nat} (L : LayV S v) (h : VR S I v B X mv T n l lw) (hT : T ≤ 14) {y : Nat} (hy : y < n) (hn10 : n ≤ 10) (hc : ¬ cnt X 2 T < 0) {t n0 na c : Nat} (G : lawG S I B X T 2 (v + 10) t n0 na c) : Ok mX9_fineOf ro 2 0 0 [.ref v, .int (nI y)] S I (fun r S' I' => r = some (.int (txt X T 2 (fa3 (wS X l) (X (76 + 4 * y + 3)) 0) (X (76 + 4 * y + 3)))) ∧ S' = S ∧ Eqx (stk B) I I') := by
  refine ok_of (al := [.ref v, .int (nI y), JJ]) (by decide) (l8 rfl) rfl ?_
  refine v_aload_n (n := 1) dX9_fineOf_0 rfl rfl rfl ?_
  refine v_getR (n := 4) f_X9_12 rfl L.s L.g0 dX9_fineOf_1 rfl ?_
  refine v_iload_n (n := 5) dX9_fineOf_4 rfl rfl rfl ?_
  refine v_cVi (n := 8) (x := (bi (rHas (I (v + 1) 4) (nI y)))) mc_X5_has l_X9_75 iv_X5_has se_X5_has (ci := 4) ⟨by decide, rfl⟩ L.c0.s (k_X5_has L.c0) ⟨rfl, rfl⟩ (l8 rfl) ⟨l8 rfl, l8 rfl⟩ rfl rfl (l8 rfl) dX9_fineOf_5 rfl ?_
  refine v_if_ne (n := 11) (tgt := 13) dX9_fineOf_8 (by decide) rfl (fun hq8 => ?_) (fun hq8 => ?_)
  · refine v_aload_n (n := 14) dX9_fineOf_13 rfl rfl rfl ?_
    refine v_getR (n := 17) f_X9_27 rfl L.s L.g2 dX9_fineOf_14 rfl ?_
    refine v_iconst (n := 18) (v := 2) dX9_fineOf_17 c_2 rfl ?_
    refine v_aald (n := 19) (t := 4) (j := 2) ⟨by decide, by decide⟩ L.c2 (ix_lit rfl rfl rfl) G.2.2.1 dX9_fineOf_18 rfl ?_
    refine v_astore_n (n := 20) (al' := [.ref v, .int (nI y), .ref ((c + 1))]) dX9_fineOf_19 rfl rfl rfl rfl ?_
    refine v_aload_n (n := 21) dX9_fineOf_20 rfl rfl rfl ?_
    refine v_ifnonnull (tgt := 36) dX9_fineOf_21 (by decide) ?_
    refine v_aload_n (n := 37) dX9_fineOf_36 rfl rfl rfl ?_
    refine v_aload_n (n := 38) dX9_fineOf_37 rfl rfl rfl ?_
    refine v_getR (n := 41) f_X9_21 rfl L.s L.g1 dX9_fineOf_38 rfl ?_
    refine v_getI (n := 44) f_X9_61 rfl L.c1.s dX9_fineOf_41 rfl ?_
    rw [h.2.1.1.2.1]
    refine v_aload_n (n := 45) dX9_fineOf_44 rfl rfl rfl ?_
    refine v_getR (n := 48) f_X9_12 rfl L.s L.g0 dX9_fineOf_45 rfl ?_
    refine v_getR (n := 51) f_X9_91 rfl L.c0.s L.c0.g3 dX9_fineOf_48 rfl ?_
    refine v_iload_n (n := 52) dX9_fineOf_51 rfl rfl rfl ?_
    refine v_iald (n := 53) (j := y) L.c0.c3 (ix_nI (by omega) (by decide)) dX9_fineOf_52 rfl ?_
    rw [(h.1.2 y hy).2.2.2]
    refine v_iconst (n := 54) (v := 0) dX9_fineOf_53 c_0 rfl ?_
    refine v_callV (n := 57) mc_X2_value l_X9_67 iv_X2_value se_X2_value (ci := 1) ⟨by decide, rfl⟩ G.2.2.2.1.s (k_X2_value (key := 2) G.2.2.2.1 G.2.2.2.2.1 (by decide) G.2.2.2.2.2.1) ⟨rfl, rfl⟩ (l8 rfl) ⟨l8 rfl, l8 rfl⟩ rfl rfl (l8 rfl) dX9_fineOf_54 rfl ?_
    rintro _ _ J ⟨rfl, rfl, hE⟩
    have hE : Eqx (stk B) I J := hE.mono (fun a q => by rw [q]; exact G.2.2.2.2.2.2.2.2.1)
    refine v_iret rfl ⟨?_, rfl, hE⟩ ⟨l8 rfl, l8 rfl⟩ dX9_fineOf_57
    have ht := G.1
    rw [txt, if_neg hc, show cnt X 2 T = nI t from G.2.1, nI_clamp (by omega), wkO_eq (fa := faC 2 (wS X l) (X (76 + 4 * y + 3)) 0) (fb := fa3 (wS X l) (X (76 + 4 * y + 3)) 0) G.2.2.2.2.2.2.1 G.2.2.2.2.2.2.2.1 G.2.2.2.2.1 (fun _ _ => rfl)]
  · exact absurd hq8 (by rw [h.1.1, rHas_t hy hn10]; decide)

theorem k_X9_fineOf {ro : Ro} {S : St} {I : In} {v B T n l : Nat} {X : Ar} {mv : Int32} {lw : Nat → Nat} (L : LayV S v) (h : VR S I v B X mv T n l lw) (hT : T ≤ 14) {y : Nat} (hy : y < n) (hn10 : n ≤ 10) : Ok mX9_fineOf ro 2 0 0 [.ref v, .int (nI y)] S I (fun r S' I' => r = some (.int (txt X T 2 (fa3 (wS X l) (X (76 + 4 * y + 3)) 0) (X (76 + 4 * y + 3)))) ∧ S' = S ∧ Eqx (stk B) I I') := by
  by_cases hc : cnt X 2 T < 0
  · exact k1_X9_fineOf L h hT hy hn10 hc
  · obtain ⟨t, n0, na, c, G⟩ := law_get (k := 2) (by decide) hT h.2.2.2.1 h.2.2.2.2 hc
    exact k2_X9_fineOf L h hT hy hn10 hc G

