/-! ===== Village.passDay ===== -/
def vfr (v B a : Nat) : Prop := blk v 11 a ∨ stk B a
theorem dpt_cong {c d : Ar} {n : Nat} (he : ∀ j, j < n → d j = c j) : ∀ k, k ≤ n → dpt d k = dpt c k
  | 0, _ => rfl
  | k + 1, hk => by rw [dpt, dpt, he k (by omega), dpt_cong he k (by omega)]
theorem WFT.cong {c d : Ar} {nf n na : Nat} (h : WFT c nf n na) (he : ∀ j, j < 96 → d j = c j) : WFT d nf n na := by
  have hn := h.2.2.1
  have e := dpt_cong (c := c) (d := d) (n := n) (fun j hj => he j (by omega))
  refine ⟨fun k hk => ?_, by rw [e n (Nat.le_refl _)]; exact h.2.1, hn, fun k hk => by rw [e k hk]; exact h.2.2.2.1 k hk, h.2.2.2.2⟩
  rw [he k (by omega), e k (by omega)]
  exact h.1 k hk
theorem LwR.cong {S : St} {I : In} {B T : Nat} {X Y : Ar} {lw : Nat → Nat} (h : LwR S I B X T lw) (he : ∀ j, 116 ≤ j → j < 1488 → Y j = X j) (hT : T ≤ 14) : LwR S I B Y T lw := by
  intro t ht
  obtain ⟨key, n, na, i, a1, a2, a3, a4, a5, a6, a7, a8, a9, b1, b2⟩ := h t ht
  have e : ∀ j, j < 96 → Y (144 + 96 * t + j) = X (144 + 96 * t + j) := fun j hj => he _ (by omega) (by omega)
  refine ⟨key, n, na, i, a1, a2, a3, a4, a5, a6, fun k hk => ?_, ?_, ?_, b1, b2.cong e⟩
  · rw [e k (by omega)]; exact a7 k hk
  · rw [he _ (by omega) (by omega)]; exact a8
  · rw [he _ (by omega) (by omega)]; exact a9
theorem CtR.cong {S : St} {g T : Nat} {X Y : Ar} {lw : Nat → Nat} (h : CtR S g X T lw) (he : ∀ k, k < 3 → cnt Y (nI k) T = cnt X (nI k) T) : CtR S g Y T lw := fun k hk => by rw [he k hk]; exact h k hk
theorem cnt_cong2 {X Y : Ar} {k : Int32} : ∀ T, (∀ t, t < T → Y (116 + 2 * t) = X (116 + 2 * t)) → cnt Y k T = cnt X k T
  | 0, _ => rfl
  | T + 1, h => by rw [cnt, cnt, h T (by omega), cnt_cong2 T (fun t ht => h t (by omega))]
theorem VR.law {S : St} {I : In} {v B T n l : Nat} {X : Ar} {mv : Int32} {lw : Nat → Nat} (h : VR S I v B X mv T n l lw) : CtR S (v + 10) X T lw ∧ LwR S I B X T lw := h.2.2.2
theorem VR.mk {S : St} {I J : In} {v B T n l l0 : Nat} {X Y : Ar} {mv mv0 : Int32} {lw : Nat → Nat} (h : VR S I v B X mv0 T n l0 lw) (hE : Eqx (vfr v B) I J) (hvB : v + 11 ≤ B) (hT : T ≤ 14) (he : ∀ j, 116 ≤ j → j < 1488 → Y j = X j) (hr : RgR J (v + 1) Y n) (hb : BlR J (v + 6) Y l) (hv : VlR J v Y mv) : VR S J v B Y mv T n l lw :=
  ⟨hr, hb, hv, h.2.2.2.1.cong (fun k _ => cnt_cong2 T (fun t ht => he _ (by omega) (by omega))), (h.2.2.2.2.cong he hT).eqx hE (fun a q => q.elim (fun z => Or.inl (by unfold blk at z; omega)) Or.inr)⟩
theorem RgR.cong {J : In} {r n : Nat} {X Y : Ar} (h : RgR J r X n) (he : ∀ j, 76 ≤ j → j < 76 + 4 * n → Y j = X j) : RgR J r Y n := ⟨h.1, fun y hy => by rw [he _ (by omega) (by omega), he _ (by omega) (by omega), he _ (by omega) (by omega), he _ (by omega) (by omega)]; exact h.2 y hy⟩
theorem BlR.mv {I J : In} {b l : Nat} {X Y : Ar} (h : BlR I b X l) (hl : l ≤ 30) (e0 : ∀ j, j ≠ 5 → J b j = I b j) (e5 : J b 5 = Y 6) (e1 : J (b + 1) = I (b + 1)) (e2 : J (b + 2) = I (b + 2)) (e3 : J (b + 3) = I (b + 3)) (he : ∀ j, 8 ≤ j → j < 76 → Y j = X j) : BlR J b Y l := by
  refine ⟨⟨by rw [e0 3 (by decide)]; exact h.1.1, ?_, e5, ?_⟩, fun i hi => ?_, fun t ht => ?_⟩
  · rw [e0 4 (by decide), wS_cong (X := X) (Y := Y) l (fun i hi => he _ (by omega) (by omega))]; exact h.1.2.1
  · rw [e0 6 (by decide), he 8 (by decide) (by decide)]; exact h.1.2.2.2
  · rw [e1, e2, he _ (by omega) (by omega), he _ (by omega) (by omega)]; exact h.2.1 i hi
  · rw [e3, he _ (by omega) (by omega)]; exact h.2.2 t ht
theorem d2_0 {X : Ar} {T n l b : Nat} (h : WX X T n l b) (hb : b < 2 ^ 30) : dy2 X l 0 = drawZ (X 0) := by
  obtain ⟨w, hw, h3⟩ := h.2.2.2.2.2.2.2.1
  obtain ⟨a, ha, ea⟩ := dyT_rng (p := pl X) hw h3
  obtain ⟨l', -, -, -, q⟩ := thaw_spec l (upd X 0 (drawZ (X 0))) a b h.2.2.2.1 (by omega) hb (by rw [pk_un (by decide)]; exact h.2.2.1) (h.2.2.2.2.2.1.cong (fun i hi => pk_un (by omega)))
  rw [dy2, ea, q 0 (by decide) (by decide) (by decide) (by decide), pk_us]
theorem d4_0 {X : Ar} {T n l b p : Nat} (h : WX X T n l b) (hb : b < 2 ^ 30) (hp : p < n) (h6 : X 6 = nI p) : dy4 X T l 0 = drawZ (X 0) := by
  obtain ⟨l2, g1, g2, g3, g4, g5, g6⟩ := d2_spec h hb
  have hn := h.2.1
  have hpl : pl X = p := by rw [pl, h6, nI_clamp (by omega)]
  obtain ⟨s, hs, es⟩ := (h.2.2.2.2.2.2.2.2.2 p hp).2
  obtain ⟨k, hk, ek⟩ := gives_rng (X := dy2 X l) (T := T) (l := l2) (y := p) hs ((g6 _ (by omega) (by omega) (by omega) (by omega) (by omega)).trans es)
  unfold dy4
  rw [hpl, g3, ek]
  have e3 : dy3 X T l 0 = drawZ (X 0) := by rw [dy3, pk_un (by omega)]; exact d2_0 h hb
  split
  · rename_i hq
    have hk1 := gt0 hq (by omega)
    obtain ⟨l', -, -, -, q⟩ := pack_spec (X := dy3 X T l) (l := l2) (b := b) (k := k) (y := X 6) g1 (by rw [dy3, pk_un (by omega)]; exact g2) (g5.cong (fun i hi => by rw [dy3, pk_un (by omega)])) hk1
    rw [q 0 (by decide) (by decide)]; exact e3
  · exact e3
theorem sn_val {X : Ar} : ∀ n y, y < n → snX X n (76 + 4 * y + 1) = win (X (76 + 4 * y + 1) + X 4) 0 999
  | 0, y, h => absurd h (by omega)
  | n + 1, y, h => by
    rw [snX]
    by_cases q : y = n
    · subst q; rw [pk_us]
    · rw [pk_un (by omega)]; exact sn_val n y (by omega)
theorem sn_rel {J : In} {r n : Nat} {X : Ar} {f : Nat} (h : RgR J r X n) (hn : n ≤ 10) (h4 : X 4 = nI f) (hf : f ≤ 99) (hs : ∀ y, y < n → ∃ s, s ≤ 999 ∧ X (76 + 4 * y + 1) = nI s) : RgR (uP J (r + 2) (fun j => mn 999 (J (r + 2) j + X 4)) n) r (snX X n) n := by
  refine ⟨by rw [uP_o (by omega)]; exact h.1, fun y hy => ?_⟩
  obtain ⟨e1, e2, e3, e4⟩ := h.2 y hy
  refine ⟨?_, ?_, ?_, ?_⟩
  · rw [uP_o (by omega), sn_o n (by omega)]; exact e1
  · rw [uP_in hy, e2]
    obtain ⟨s, h1, h2⟩ := hs y hy
    rw [sn_val n y hy, h2, h4, nI_add]
    exact mn_win (a := s + f) (b := 999) (by omega) (by decide)
  · rw [uP_o (by omega), sn_o n (by omega)]; exact e3
  · rw [uP_o (by omega), sn_o n (by omega)]; exact e4

set_option maxRecDepth 100000 in
set_option maxHeartbeats 1000000 in
theorem k0_X9_passDay {ro : Ro} {S : St} {I : In} {v B T n l b : Nat} {X : Ar} {mv : Int32} {lw : Nat → Nat} (L : LayV S v) (h : VR S I v B X mv T n l lw) (hW : WX X T n l b) (hb : b + 999 < 2 ^ 30) (hmv : -10 ≤ mv.toInt ∧ mv.toInt ≤ 10) (hvB : v + 11 ≤ B) (hn0 : n = 0) : Ok mX9_passDay ro 4 0 0 [.ref v] S I (fun r S' I' => r = some (.int (dayN X T n l mv)) ∧ S' = S ∧ VR S I' v B (dayX X T n l mv) mv T n (ln (dayX X T n l mv)) lw ∧ Eqx (vfr v B) I I') := by
  have hn10 := hW.2.1
  have hl30 := hW.2.2.2.1
  have hT14 := hW.2.2.2.2.1.2.1
  obtain ⟨p, h6, hp⟩ := hW.2.2.2.2.2.2.1
  have hp0 : p = 0 := by omega
  refine ok_of (al := [.ref v, JJ, JJ, JJ, JJ]) (by decide) (l8 rfl) rfl ?_
  refine v_iconst (n := 1) (v := 0) dX9_passDay_0 c_0 rfl ?_
  refine v_istore_n (n := 2) (al' := [.ref v, .int 0, JJ, JJ, JJ]) dX9_passDay_1 rfl rfl rfl rfl ?_
  refine v_aload_n (n := 3) dX9_passDay_2 rfl rfl rfl ?_
  refine v_getR (n := 6) f_X9_12 rfl L.s L.g0 dX9_passDay_3 rfl ?_
  refine v_aload_n (n := 7) dX9_passDay_6 rfl rfl rfl ?_
  refine v_getR (n := 10) f_X9_21 rfl L.s L.g1 dX9_passDay_7 rfl ?_
  refine v_getI (n := 13) f_X9_98 rfl L.c1.s dX9_passDay_10 rfl ?_
  rw [h.2.1.1.2.2.1, h6]
  refine v_cVi (n := 16) (x := (bi (rHas (I (v + 1) 4) (nI p)))) mc_X5_has l_X9_75 iv_X5_has se_X5_has (ci := 4) ⟨by decide, rfl⟩ L.c0.s (k_X5_has L.c0) ⟨rfl, rfl⟩ (l8 rfl) ⟨l8 rfl, l8 rfl⟩ rfl rfl (l8 rfl) dX9_passDay_13 rfl ?_
  refine v_if_eq (n := 19) (tgt := 137) dX9_passDay_16 (by decide) rfl (fun hq16 => ?_) (fun hq16 => ?_)
  · refine v_aload_n (n := 138) dX9_passDay_137 rfl rfl rfl ?_
    refine v_dup (n := 139) dX9_passDay_138 rfl rfl ?_
    refine v_getI (n := 142) f_X9_35 rfl L.s dX9_passDay_139 rfl ?_
    refine v_iconst (n := 143) (v := 1) dX9_passDay_142 c_1 rfl ?_
    refine v_iadd (n := 144) dX9_passDay_143 rfl ?_
    refine v_putI (n := 147) f_X9_35 rfl (Or.inl rfl) L.s dX9_passDay_144 rfl ?_
    refine v_iload_n (n := 148) dX9_passDay_147 rfl rfl rfl ?_
    have hXd : dayX X T n l mv = upd X 2 (X 2 + 1) := if_pos hn0
    have hln : ln (dayX X T n l mv) = l := by rw [hXd, ln, pk_un (by decide), hW.2.2.1, nI_clamp (by omega)]
    refine v_iret rfl ⟨by rw [dayN, if_pos hn0], rfl, ?_, Eqx.rf.set (Or.inl (by unfold blk; omega))⟩ ⟨l8 rfl, l8 rfl⟩ dX9_passDay_148
    rw [hln, hXd]
    refine h.mk (Eqx.rf.set (Or.inl (by unfold blk; omega))) hvB hT14 (fun j hj _ => pk_un (by omega)) (h.1.set (by omega) (by decide)) (h.2.1.mv hl30 (fun j _ => by rw [sI_o (by omega)]) (by rw [sI_o (by omega), pk_un (by decide)]; exact h.2.1.1.2.2.1) (setI_ne (by omega)) (setI_ne (by omega)) (setI_ne (by omega)) (fun j hj _ => pk_un (by omega))) ?_
    obtain ⟨a1, a2, a3, a4, a5, a6⟩ := h.2.2.1
    exact ⟨by rw [sI_k (by decide), pk_un (by decide)]; exact a1, by rw [sI_s, pk_us, a2], by rw [sI_k (by decide), pk_un (by decide)]; exact a3, by rw [sI_k (by decide), pk_un (by decide)]; exact a4, by rw [sI_k (by decide)]; exact a5, by rw [sI_k (by decide), pk_un (by decide)]; exact a6⟩
  · exact absurd (by rw [h.1.1, hn0, hp0]; decide) hq16

theorem d4_3 {X : Ar} {T n l b p : Nat} (h : WX X T n l b) (hb : b < 2 ^ 30) (hp : p < n) (h6 : X 6 = nI p) : ∀ j, 76 ≤ j → dy4 X T l j = dy3 X T l j := by
  obtain ⟨l2, g1, g2, g3, g4, g5, g6⟩ := d2_spec h hb
  have hn := h.2.1
  have hpl : pl X = p := by rw [pl, h6, nI_clamp (by omega)]
  obtain ⟨s, hs, es⟩ := (h.2.2.2.2.2.2.2.2.2 p hp).2
  obtain ⟨k, hk, ek⟩ := gives_rng (X := dy2 X l) (T := T) (l := l2) (y := p) hs ((g6 _ (by omega) (by omega) (by omega) (by omega) (by omega)).trans es)
  intro j hj
  unfold dy4
  rw [hpl, g3, ek]
  split
  · rename_i hq
    have hk1 := gt0 hq (by omega)
    obtain ⟨l', -, -, -, q⟩ := pack_spec (X := dy3 X T l) (l := l2) (b := b) (k := k) (y := X 6) g1 (by rw [dy3, pk_un (by omega)]; exact g2) (g5.cong (fun i hi => by rw [dy3, pk_un (by omega)])) hk1
    exact q j (by omega) (by omega)
  · rfl
theorem d6_keep {X : Ar} {T n l b p : Nat} {mv : Int32} (h : WX X T n l b) (hb : b < 2 ^ 30) (hp : p < n) (h6 : X 6 = nI p) : (∀ j, j ≠ 6 → (j < 76 ∨ 116 ≤ j ∨ j % 4 < 2) → dy6 X T l mv j = dy4 X T l j) ∧ ∀ y, y < n → ∃ s, s ≤ 999 ∧ dy6 X T l mv (76 + 4 * y + 1) = nI s := by
  have hn10 := h.2.1
  obtain ⟨l4, q1, q2, q3, q4, q5, q6, s4, q7, q8⟩ := d4_spec h hb hp h6
  have f1 : dy4 X T l 1 = nI n := (q6 1 (by decide) (by decide) (by decide) (by decide) (by omega)).trans h.1
  have f6 : dy4 X T l 6 = nI p := (q6 6 (by decide) (by decide) (by decide) (by decide) (by omega)).trans h6
  obtain ⟨⟨p5, r1, r2⟩, r3⟩ := fw_spec (T := T) (l := ln (dy4 X T l)) f1 hn10 f6 hp (dyS X mv).toNatClampNeg
  obtain ⟨-, u3⟩ := bw_spec (T := T) (l := ln (dy4 X T l)) ((r3 1 (by decide) (by decide)).trans f1) hn10 r2 r1 (-(dyS X mv)).toNatClampNeg
  have e : ∀ j, j ≠ 6 → (j < 76 ∨ 116 ≤ j ∨ j % 4 < 2) → dy6 X T l mv j = dy4 X T l j := fun j j1 j2 => (u3 j j1 j2).trans (r3 j j1 j2)
  refine ⟨e, fun y hy => ?_⟩
  rw [e _ (by omega) (by omega)]
  by_cases c : y = p
  · subst c; exact ⟨s4, q7, q8⟩
  · rw [q6 _ (by omega) (by omega) (by omega) (by omega) (by omega)]; exact (h.2.2.2.2.2.2.2.2.2 y hy).2

set_option maxRecDepth 100000 in
set_option maxHeartbeats 1000000 in
theorem k1_X9_passDay {ro : Ro} {S : St} {I : In} {v B T n l b : Nat} {X : Ar} {mv : Int32} {lw : Nat → Nat} (L : LayV S v) (h : VR S I v B X mv T n l lw) (hW : WX X T n l b) (hb : b + 999 < 2 ^ 30) (hmv : -10 ≤ mv.toInt ∧ mv.toInt ≤ 10) (hvB : v + 11 ≤ B) (hn0 : 0 < n) : Ok mX9_passDay ro 4 0 0 [.ref v] S I (fun r S' I' => r = some (.int (dayN X T n l mv)) ∧ S' = S ∧ VR S I' v B (dayX X T n l mv) mv T n (ln (dayX X T n l mv)) lw ∧ Eqx (vfr v B) I I') := by
  have hn10 := hW.2.1
  have hl30 := hW.2.2.2.1
  have hT14 := hW.2.2.2.2.1.2.1
  obtain ⟨p, h6, hp⟩ := hW.2.2.2.2.2.2.1
  have hp : p < n := by omega
  have hpl : pl X = p := by rw [pl, h6, nI_clamp (by omega)]
  obtain ⟨w, hw, h3⟩ := hW.2.2.2.2.2.2.2.1
  obtain ⟨f, hf99, h4f⟩ := hW.2.2.2.2.2.2.2.2.1
  obtain ⟨a, ha, ea⟩ := dyT_rng (p := pl X) hw h3
  obtain ⟨l2, g1, g2, g3, g4, g5, g6⟩ := d2_spec hW (by omega)
  obtain ⟨l4, q1, q2, q3, q4, q5, q6, s4, q7, q8⟩ := d4_spec hW (by omega) hp h6
  obtain ⟨s, hs, es⟩ := (hW.2.2.2.2.2.2.2.2.2 p hp).2
  obtain ⟨k, hk, ek⟩ := gives_rng (X := dy2 X l) (T := T) (l := l2) (y := p) hs ((g6 _ (by omega) (by omega) (by omega) (by omega) (by omega)).trans es)
  refine ok_of (al := [.ref v, JJ, JJ, JJ, JJ]) (by decide) (l8 rfl) rfl ?_
  refine v_iconst (n := 1) (v := 0) dX9_passDay_0 c_0 rfl ?_
  refine v_istore_n (n := 2) (al' := [.ref v, .int 0, JJ, JJ, JJ]) dX9_passDay_1 rfl rfl rfl rfl ?_
  refine v_aload_n (n := 3) dX9_passDay_2 rfl rfl rfl ?_
  refine v_getR (n := 6) f_X9_12 rfl L.s L.g0 dX9_passDay_3 rfl ?_
  refine v_aload_n (n := 7) dX9_passDay_6 rfl rfl rfl ?_
  refine v_getR (n := 10) f_X9_21 rfl L.s L.g1 dX9_passDay_7 rfl ?_
  refine v_getI (n := 13) f_X9_98 rfl L.c1.s dX9_passDay_10 rfl ?_
  rw [h.2.1.1.2.2.1, h6]
  refine v_cVi (n := 16) (x := (bi (rHas (I (v + 1) 4) (nI p)))) mc_X5_has l_X9_75 iv_X5_has se_X5_has (ci := 4) ⟨by decide, rfl⟩ L.c0.s (k_X5_has L.c0) ⟨rfl, rfl⟩ (l8 rfl) ⟨l8 rfl, l8 rfl⟩ rfl rfl (l8 rfl) dX9_passDay_13 rfl ?_
  refine v_if_eq (n := 19) (tgt := 137) dX9_passDay_16 (by decide) rfl (fun hq16 => ?_) (fun hq16 => ?_)
  · exact absurd hq16 (by rw [h.1.1, rHas_t hp hn10]; decide)
  · refine v_aload_n (n := 20) dX9_passDay_19 rfl rfl rfl ?_
    refine v_getR (n := 23) f_X9_21 rfl L.s L.g1 dX9_passDay_20 rfl ?_
    refine v_getI (n := 26) f_X9_98 rfl L.c1.s dX9_passDay_23 rfl ?_
    rw [h.2.1.1.2.2.1, h6]
    refine v_istore_n (n := 27) (al' := [.ref v, .int 0, .int (nI p), JJ, JJ]) dX9_passDay_26 rfl rfl rfl rfl ?_
    refine v_aload_n (n := 28) dX9_passDay_27 rfl rfl rfl ?_
    refine v_aload_n (n := 29) dX9_passDay_28 rfl rfl rfl ?_
    refine v_getI (n := 32) f_X9_38 rfl L.s dX9_passDay_29 rfl ?_
    refine v_iconst (n := 33) (v := 1) dX9_passDay_32 c_1 rfl ?_
    refine v_iadd (n := 34) dX9_passDay_33 rfl ?_
    rw [h.2.2.1.2.2.1, h3, nI_1]
    refine v_cVi (n := 37) (x := (ushr (drawZ (I v 8)) 8 % nI (w + 1))) mc_X9_drawnRest l_X9_101 iv_X9_drawnRest se_X9_drawnRest (ci := 8) ⟨by decide, rfl⟩ L.s (k_X9_drawnRest L (nI_lt (a := 0) (b := w + 1) (by omega) (by omega))) ⟨rfl, rfl⟩ (l8 rfl) ⟨l8 rfl, l8 rfl⟩ rfl rfl (l8 rfl) dX9_passDay_34 rfl ?_
    obtain ⟨J1, hJ1⟩ : ∃ J9q : In, J9q = (setI I v 8 (drawZ (I v 8))) := ⟨_, rfl⟩
    rw [← hJ1]
    have hE01v : Eqx (fun a => a = v) I J1 := by rw [hJ1]; exact Eqx.rf.set rfl
    have hE01 : Eqx (vfr v B) I J1 := hE01v.mono (fun a q => Or.inl (by unfold blk; omega))
    have hB1 : BlR J1 (v + 6) (upd X 0 (drawZ (X 0))) l := (h.2.1.eqx hE01v (fun a q => by omega)).mv hl30 (fun _ _ => rfl) (by rw [pk_un (by decide), hE01v (v + 6) (by omega)]; exact h.2.1.1.2.2.1) rfl rfl rfl (fun j hj _ => pk_un (by omega))
    refine v_istore_n (n := 38) (al' := [.ref v, .int 0, .int (nI p), .int (ushr (drawZ (I v 8)) 8 % nI (w + 1)), JJ]) dX9_passDay_37 rfl rfl rfl rfl ?_
    refine v_aload_n (n := 39) dX9_passDay_38 rfl rfl rfl ?_
    refine v_getR (n := 42) f_X9_21 rfl L.s L.g1 dX9_passDay_39 rfl ?_
    refine v_aload_n (n := 43) dX9_passDay_42 rfl rfl rfl ?_
    refine v_getR (n := 46) f_X9_12 rfl L.s L.g0 dX9_passDay_43 rfl ?_
    refine v_getR (n := 49) f_X9_83 rfl L.c0.s L.c0.g0 dX9_passDay_46 rfl ?_
    refine v_iload_n (n := 50) dX9_passDay_49 rfl rfl rfl ?_
    refine v_iald (n := 51) (j := p) L.c0.c0 (ix_nI (by omega) (by decide)) dX9_passDay_50 rfl ?_
    rw [hE01v (v + 1 + 1) (by omega), (h.1.2 p hp).1]
    refine v_iconst (n := 52) (v := 5) dX9_passDay_51 c_5 rfl ?_
    refine v_icmp_ne (n := 55) (tgt := 61) dX9_passDay_52 (by decide) rfl (fun hq52 => ?_) (fun hq52 => ?_)
    · refine v_iload_n (n := 62) dX9_passDay_61 rfl rfl rfl ?_
      refine v_tp (y := nI a) (by rw [← ea, dyT, hpl, if_neg hq52, h3, nI_1, h.2.2.1.2.2.2.2.2]) ?_
      refine v_callV (n := 65) mc_X0_melt l_X9_105 iv_X0_melt se_X0_melt (ci := 0) ⟨by decide, rfl⟩ L.c1.s (k_X0_melt (l := l) (a := a) (p := p) (X := (upd X 0 (drawZ (X 0)))) L.c1 hB1 (by rw [pk_un (by decide)]; exact hW.2.2.1) hl30 (hW.2.2.2.2.2.1.cong (fun i hi => pk_un (by omega))) (by omega) (by omega) (by rw [pk_un (by decide)]; exact h6) (by omega)) ⟨rfl, rfl⟩ (l8 rfl) ⟨l8 rfl, l8 rfl⟩ rfl rfl (l8 rfl) dX9_passDay_62 rfl ?_
      rintro _ _ J2 ⟨rfl, hS9, l2q, hl2q, e7q, hB2, hE2⟩
      replace hS9 := hS9.symm
      subst hS9
      have hd2 : thawX (upd X 0 (drawZ (X 0))) (nI a) l = dy2 X l := by rw [dy2, ea]
      rw [hd2] at e7q hB2
      obtain rfl : l2 = l2q := eqn (g2.symm.trans e7q) (by omega) (by omega)
      have hE02 : Eqx (vfr v B) I J2 := hE01.tr (hE2.mono (fun a q => Or.inl (by unfold blk at q ⊢; omega)))
      have hR2 : RgR J2 (v + 1) (dy2 X l) n := (h.1.eqx hE01v (fun a q => by omega)).eqx hE2 (fun a q => by unfold blk at q; omega) |>.cong (fun j j1 j2 => g6 j (by omega) (by omega) (by omega) (by omega) (by omega))
      have hJ2v : J2 v = upd (I v) 8 (drawZ (X 0)) := by rw [hE2 v (by unfold blk; omega), hJ1, si_row, h.2.2.1.2.2.2.2.2]
      have hV2 : VlR J2 v (dy2 X l) mv := by
        obtain ⟨a1, a2, a3, a4, a5, a6⟩ := h.2.2.1
        unfold VlR
        rw [hJ2v, d2_0 hW (by omega), pk_us, pk_un (by decide), pk_un (by decide), pk_un (by decide), pk_un (by decide), pk_un (by decide), g6 9 (by decide) (by decide) (by decide) (by decide) (by decide), g6 2 (by decide) (by decide) (by decide) (by decide) (by decide), g6 3 (by decide) (by decide) (by decide) (by decide) (by decide), g6 4 (by decide) (by decide) (by decide) (by decide) (by decide)]
        exact ⟨a1, a2, a3, a4, a5, rfl⟩
      have hVR2 : VR S J2 v B (dy2 X l) mv T n l2 lw := h.mk hE02 hvB hT14 (fun j hj _ => g6 j (by omega) (by omega) (by omega) (by omega) (by omega)) hR2 hB2 hV2
      refine v_aload_n (n := 66) dX9_passDay_65 rfl rfl rfl ?_
      refine v_iload_n (n := 67) dX9_passDay_66 rfl rfl rfl ?_
      refine v_callV (n := 70) mc_X9_gives l_X9_109 iv_X9_gives se_X9_gives (ci := 8) ⟨by decide, rfl⟩ L.s (k_X9_gives (y := p) (s := s) L hVR2 hT14 hvB hp hn10 hs (by rw [g6 _ (by omega) (by omega) (by omega) (by omega) (by omega)]; exact es)) ⟨rfl, rfl⟩ (l8 rfl) ⟨l8 rfl, l8 rfl⟩ rfl rfl (l8 rfl) dX9_passDay_67 rfl ?_
      rintro _ _ J3 ⟨rfl, hS9, hE3⟩
      replace hS9 := hS9.symm
      subst hS9
      rw [ek]
      have hE03 := hE02.tr (hE3.mono (fun a q => Or.inr q))
      have hst : ∀ x, x < v + 11 → J3 x = J2 x := fun x hx => hE3 x (by unfold stk; omega)
      refine v_istore (n := 72) (al' := [.ref v, .int 0, .int (nI p), .int (ushr (drawZ (I v 8)) 8 % nI (w + 1)), .int (nI k)]) dX9_passDay_70 rfl rfl rfl ?_
      refine v_aload_n (n := 73) dX9_passDay_72 rfl rfl rfl ?_
      refine v_getR (n := 76) f_X9_12 rfl L.s L.g0 dX9_passDay_73 rfl ?_
      refine v_getR (n := 79) f_X9_79 rfl L.c0.s L.c0.g1 dX9_passDay_76 rfl ?_
      refine v_iload_n (n := 80) dX9_passDay_79 rfl rfl rfl ?_
      refine v_dup2 (n := 81) dX9_passDay_80 ⟨rfl, rfl⟩ rfl ?_
      refine v_iald (n := 82) (j := p) L.c0.c1 (ix_nI (by omega) (by decide)) dX9_passDay_81 rfl ?_
      refine v_iload (n := 84) dX9_passDay_82 rfl rfl ?_
      refine v_isub (n := 85) dX9_passDay_84 rfl ?_
      refine v_iast (n := 86) (j := p) L.c0.c1 (ix_nI (by omega) (by decide)) dX9_passDay_85 rfl ?_
      obtain ⟨J4, hJ4⟩ : ∃ J9q : In, J9q = (setI J3 ((v + 1) + 2) p ((J3 ((v + 1) + 2) p) - (nI k))) := ⟨_, rfl⟩
      rw [← hJ4]
      have hE04 : Eqx (vfr v B) I J4 := by rw [hJ4]; exact hE03.set (Or.inl (by unfold blk; omega))
      have hR4 : RgR J4 (v + 1) (dy3 X T l) n := by
        rw [hJ4, dy3, hpl, g3, ek]
        have hR3 := hR2.eqx hE3 (fun a q => by unfold stk at q; omega)
        refine ⟨by rw [sI_o (by omega)]; exact hR3.1, fun y hy => ?_⟩
        rw [sI_o (by omega), sI_o (b := v + 1 + 3) (by omega), sI_o (b := v + 1 + 4) (by omega), pk_un (by omega), pk_un (show 76 + 4 * y + 2 ≠ _ by omega), pk_un (show 76 + 4 * y + 3 ≠ _ by omega)]
        refine ⟨(hR3.2 y hy).1, ?_, (hR3.2 y hy).2.2⟩
        by_cases c : y = p
        · subst c; rw [sI_s, pk_us]; rw [(hR3.2 y hy).2.1]
        · rw [sI_k c, pk_un (by omega)]; exact (hR3.2 y hy).2.1
      have hB4 : BlR J4 (v + 6) (dy3 X T l) l2 := by
        rw [hJ4]
        refine BlR.mv hB2 g1 (fun j _ => by rw [sI_o (by omega), hst _ (by omega)]) ?_ (by rw [setI_ne (by omega), hst _ (by omega)]) (by rw [setI_ne (by omega), hst _ (by omega)]) (by rw [setI_ne (by omega), hst _ (by omega)]) (fun j hj hj2 => by rw [dy3, pk_un (by omega)])
        rw [sI_o (by omega), hst _ (by omega), dy3, pk_un (by omega)]; exact hB2.1.2.2.1
      have hd4 : (if 0 < nI k then packX (dy3 X T l) l2 (nI p) (nI k) else dy3 X T l) = dy4 X T l := by rw [dy4, hpl, g3, ek, h6]
      refine v_aload_n (n := 87) dX9_passDay_86 rfl rfl rfl ?_
      refine v_getR (n := 90) f_X9_21 rfl L.s L.g1 dX9_passDay_87 rfl ?_
      refine v_iload_n (n := 91) dX9_passDay_90 rfl rfl rfl ?_
      refine v_iload (n := 93) dX9_passDay_91 rfl rfl ?_
      refine v_callV (n := 96) mc_X0_grow l_X9_112 iv_X0_grow se_X0_grow (ci := 0) ⟨by decide, rfl⟩ L.c1.s (k_X0_grow (l := l2) (k := k) (y := nI p) (X := dy3 X T l) L.c1 hB4 (by rw [dy3, pk_un (by omega)]; exact g2) g1) ⟨rfl, rfl⟩ (l8 rfl) ⟨l8 rfl, l8 rfl⟩ rfl rfl (l8 rfl) dX9_passDay_93 rfl ?_
      rintro _ _ J5 ⟨rfl, hS9, l4q, hl4q, e7q, hB5, hE5⟩
      replace hS9 := hS9.symm
      subst hS9
      rw [hd4] at e7q hB5
      obtain rfl : l4 = l4q := eqn (q2.symm.trans e7q) (by omega) (by omega)
      have hE05 : Eqx (vfr v B) I J5 := hE04.tr (hE5.mono (fun a q => Or.inl (by unfold blk at q ⊢; omega)))
      have hR5 : RgR J5 (v + 1) (dy4 X T l) n := (hR4.eqx hE5 (fun a q => by unfold blk at q; omega)).cong (fun j j1 j2 => d4_3 hW (by omega) hp h6 j (by omega))
      have hJ5v : J5 v = upd (I v) 8 (drawZ (X 0)) := by rw [hE5 v (by unfold blk; omega), hJ4, setI_ne (by omega), hst v (by omega), hJ2v]
      have hV5 : VlR J5 v (dy4 X T l) mv := by
        obtain ⟨a1, a2, a3, a4, a5, a6⟩ := h.2.2.1
        unfold VlR
        rw [hJ5v, d4_0 hW (by omega) hp h6, pk_us, pk_un (by decide), pk_un (by decide), pk_un (by decide), pk_un (by decide), pk_un (by decide), q6 9 (by decide) (by decide) (by decide) (by decide) (by omega), q6 2 (by decide) (by decide) (by decide) (by decide) (by omega), q6 3 (by decide) (by decide) (by decide) (by decide) (by omega), q6 4 (by decide) (by decide) (by decide) (by decide) (by omega)]
        exact ⟨a1, a2, a3, a4, a5, rfl⟩
      have hVR5 : VR S J5 v B (dy4 X T l) mv T n l4 lw := h.mk hE05 hvB hT14 (fun j hj _ => q6 j (by omega) (by omega) (by omega) (by omega) (by omega)) hR5 hB5 hV5
      have hR5k : J5 (v + 1 + 1) p = X (76 + 4 * p) := by rw [(hR5.2 p hp).1, q6 _ (by omega) (by omega) (by omega) (by omega) (by omega)]
      refine v_aload_n (n := 97) dX9_passDay_96 rfl rfl rfl ?_
      refine v_aload_n (n := 98) dX9_passDay_97 rfl rfl rfl ?_
      refine v_getR (n := 101) f_X9_12 rfl L.s L.g0 dX9_passDay_98 rfl ?_
      refine v_getR (n := 104) f_X9_83 rfl L.c0.s L.c0.g0 dX9_passDay_101 rfl ?_
      refine v_iload_n (n := 105) dX9_passDay_104 rfl rfl rfl ?_
      refine v_iald (n := 106) (j := p) L.c0.c0 (ix_nI (by omega) (by decide)) dX9_passDay_105 rfl ?_
      rw [hR5k]
      refine v_aload_n (n := 107) dX9_passDay_106 rfl rfl rfl ?_
      refine v_getI (n := 110) f_X9_35 rfl L.s dX9_passDay_107 rfl ?_
      rw [hJ5v, pk_un (by decide), h.2.2.1.2.1]
      refine v_cSi (n := 113) (x := (kGoes (X (76 + 4 * p)) (X 2))) mc_X1_goesOn l_X9_116 sta_X1_goesOn k_X1_goesOn ⟨rfl, rfl⟩ (l8 rfl) ⟨l8 rfl, l8 rfl⟩ rfl rfl (l8 rfl) dX9_passDay_110 rfl ?_
      refine v_aload_n (n := 114) dX9_passDay_113 rfl rfl rfl ?_
      refine v_getI (n := 117) f_X9_44 rfl L.s dX9_passDay_114 rfl ?_
      rw [hJ5v, pk_un (by decide), h.2.2.1.2.2.2.2.1]
      refine v_iadd (n := 118) dX9_passDay_117 rfl ?_
      rw [show kGoes (X (76 + 4 * p)) (X 2) + mv = dyS X mv from by rw [dyS, hpl]]
      refine v_aload_n (n := 119) dX9_passDay_118 rfl rfl rfl ?_
      refine v_callV (n := 122) mc_X9_ballSize l_X9_119 iv_X9_ballSize se_X9_ballSize (ci := 8) ⟨by decide, rfl⟩ L.s (k_X9_ballSize L hVR5 hT14 q2) ⟨rfl, rfl⟩ (l8 rfl) ⟨l8 rfl, l8 rfl⟩ rfl rfl (l8 rfl) dX9_passDay_119 rfl ?_
      rintro _ _ J6 ⟨rfl, hS9, hE6⟩
      replace hS9 := hS9.symm
      subst hS9
      have hE06 := hE05.tr (hE6.mono (fun a q => Or.inr q))
      have hst6 : ∀ x, x < v + 11 → J6 x = J5 x := fun x hx => hE6 x (by unfold stk; omega)
      refine v_callV (n := 125) mc_X9_roll l_X9_122 iv_X9_roll se_X9_roll (ci := 8) ⟨by decide, rfl⟩ L.s (k_X9_roll (n := n) (p := p) (T := T) (l := l4) (X := dy4 X T l) L ((q6 1 (by decide) (by decide) (by decide) (by decide) (by omega)).trans hW.1) hn10 ((q6 6 (by decide) (by decide) (by decide) (by decide) (by omega)).trans h6) hp q1 (dyS_rng hmv) rfl (hVR5.1.eqx hE6 (fun a q => by unfold stk at q; omega)) (by rw [hst6 (v + 6) (by omega)]; exact hVR5.2.1.1.2.2.1)) ⟨rfl, rfl⟩ (l8 rfl) ⟨l8 rfl, l8 rfl⟩ rfl rfl (l8 rfl) dX9_passDay_122 rfl ?_
      rintro _ _ J7 ⟨rfl, hS9, hR7, hP7, hF7⟩
      replace hS9 := hS9.symm
      subst hS9
      rw [show bwX (fwX (dy4 X T l) T l4 (dyS X mv).toNatClampNeg) T l4 (-dyS X mv).toNatClampNeg = dy6 X T l mv from by rw [dy6, dy5, q3]] at hR7 hP7
      rw [show bwN (fwX (dy4 X T l) T l4 (dyS X mv).toNatClampNeg) T l4 (fwN (dy4 X T l) T l4 (dyS X mv).toNatClampNeg) (-dyS X mv).toNatClampNeg = dayN X T n l mv from by rw [dayN, if_neg (by omega), dy5, q3]]
      have hE07 : Eqx (vfr v B) I J7 := hE06.tr (hF7.1.mono (fun a q => Or.inl (by unfold rlP at q; unfold blk; omega)))
      obtain ⟨u1, u2⟩ := d6_keep (mv := mv) hW (by omega) hp h6
      have h4d : dy6 X T l mv 4 = nI f := (u1 4 (by decide) (by decide)).trans ((q6 4 (by decide) (by decide) (by decide) (by decide) (by omega)).trans h4f)
      refine v_istore_n (n := 126) (al' := [.ref v, .int (dayN X T n l mv), .int (nI p), .int (ushr (drawZ (I v 8)) 8 % nI (w + 1)), .int (nI k)]) dX9_passDay_125 rfl rfl rfl rfl ?_
      refine v_aload_n (n := 127) dX9_passDay_126 rfl rfl rfl ?_
      refine v_getR (n := 130) f_X9_12 rfl L.s L.g0 dX9_passDay_127 rfl ?_
      refine v_aload_n (n := 131) dX9_passDay_130 rfl rfl rfl ?_
      refine v_getI (n := 134) f_X9_41 rfl L.s dX9_passDay_131 rfl ?_
      rw [show J7 v 6 = dy6 X T l mv 4 from by rw [hF7.1 v (by unfold rlP; omega), hst6 v (by omega), hJ5v, pk_un (by decide), h.2.2.1.2.2.2.1, h4d, h4f]]
      refine v_cVv (n := 137) mc_X5_snowOn l_X9_125 iv_X5_snowOn se_X5_snowOn (ci := 4) ⟨by decide, rfl⟩ L.c0.s (k_X5_snowOn (n := n) L.c0 hR7.1 hn10) ⟨rfl, rfl⟩ (l8 rfl) ⟨l8 rfl, l8 rfl⟩ rfl rfl (l8 rfl) dX9_passDay_134 rfl ?_
      refine v_aload_n (n := 138) dX9_passDay_137 rfl rfl rfl ?_
      refine v_dup (n := 139) dX9_passDay_138 rfl rfl ?_
      refine v_getI (n := 142) f_X9_35 rfl L.s dX9_passDay_139 rfl ?_
      refine v_iconst (n := 143) (v := 1) dX9_passDay_142 c_1 rfl ?_
      refine v_iadd (n := 144) dX9_passDay_143 rfl ?_
      refine v_putI (n := 147) f_X9_35 rfl (Or.inl rfl) L.s dX9_passDay_144 rfl ?_
      refine v_iload_n (n := 148) dX9_passDay_147 rfl rfl rfl ?_
      have hXd : dayX X T n l mv = upd (snX (dy6 X T l mv) n) 2 (snX (dy6 X T l mv) n 2 + 1) := if_neg (by omega)
      have hk6 : ∀ j, j ≠ 2 → j ≠ 6 → (j < 76 ∨ 116 ≤ j) → dayX X T n l mv j = dy4 X T l j := fun j j1 j2 j3 => by rw [hXd, pk_un j1, sn_o n (by omega)]; exact u1 j j2 (by omega)
      have hln : ln (dayX X T n l mv) = l4 := by rw [ln, hk6 7 (by decide) (by decide) (by decide), q2, nI_clamp (by omega)]
      have hEE : Eqx (vfr v B) I (setI (uP J7 (v + 1 + 2) (fun j => mn 999 (J7 (v + 1 + 2) j + dy6 X T l mv 4)) n) v 4 (J7 v 4 + 1)) := fun x hx => by rw [setI_ne (by unfold vfr blk at hx; omega), uP_ne (by unfold vfr blk at hx; omega)]; exact hE07 x hx
      have hJ7v : J7 v = upd (I v) 8 (drawZ (X 0)) := by rw [hF7.1 v (by unfold rlP; omega), hst6 v (by omega), hJ5v]
      rw [uP_o (show v ≠ v + 1 + 2 by omega)]
      refine v_iret rfl ⟨rfl, rfl, ?_, hEE⟩ ⟨l8 rfl, l8 rfl⟩ dX9_passDay_148
      rw [hln]
      refine h.mk hEE hvB hT14 (fun j hj _ => (hk6 j (by omega) (by omega) (by omega)).trans (q6 j (by omega) (by omega) (by omega) (by omega) (by omega))) ?_ ?_ ?_
      · rw [hXd]; exact (sn_rel hR7 hn10 h4d hf99 u2).set (by omega) (by decide)
      · refine hVR5.2.1.mv q1 (fun j hj => ?_) ?_ ?_ ?_ ?_ (fun j hj hj2 => hk6 j (by omega) (by omega) (by omega))
        · rw [sI_o (by omega), uP_o (by omega), hF7.2 j hj, hst6 _ (by omega)]
        · rw [sI_o (by omega), uP_o (by omega), hP7, hXd, pk_un (by decide), sn_o n (by omega)]
        · rw [setI_ne (by omega), uP_ne (by omega), hF7.1 _ (by unfold rlP; omega), hst6 _ (by omega)]
        · rw [setI_ne (by omega), uP_ne (by omega), hF7.1 _ (by unfold rlP; omega), hst6 _ (by omega)]
        · rw [setI_ne (by omega), uP_ne (by omega), hF7.1 _ (by unfold rlP; omega), hst6 _ (by omega)]
      · obtain ⟨a1, a2, a3, a4, a5, a6⟩ := h.2.2.1
        refine ⟨?_, ?_, ?_, ?_, ?_, ?_⟩
        · rw [sI_k (by decide), uP_o (by omega), hJ7v, pk_un (by decide), a1, hk6 9 (by decide) (by decide) (by decide), q6 9 (by decide) (by decide) (by decide) (by decide) (by omega)]
        · rw [sI_s, hJ7v, pk_un (by decide), a2, hXd, pk_us, sn_o n (by omega), u1 2 (by decide) (by decide), q6 2 (by decide) (by decide) (by decide) (by decide) (by omega)]
        · rw [sI_k (by decide), uP_o (by omega), hJ7v, pk_un (by decide), a3, hk6 3 (by decide) (by decide) (by decide), q6 3 (by decide) (by decide) (by decide) (by decide) (by omega)]
        · rw [sI_k (by decide), uP_o (by omega), hJ7v, pk_un (by decide), a4, hk6 4 (by decide) (by decide) (by decide), q6 4 (by decide) (by decide) (by decide) (by decide) (by omega)]
        · rw [sI_k (by decide), uP_o (by omega), hJ7v, pk_un (by decide), a5]
        · rw [sI_k (by decide), uP_o (by omega), hJ7v, pk_us, hk6 0 (by decide) (by decide) (by decide), d4_0 hW (by omega) hp h6]
    · refine v_iload_n (n := 56) dX9_passDay_55 rfl rfl rfl ?_
      refine v_iconst (n := 57) (v := 2) dX9_passDay_56 c_2 rfl ?_
      refine v_idiv (n := 58) dX9_passDay_57 (by decide) rfl ?_
      refine v_goto (tgt := 62) dX9_passDay_58 (by decide) ?_
      refine v_tp (y := nI a) (by rw [← ea, dyT, hpl, if_pos hq52, h3, nI_1, h.2.2.1.2.2.2.2.2]) ?_
      refine v_callV (n := 65) mc_X0_melt l_X9_105 iv_X0_melt se_X0_melt (ci := 0) ⟨by decide, rfl⟩ L.c1.s (k_X0_melt (l := l) (a := a) (p := p) (X := (upd X 0 (drawZ (X 0)))) L.c1 hB1 (by rw [pk_un (by decide)]; exact hW.2.2.1) hl30 (hW.2.2.2.2.2.1.cong (fun i hi => pk_un (by omega))) (by omega) (by omega) (by rw [pk_un (by decide)]; exact h6) (by omega)) ⟨rfl, rfl⟩ (l8 rfl) ⟨l8 rfl, l8 rfl⟩ rfl rfl (l8 rfl) dX9_passDay_62 rfl ?_
      rintro _ _ J2 ⟨rfl, hS9, l2q, hl2q, e7q, hB2, hE2⟩
      replace hS9 := hS9.symm
      subst hS9
      have hd2 : thawX (upd X 0 (drawZ (X 0))) (nI a) l = dy2 X l := by rw [dy2, ea]
      rw [hd2] at e7q hB2
      obtain rfl : l2 = l2q := eqn (g2.symm.trans e7q) (by omega) (by omega)
      have hE02 : Eqx (vfr v B) I J2 := hE01.tr (hE2.mono (fun a q => Or.inl (by unfold blk at q ⊢; omega)))
      have hR2 : RgR J2 (v + 1) (dy2 X l) n := (h.1.eqx hE01v (fun a q => by omega)).eqx hE2 (fun a q => by unfold blk at q; omega) |>.cong (fun j j1 j2 => g6 j (by omega) (by omega) (by omega) (by omega) (by omega))
      have hJ2v : J2 v = upd (I v) 8 (drawZ (X 0)) := by rw [hE2 v (by unfold blk; omega), hJ1, si_row, h.2.2.1.2.2.2.2.2]
      have hV2 : VlR J2 v (dy2 X l) mv := by
        obtain ⟨a1, a2, a3, a4, a5, a6⟩ := h.2.2.1
        unfold VlR
        rw [hJ2v, d2_0 hW (by omega), pk_us, pk_un (by decide), pk_un (by decide), pk_un (by decide), pk_un (by decide), pk_un (by decide), g6 9 (by decide) (by decide) (by decide) (by decide) (by decide), g6 2 (by decide) (by decide) (by decide) (by decide) (by decide), g6 3 (by decide) (by decide) (by decide) (by decide) (by decide), g6 4 (by decide) (by decide) (by decide) (by decide) (by decide)]
        exact ⟨a1, a2, a3, a4, a5, rfl⟩
      have hVR2 : VR S J2 v B (dy2 X l) mv T n l2 lw := h.mk hE02 hvB hT14 (fun j hj _ => g6 j (by omega) (by omega) (by omega) (by omega) (by omega)) hR2 hB2 hV2
      refine v_aload_n (n := 66) dX9_passDay_65 rfl rfl rfl ?_
      refine v_iload_n (n := 67) dX9_passDay_66 rfl rfl rfl ?_
      refine v_callV (n := 70) mc_X9_gives l_X9_109 iv_X9_gives se_X9_gives (ci := 8) ⟨by decide, rfl⟩ L.s (k_X9_gives (y := p) (s := s) L hVR2 hT14 hvB hp hn10 hs (by rw [g6 _ (by omega) (by omega) (by omega) (by omega) (by omega)]; exact es)) ⟨rfl, rfl⟩ (l8 rfl) ⟨l8 rfl, l8 rfl⟩ rfl rfl (l8 rfl) dX9_passDay_67 rfl ?_
      rintro _ _ J3 ⟨rfl, hS9, hE3⟩
      replace hS9 := hS9.symm
      subst hS9
      rw [ek]
      have hE03 := hE02.tr (hE3.mono (fun a q => Or.inr q))
      have hst : ∀ x, x < v + 11 → J3 x = J2 x := fun x hx => hE3 x (by unfold stk; omega)
      refine v_istore (n := 72) (al' := [.ref v, .int 0, .int (nI p), .int (ushr (drawZ (I v 8)) 8 % nI (w + 1)), .int (nI k)]) dX9_passDay_70 rfl rfl rfl ?_
      refine v_aload_n (n := 73) dX9_passDay_72 rfl rfl rfl ?_
      refine v_getR (n := 76) f_X9_12 rfl L.s L.g0 dX9_passDay_73 rfl ?_
      refine v_getR (n := 79) f_X9_79 rfl L.c0.s L.c0.g1 dX9_passDay_76 rfl ?_
      refine v_iload_n (n := 80) dX9_passDay_79 rfl rfl rfl ?_
      refine v_dup2 (n := 81) dX9_passDay_80 ⟨rfl, rfl⟩ rfl ?_
      refine v_iald (n := 82) (j := p) L.c0.c1 (ix_nI (by omega) (by decide)) dX9_passDay_81 rfl ?_
      refine v_iload (n := 84) dX9_passDay_82 rfl rfl ?_
      refine v_isub (n := 85) dX9_passDay_84 rfl ?_
      refine v_iast (n := 86) (j := p) L.c0.c1 (ix_nI (by omega) (by decide)) dX9_passDay_85 rfl ?_
      obtain ⟨J4, hJ4⟩ : ∃ J9q : In, J9q = (setI J3 ((v + 1) + 2) p ((J3 ((v + 1) + 2) p) - (nI k))) := ⟨_, rfl⟩
      rw [← hJ4]
      have hE04 : Eqx (vfr v B) I J4 := by rw [hJ4]; exact hE03.set (Or.inl (by unfold blk; omega))
      have hR4 : RgR J4 (v + 1) (dy3 X T l) n := by
        rw [hJ4, dy3, hpl, g3, ek]
        have hR3 := hR2.eqx hE3 (fun a q => by unfold stk at q; omega)
        refine ⟨by rw [sI_o (by omega)]; exact hR3.1, fun y hy => ?_⟩
        rw [sI_o (by omega), sI_o (b := v + 1 + 3) (by omega), sI_o (b := v + 1 + 4) (by omega), pk_un (by omega), pk_un (show 76 + 4 * y + 2 ≠ _ by omega), pk_un (show 76 + 4 * y + 3 ≠ _ by omega)]
        refine ⟨(hR3.2 y hy).1, ?_, (hR3.2 y hy).2.2⟩
        by_cases c : y = p
        · subst c; rw [sI_s, pk_us]; rw [(hR3.2 y hy).2.1]
        · rw [sI_k c, pk_un (by omega)]; exact (hR3.2 y hy).2.1
      have hB4 : BlR J4 (v + 6) (dy3 X T l) l2 := by
        rw [hJ4]
        refine BlR.mv hB2 g1 (fun j _ => by rw [sI_o (by omega), hst _ (by omega)]) ?_ (by rw [setI_ne (by omega), hst _ (by omega)]) (by rw [setI_ne (by omega), hst _ (by omega)]) (by rw [setI_ne (by omega), hst _ (by omega)]) (fun j hj hj2 => by rw [dy3, pk_un (by omega)])
        rw [sI_o (by omega), hst _ (by omega), dy3, pk_un (by omega)]; exact hB2.1.2.2.1
      have hd4 : (if 0 < nI k then packX (dy3 X T l) l2 (nI p) (nI k) else dy3 X T l) = dy4 X T l := by rw [dy4, hpl, g3, ek, h6]
      refine v_aload_n (n := 87) dX9_passDay_86 rfl rfl rfl ?_
      refine v_getR (n := 90) f_X9_21 rfl L.s L.g1 dX9_passDay_87 rfl ?_
      refine v_iload_n (n := 91) dX9_passDay_90 rfl rfl rfl ?_
      refine v_iload (n := 93) dX9_passDay_91 rfl rfl ?_
      refine v_callV (n := 96) mc_X0_grow l_X9_112 iv_X0_grow se_X0_grow (ci := 0) ⟨by decide, rfl⟩ L.c1.s (k_X0_grow (l := l2) (k := k) (y := nI p) (X := dy3 X T l) L.c1 hB4 (by rw [dy3, pk_un (by omega)]; exact g2) g1) ⟨rfl, rfl⟩ (l8 rfl) ⟨l8 rfl, l8 rfl⟩ rfl rfl (l8 rfl) dX9_passDay_93 rfl ?_
      rintro _ _ J5 ⟨rfl, hS9, l4q, hl4q, e7q, hB5, hE5⟩
      replace hS9 := hS9.symm
      subst hS9
      rw [hd4] at e7q hB5
      obtain rfl : l4 = l4q := eqn (q2.symm.trans e7q) (by omega) (by omega)
      have hE05 : Eqx (vfr v B) I J5 := hE04.tr (hE5.mono (fun a q => Or.inl (by unfold blk at q ⊢; omega)))
      have hR5 : RgR J5 (v + 1) (dy4 X T l) n := (hR4.eqx hE5 (fun a q => by unfold blk at q; omega)).cong (fun j j1 j2 => d4_3 hW (by omega) hp h6 j (by omega))
      have hJ5v : J5 v = upd (I v) 8 (drawZ (X 0)) := by rw [hE5 v (by unfold blk; omega), hJ4, setI_ne (by omega), hst v (by omega), hJ2v]
      have hV5 : VlR J5 v (dy4 X T l) mv := by
        obtain ⟨a1, a2, a3, a4, a5, a6⟩ := h.2.2.1
        unfold VlR
        rw [hJ5v, d4_0 hW (by omega) hp h6, pk_us, pk_un (by decide), pk_un (by decide), pk_un (by decide), pk_un (by decide), pk_un (by decide), q6 9 (by decide) (by decide) (by decide) (by decide) (by omega), q6 2 (by decide) (by decide) (by decide) (by decide) (by omega), q6 3 (by decide) (by decide) (by decide) (by decide) (by omega), q6 4 (by decide) (by decide) (by decide) (by decide) (by omega)]
        exact ⟨a1, a2, a3, a4, a5, rfl⟩
      have hVR5 : VR S J5 v B (dy4 X T l) mv T n l4 lw := h.mk hE05 hvB hT14 (fun j hj _ => q6 j (by omega) (by omega) (by omega) (by omega) (by omega)) hR5 hB5 hV5
      have hR5k : J5 (v + 1 + 1) p = X (76 + 4 * p) := by rw [(hR5.2 p hp).1, q6 _ (by omega) (by omega) (by omega) (by omega) (by omega)]
      refine v_aload_n (n := 97) dX9_passDay_96 rfl rfl rfl ?_
      refine v_aload_n (n := 98) dX9_passDay_97 rfl rfl rfl ?_
      refine v_getR (n := 101) f_X9_12 rfl L.s L.g0 dX9_passDay_98 rfl ?_
      refine v_getR (n := 104) f_X9_83 rfl L.c0.s L.c0.g0 dX9_passDay_101 rfl ?_
      refine v_iload_n (n := 105) dX9_passDay_104 rfl rfl rfl ?_
      refine v_iald (n := 106) (j := p) L.c0.c0 (ix_nI (by omega) (by decide)) dX9_passDay_105 rfl ?_
      rw [hR5k]
      refine v_aload_n (n := 107) dX9_passDay_106 rfl rfl rfl ?_
      refine v_getI (n := 110) f_X9_35 rfl L.s dX9_passDay_107 rfl ?_
      rw [hJ5v, pk_un (by decide), h.2.2.1.2.1]
      refine v_cSi (n := 113) (x := (kGoes (X (76 + 4 * p)) (X 2))) mc_X1_goesOn l_X9_116 sta_X1_goesOn k_X1_goesOn ⟨rfl, rfl⟩ (l8 rfl) ⟨l8 rfl, l8 rfl⟩ rfl rfl (l8 rfl) dX9_passDay_110 rfl ?_
      refine v_aload_n (n := 114) dX9_passDay_113 rfl rfl rfl ?_
      refine v_getI (n := 117) f_X9_44 rfl L.s dX9_passDay_114 rfl ?_
      rw [hJ5v, pk_un (by decide), h.2.2.1.2.2.2.2.1]
      refine v_iadd (n := 118) dX9_passDay_117 rfl ?_
      rw [show kGoes (X (76 + 4 * p)) (X 2) + mv = dyS X mv from by rw [dyS, hpl]]
      refine v_aload_n (n := 119) dX9_passDay_118 rfl rfl rfl ?_
      refine v_callV (n := 122) mc_X9_ballSize l_X9_119 iv_X9_ballSize se_X9_ballSize (ci := 8) ⟨by decide, rfl⟩ L.s (k_X9_ballSize L hVR5 hT14 q2) ⟨rfl, rfl⟩ (l8 rfl) ⟨l8 rfl, l8 rfl⟩ rfl rfl (l8 rfl) dX9_passDay_119 rfl ?_
      rintro _ _ J6 ⟨rfl, hS9, hE6⟩
      replace hS9 := hS9.symm
      subst hS9
      have hE06 := hE05.tr (hE6.mono (fun a q => Or.inr q))
      have hst6 : ∀ x, x < v + 11 → J6 x = J5 x := fun x hx => hE6 x (by unfold stk; omega)
      refine v_callV (n := 125) mc_X9_roll l_X9_122 iv_X9_roll se_X9_roll (ci := 8) ⟨by decide, rfl⟩ L.s (k_X9_roll (n := n) (p := p) (T := T) (l := l4) (X := dy4 X T l) L ((q6 1 (by decide) (by decide) (by decide) (by decide) (by omega)).trans hW.1) hn10 ((q6 6 (by decide) (by decide) (by decide) (by decide) (by omega)).trans h6) hp q1 (dyS_rng hmv) rfl (hVR5.1.eqx hE6 (fun a q => by unfold stk at q; omega)) (by rw [hst6 (v + 6) (by omega)]; exact hVR5.2.1.1.2.2.1)) ⟨rfl, rfl⟩ (l8 rfl) ⟨l8 rfl, l8 rfl⟩ rfl rfl (l8 rfl) dX9_passDay_122 rfl ?_
      rintro _ _ J7 ⟨rfl, hS9, hR7, hP7, hF7⟩
      replace hS9 := hS9.symm
      subst hS9
      rw [show bwX (fwX (dy4 X T l) T l4 (dyS X mv).toNatClampNeg) T l4 (-dyS X mv).toNatClampNeg = dy6 X T l mv from by rw [dy6, dy5, q3]] at hR7 hP7
      rw [show bwN (fwX (dy4 X T l) T l4 (dyS X mv).toNatClampNeg) T l4 (fwN (dy4 X T l) T l4 (dyS X mv).toNatClampNeg) (-dyS X mv).toNatClampNeg = dayN X T n l mv from by rw [dayN, if_neg (by omega), dy5, q3]]
      have hE07 : Eqx (vfr v B) I J7 := hE06.tr (hF7.1.mono (fun a q => Or.inl (by unfold rlP at q; unfold blk; omega)))
      obtain ⟨u1, u2⟩ := d6_keep (mv := mv) hW (by omega) hp h6
      have h4d : dy6 X T l mv 4 = nI f := (u1 4 (by decide) (by decide)).trans ((q6 4 (by decide) (by decide) (by decide) (by decide) (by omega)).trans h4f)
      refine v_istore_n (n := 126) (al' := [.ref v, .int (dayN X T n l mv), .int (nI p), .int (ushr (drawZ (I v 8)) 8 % nI (w + 1)), .int (nI k)]) dX9_passDay_125 rfl rfl rfl rfl ?_
      refine v_aload_n (n := 127) dX9_passDay_126 rfl rfl rfl ?_
      refine v_getR (n := 130) f_X9_12 rfl L.s L.g0 dX9_passDay_127 rfl ?_
      refine v_aload_n (n := 131) dX9_passDay_130 rfl rfl rfl ?_
      refine v_getI (n := 134) f_X9_41 rfl L.s dX9_passDay_131 rfl ?_
      rw [show J7 v 6 = dy6 X T l mv 4 from by rw [hF7.1 v (by unfold rlP; omega), hst6 v (by omega), hJ5v, pk_un (by decide), h.2.2.1.2.2.2.1, h4d, h4f]]
      refine v_cVv (n := 137) mc_X5_snowOn l_X9_125 iv_X5_snowOn se_X5_snowOn (ci := 4) ⟨by decide, rfl⟩ L.c0.s (k_X5_snowOn (n := n) L.c0 hR7.1 hn10) ⟨rfl, rfl⟩ (l8 rfl) ⟨l8 rfl, l8 rfl⟩ rfl rfl (l8 rfl) dX9_passDay_134 rfl ?_
      refine v_aload_n (n := 138) dX9_passDay_137 rfl rfl rfl ?_
      refine v_dup (n := 139) dX9_passDay_138 rfl rfl ?_
      refine v_getI (n := 142) f_X9_35 rfl L.s dX9_passDay_139 rfl ?_
      refine v_iconst (n := 143) (v := 1) dX9_passDay_142 c_1 rfl ?_
      refine v_iadd (n := 144) dX9_passDay_143 rfl ?_
      refine v_putI (n := 147) f_X9_35 rfl (Or.inl rfl) L.s dX9_passDay_144 rfl ?_
      refine v_iload_n (n := 148) dX9_passDay_147 rfl rfl rfl ?_
      have hXd : dayX X T n l mv = upd (snX (dy6 X T l mv) n) 2 (snX (dy6 X T l mv) n 2 + 1) := if_neg (by omega)
      have hk6 : ∀ j, j ≠ 2 → j ≠ 6 → (j < 76 ∨ 116 ≤ j) → dayX X T n l mv j = dy4 X T l j := fun j j1 j2 j3 => by rw [hXd, pk_un j1, sn_o n (by omega)]; exact u1 j j2 (by omega)
      have hln : ln (dayX X T n l mv) = l4 := by rw [ln, hk6 7 (by decide) (by decide) (by decide), q2, nI_clamp (by omega)]
      have hEE : Eqx (vfr v B) I (setI (uP J7 (v + 1 + 2) (fun j => mn 999 (J7 (v + 1 + 2) j + dy6 X T l mv 4)) n) v 4 (J7 v 4 + 1)) := fun x hx => by rw [setI_ne (by unfold vfr blk at hx; omega), uP_ne (by unfold vfr blk at hx; omega)]; exact hE07 x hx
      have hJ7v : J7 v = upd (I v) 8 (drawZ (X 0)) := by rw [hF7.1 v (by unfold rlP; omega), hst6 v (by omega), hJ5v]
      rw [uP_o (show v ≠ v + 1 + 2 by omega)]
      refine v_iret rfl ⟨rfl, rfl, ?_, hEE⟩ ⟨l8 rfl, l8 rfl⟩ dX9_passDay_148
      rw [hln]
      refine h.mk hEE hvB hT14 (fun j hj _ => (hk6 j (by omega) (by omega) (by omega)).trans (q6 j (by omega) (by omega) (by omega) (by omega) (by omega))) ?_ ?_ ?_
      · rw [hXd]; exact (sn_rel hR7 hn10 h4d hf99 u2).set (by omega) (by decide)
      · refine hVR5.2.1.mv q1 (fun j hj => ?_) ?_ ?_ ?_ ?_ (fun j hj hj2 => hk6 j (by omega) (by omega) (by omega))
        · rw [sI_o (by omega), uP_o (by omega), hF7.2 j hj, hst6 _ (by omega)]
        · rw [sI_o (by omega), uP_o (by omega), hP7, hXd, pk_un (by decide), sn_o n (by omega)]
        · rw [setI_ne (by omega), uP_ne (by omega), hF7.1 _ (by unfold rlP; omega), hst6 _ (by omega)]
        · rw [setI_ne (by omega), uP_ne (by omega), hF7.1 _ (by unfold rlP; omega), hst6 _ (by omega)]
        · rw [setI_ne (by omega), uP_ne (by omega), hF7.1 _ (by unfold rlP; omega), hst6 _ (by omega)]
      · obtain ⟨a1, a2, a3, a4, a5, a6⟩ := h.2.2.1
        refine ⟨?_, ?_, ?_, ?_, ?_, ?_⟩
        · rw [sI_k (by decide), uP_o (by omega), hJ7v, pk_un (by decide), a1, hk6 9 (by decide) (by decide) (by decide), q6 9 (by decide) (by decide) (by decide) (by decide) (by omega)]
        · rw [sI_s, hJ7v, pk_un (by decide), a2, hXd, pk_us, sn_o n (by omega), u1 2 (by decide) (by decide), q6 2 (by decide) (by decide) (by decide) (by decide) (by omega)]
        · rw [sI_k (by decide), uP_o (by omega), hJ7v, pk_un (by decide), a3, hk6 3 (by decide) (by decide) (by decide), q6 3 (by decide) (by decide) (by decide) (by decide) (by omega)]
        · rw [sI_k (by decide), uP_o (by omega), hJ7v, pk_un (by decide), a4, hk6 4 (by decide) (by decide) (by decide), q6 4 (by decide) (by decide) (by decide) (by decide) (by omega)]
        · rw [sI_k (by decide), uP_o (by omega), hJ7v, pk_un (by decide), a5]
        · rw [sI_k (by decide), uP_o (by omega), hJ7v, pk_us, hk6 0 (by decide) (by decide) (by decide), d4_0 hW (by omega) hp h6]

theorem k_X9_passDay {ro : Ro} {S : St} {I : In} {v B T n l b : Nat} {X : Ar} {mv : Int32} {lw : Nat → Nat} (L : LayV S v) (h : VR S I v B X mv T n l lw) (hW : WX X T n l b) (hb : b + 999 < 2 ^ 30) (hmv : -10 ≤ mv.toInt ∧ mv.toInt ≤ 10) (hvB : v + 11 ≤ B) : Ok mX9_passDay ro 4 0 0 [.ref v] S I (fun r S' I' => r = some (.int (dayN X T n l mv)) ∧ S' = S ∧ VR S I' v B (dayX X T n l mv) mv T n (ln (dayX X T n l mv)) lw ∧ Eqx (vfr v B) I I') := by
  rcases Nat.eq_zero_or_pos n with q | q
  · exact k0_X9_passDay L h hW hb hmv hvB q
  · exact k1_X9_passDay L h hW hb hmv hvB q

