/-! ===== the invariant; check, keep, back, text ===== -/
theorem gi_th {S S2 : St} {I I2 : In} {x m B b b2 j j2 : Nat} (h : GI S I x m B b j) (hb : b ≤ b2) (hj : j ≤ j2) (hS : SGp (thP (x + 23) 0) S S2) (hI : ∀ a, ¬ thk x B a → ¬ ScM m a → I2 a = I a) : GI S2 I2 x m B b2 j2 := by
  obtain ⟨⟨hm, hB⟩, ⟨L, LM, hf⟩, T, lw, i0, ⟨hV, hk⟩, hr, hz, hi⟩ := h
  have e1 : I2 (m + 1) = I (m + 1) := hI _ (fun z => by unfold thk stk at z; omega) (fun z => by unfold ScM at z; omega)
  refine ⟨⟨hm, hB⟩, ⟨L.th hS, LM.th hm hS, fun c hc => by rw [hS.1]; exact hf c (by rw [← hS.2.2]; exact hc)⟩, T, lw, i0, ⟨?_, by rw [e1]; exact hk.mono hb⟩, hr.sc hm hB hS (fun a a1 a2 a3 => hI a (fun z => a1 (Or.inr z)) a3) hb, by rw [hS.2.2]; exact hz, by omega⟩
  rw [e1]
  refine (hV.eqx (P := fun a => thk x B a ∨ ScM m a) (fun a ha => hI a (fun z => ha (Or.inl z)) (fun z => ha (Or.inr z))) (fun a z => ?_)).sp hS (fun a z => by obtain ⟨i, z1, z2, z3⟩ := z; omega) (fun z => by obtain ⟨i, z1, z2, z3⟩ := z; omega)
  rcases z with (z | z) | z
  · omega
  · exact ⟨by unfold stk at z; omega, Or.inr z⟩
  · unfold ScM at z; omega
theorem img_eq {I I1 : In} {m : Nat} (e1 : I1 (m + 1) = I (m + 1)) (e2 : I1 (m + 2) = I (m + 2)) (h1 : ∀ q, 1488 ≤ q → I (m + 1) q = 0) (h2 : ∀ q, 1488 ≤ q → I (m + 2) q = 0) : imgX I1 m = I (m + 2) := by
  funext q
  unfold imgX
  rw [e2]
  by_cases c : q < 1488
  · rw [uP_in c]
  · rw [uP_k (by omega), e1, h1 q (by omega), h2 q (by omega)]
theorem g_check {ro : Ro} {S : St} {I : In} {x m B b j : Nat} {xa : Int32} (h : GI S I x m B b j) (hb : b < 79000000) : Ok mX10_check ro 6 0 0 (.ref x :: [.int xa]) S I (Mid mX11_check ro 6 [.int xa] x m B b j) := by
  obtain ⟨t, ht, e33⟩ := h.mw.2.2.1
  obtain ⟨T, lw, i0, ⟨hV, hk⟩, ⟨u1, ⟨u2, u3⟩, ⟨r1, r2, r3, r4⟩, q1, q2, q3, q4⟩, hz, hi⟩ := h.2.2
  have hm := h.1.1
  have hB := h.1.2
  obtain ⟨T2, g2⟩ : ∃ T2, ¬ I m 3 = 0 → VN S I (x + 12) B (I (m + 2)) T2 lw ∧ VK (I (m + 2)) T2 b := by
    by_cases c : I m 3 = 0
    · exact ⟨0, fun z => absurd c z⟩
    · obtain ⟨T2, -, g⟩ := u3 c; exact ⟨T2, fun _ => g⟩
  refine (c_X10_check (T := T2) (b := b) (Y := I (m + 2)) (lw := lw) (J := I) h.2.1.1 (by omega) u2 (fun c => ⟨(g2 c).1, (g2 c).2.1, (g2 c).2.2.1, (g2 c).2.2.2.1⟩) (by omega) r4 e33 ht).mono ?_
  rintro r S1 I1 ⟨rfl, w1, w2⟩
  have e : ∀ a, m ≤ a → a < m + 23 → I1 a = I a := fun a a1 a2 => by rw [w2 a (fun z => by unfold thk stk at z; omega), setI_ne (by omega)]
  have ei : imgX I1 m = I (m + 2) := img_eq (e _ (by omega) (by omega)) (e _ (by omega) (by omega)) hk.2.2.2 q4
  refine ⟨_, rfl, (h.2.1.2.1.th hm w1).s, (k_X11_check (T := T2) (n := yn (I (m + 2))) (l := ln (I (m + 2))) (b := b) (w := t) (h.2.1.2.1.th hm w1) (fun c => by rw [ei]; rw [e m (by omega) (by omega)] at c; exact ⟨(g2 c).2.1, (g2 c).2.2.1⟩) (by omega) (by rw [e m (by omega) (by omega)]; exact e33) ht).mono ?_⟩
  rintro r2 S2 I2 ⟨rfl, rfl, w3⟩
  refine ⟨by rw [ei, e m (by omega) (by omega), e (m + 22) (by omega) (by omega)], ?_⟩
  have h1 : GI S (setI (setI I x 10 0) m 33 0) x m B (b + 100000) (j + 1) := by
    refine gi_c (I1 := setI I x 10 0) (K := setI I m 33 0) h (fun a a1 _ => setI_ne a1) (sI_k (by decide)) (Lc.set (Lc.z (fun a a1 a2 => setI_ne (by omega))) ⟨by omega, by omega⟩) (setI_ne (by omega)) (setI_ne (by omega)) (sI_k (by decide)) ?_ ?_ ?_ ?_ ?_ ?_ ?_
    · exact r1.fr (fun a _ _ => setI_ne (by omega)) (fun a _ _ => setI_ne (by omega))
    · exact r2.fr (fun a _ _ => setI_ne (by omega)) (fun a _ _ => setI_ne (by omega))
    · exact r3.fr (by rw [setI_ne (by omega)]) (setI_ne (by omega)) (sI_k (by decide)) (setI_ne (by omega))
    · exact ⟨by rw [sI_s, sI_s], fun q hq => by rw [setI_ne (by omega), setI_ne (by omega)]; exact r4.2 q hq⟩
    · obtain ⟨v1, v2, v3, v4, v5⟩ := q1
      refine ⟨?_, ?_, ⟨0, by decide, sI_s⟩, by rw [sI_k (by decide)]; exact v4, by rw [sI_k (by decide)]; exact v5⟩
      · rw [setI_ne (b := m + 14) (by omega), setI_ne (b := m + 15) (by omega)]; exact v1
      · rw [setI_ne (b := m + 17) (by omega), setI_ne (b := m + 18) (by omega)]; exact v2
    · exact q2.fr (setI_ne (by omega))
    · exact q3.fr (setI_ne (by omega)) (setI_ne (by omega))
  refine gi_th h1 (Nat.le_refl _) (Nat.le_refl _) w1 (fun a a1 a2 => ?_)
  rw [w3 a (fun z => a2 (by unfold scC scM at z; unfold ScM; omega))]
  by_cases c : a = m
  · subst c; rw [sI_row, sI_row, w2 _ a1]
  · rw [setI_ne c, setI_ne c, w2 _ a1]
/-- only the room of the laws of one village moves -/
theorem bc_P {S : St} {v w : Nat} : SGp (fun a => a = v + 10) S (bcS S v w 3) := ⟨rfl, fun a ha => bcG_o ha 3, rfl⟩
theorem g_keep {ro : Ro} {S : St} {I : In} {x m B b j : Nat} (h : GI S I x m B b j) (hb : b < 79000000) : Ok mX10_keep ro 3 0 0 (.ref x :: []) S I (Mid mX11_keep ro 1 [] x m B b j) := by
  obtain ⟨⟨hm, hB⟩, ⟨L, LM, hf⟩, T, lw, i0, ⟨hV, hk⟩, ⟨u1, ⟨u2, u3⟩, ⟨r1, r2, r3, r4⟩, q1, q2, q3, q4⟩, hz, hi⟩ := h
  refine (c_X10_keep L hV hk.1 (by omega)).mono ?_
  rintro r S1 I1 ⟨rfl, e0, w1, w2, w3, w4⟩
  have hS : SGp (fun a => a = x + 12 + 10) S S1 := by rw [e0]; exact bc_P
  clear e0
  have LM1 : LayM S1 m := LM.sp hS (by omega)
  have e : ∀ a, a ≠ x → a < x + 12 ∨ x + 23 ≤ a → I1 a = I a := fun a a1 a2 => w4 a a1 (fun z => by unfold blk at z; omega)
  refine ⟨_, rfl, LM1.s, (k_X11_keep LM1).mono ?_⟩
  rintro r2 S2 I2 ⟨rfl, rfl, rfl⟩
  refine ⟨by rw [e (m + 1) (by omega) (by omega)], ?_⟩
  obtain ⟨K, hK⟩ : ∃ K, K = keepM I1 m := ⟨_, rfl⟩
  rw [← hK]
  have o : ∀ a, a ≠ m → a ≠ m + 2 → K a = I1 a := fun a a1 a2 => by rw [hK, keepM, setI_ne a1, uP_ne a2]
  have k2 : K (m + 2) = I (m + 1) := by
    funext q
    rw [hK, keepM, setI_ne (by omega), e (m + 1) (by omega) (by omega)]
    by_cases c : q < 1488
    · rw [uP_in c]
    · rw [uP_k (by omega), e (m + 2) (by omega) (by omega), q4 q (by omega), hk.2.2.2 q (by omega)]
  have km : ∀ k, k ≠ 3 → K m k = I m k := fun k hk => by rw [hK, keepM, sI_k hk, uP_ne (by omega), e m (by omega) (by omega)]
  have k3 : K m 3 = 1 := by rw [hK, keepM, sI_s]
  have oo : ∀ a, a ≠ x → a ≠ m → a ≠ m + 2 → a < x + 12 ∨ x + 23 ≤ a → K a = I a := fun a a1 a2 a3 a4 => by rw [o a a2 a3, e a a1 a4]
  have kx : K x = I1 x := o x (by omega) (by omega)
  clear hK
  refine ⟨⟨hm, hB⟩, ⟨L.sp (hS.mono (fun _ z => Or.inr (Or.inl z))), LM1, fun c hc => by rw [hS.1]; exact hf c (by rw [← hS.2.2]; exact hc)⟩, T, lw, i0, ⟨?_, ?_⟩, ⟨fun u hu => by rw [hS.2.1 _ (by omega)]; exact u1 u hu, ⟨by rw [kx, w2, k3], fun _ => ⟨T, Nat.le_refl _, ?_, by rw [k2]; exact hk.mono (by omega)⟩⟩, ⟨?_, ?_, ?_, ?_⟩, ?_, ?_, ?_, fun q hq => by rw [k2]; exact hk.2.2.2 q hq⟩, by rw [hS.2.2]; exact hz, by omega⟩
  · rw [oo (m + 1) (by omega) (by omega) (by omega) (by omega)]
    exact (hV.eqx (P := fun a => a = x ∨ a = m ∨ a = m + 2 ∨ (x + 12 ≤ a ∧ a < x + 23)) (fun a ha => oo a (by omega) (by omega) (by omega) (by omega)) (fun a z => by omega)).sp hS (fun a z => by omega) (by omega)
  · rw [oo (m + 1) (by omega) (by omega) (by omega) (by omega)]; exact hk.mono (by omega)
  · rw [k2]
    exact w1.eqx (P := fun a => a = m ∨ a = m + 2) (fun a ha => o a (by omega) (by omega)) (fun a z => by omega)
  · exact r1.fr (fun a a1 a2 => oo a (by omega) (by omega) (by omega) (by omega)) (fun a a1 a2 => oo a (by omega) (by omega) (by omega) (by omega))
  · exact r2.fr (fun a a1 a2 => oo a (by omega) (by omega) (by omega) (by omega)) (fun a a1 a2 => oo a (by omega) (by omega) (by omega) (by omega))
  · exact r3.fr (by rw [oo _ (by omega) (by omega) (by omega) (by omega)]) (oo _ (by omega) (by omega) (by omega) (by omega)) (km 7 (by decide)) (oo _ (by omega) (by omega) (by omega) (by omega))
  · exact r4.fr (by rw [kx, w3 10 (by decide)]) (oo _ (by omega) (by omega) (by omega) (by omega)) (km 33 (by decide)) (oo _ (by omega) (by omega) (by omega) (by omega))
  · obtain ⟨v1, v2, v3, v4, v5⟩ := q1
    refine ⟨?_, ?_, by rw [km 33 (by decide)]; exact v3, by rw [km 7 (by decide)]; exact v4, Or.inr k3⟩
    · rw [oo (m + 14) (by omega) (by omega) (by omega) (by omega), oo (m + 15) (by omega) (by omega) (by omega) (by omega)]; exact v1
    · rw [oo (m + 17) (by omega) (by omega) (by omega) (by omega), oo (m + 18) (by omega) (by omega) (by omega) (by omega)]; exact v2
  · exact q2.fr (oo _ (by omega) (by omega) (by omega) (by omega))
  · exact q3.fr (oo _ (by omega) (by omega) (by omega) (by omega)) (oo _ (by omega) (by omega) (by omega) (by omega))
set_option maxRecDepth 100000 in
theorem c3_X10_back {ro : Ro} {S : St} {I : In} {x : Nat} (L : LayX S x) (hkp : I x 2 = 0) : Ok mX10_back ro 3 0 0 [.ref x] S I (RI (-1000000002) S I) := by
  refine ok_of (al := [.ref x]) (by decide) (l8 rfl) rfl ?_
  refine v_aload_n (n := 1) dX10_back_0 rfl rfl rfl ?_
  refine v_getI (n := 4) f_X10_19 rfl L.s dX10_back_1 rfl ?_
  refine v_if_ne (n := 7) (tgt := 10) dX10_back_4 (by decide) rfl (fun hq4 => ?_) (fun hq4 => ?_)
  · exact absurd hkp hq4
  · refine v_ldc (n := 9) k_X10_189 dX10_back_7 rfl ?_
    exact v_rI rfl rfl rfl rfl ⟨l8 rfl, l8 rfl⟩ dX10_back_9
theorem g_back {ro : Ro} {S : St} {I : In} {x m B b j : Nat} (h : GI S I x m B b j) (hb : b < 79000000) : Ok mX10_back ro 3 0 0 (.ref x :: []) S I (Mid mX11_back ro 1 [] x m B b j) := by
  have h' := h
  obtain ⟨⟨hm, hB⟩, ⟨L, LM, hf⟩, T, lw, i0, ⟨hV, hk⟩, ⟨u1, ⟨u2, u3⟩, ⟨r1, r2, r3, r4⟩, q1, q2, q3, q4⟩, hz, hi⟩ := h
  by_cases c : I m 3 = 0
  · refine (c3_X10_back L (by rw [u2]; exact c)).mono ?_
    rintro r S1 I1 ⟨rfl, rfl, rfl⟩
    refine ⟨_, rfl, LM.s, (k_X11_back LM).mono ?_⟩
    rintro r2 S2 I2 ⟨rfl, rfl, rfl⟩
    rw [backM, if_pos c]
    exact ⟨rfl, gi_th h' (by omega) (by omega) SGp.rf (fun _ _ _ => rfl)⟩
  · obtain ⟨T2, g1, g2, g3⟩ := u3 c
    refine (c_X10_back L g2 g3.1 (by omega) (by rw [u2]; exact c)).mono ?_
    rintro r S1 I1 ⟨rfl, e0, w1, w2⟩
    have hS : SGp (fun a => a = x + 1 + 10) S S1 := by rw [e0]; exact bc_P
    clear e0 h'
    have LM1 : LayM S1 m := LM.sp hS (by omega)
    have e : ∀ a, a < x + 1 ∨ x + 12 ≤ a → I1 a = I a := fun a a2 => w2 a (fun z => by unfold blk at z; omega)
    refine ⟨_, rfl, LM1.s, (k_X11_back LM1).mono ?_⟩
    rintro r2 S2 I2 ⟨rfl, rfl, rfl⟩
    rw [backM, if_neg (by rw [e m (by omega)]; exact c)]
    dsimp only
    rw [e (m + 2) (by omega)]
    refine ⟨rfl, ?_⟩
    obtain ⟨K, hK⟩ : ∃ K, K = uP I1 (m + 1) (I (m + 2)) 1488 := ⟨_, rfl⟩
    rw [← hK]
    have o : ∀ a, a ≠ m + 1 → K a = I1 a := fun a a1 => by rw [hK, uP_ne a1]
    have k1 : K (m + 1) = I (m + 2) := by
      funext q
      rw [hK]
      by_cases c : q < 1488
      · rw [uP_in c]
      · rw [uP_k (by omega), e (m + 1) (by omega), q4 q (by omega), hk.2.2.2 q (by omega)]
    clear hK
    have oo : ∀ a, a ≠ m + 1 → a < x + 1 ∨ x + 12 ≤ a → K a = I a := fun a a1 a2 => by rw [o a a1, e a a2]
    refine ⟨⟨hm, hB⟩, ⟨L.sp (hS.mono (fun _ z => Or.inl z)), LM1, fun c hc => by rw [hS.1]; exact hf c (by rw [← hS.2.2]; exact hc)⟩, T2, lw, i0, ⟨?_, by rw [k1]; exact g3.mono (by omega)⟩, ⟨fun u hu => by rw [hS.2.1 _ (by omega)]; exact u1 u (by omega), ⟨by rw [oo x (by omega) (by omega), oo m (by omega) (by omega)]; exact u2, fun _ => ⟨T2, Nat.le_refl _, ?_, by rw [oo (m + 2) (by omega) (by omega)]; exact g3.mono (by omega)⟩⟩, ⟨?_, ?_, ?_, ?_⟩, ?_, ?_, ?_, fun q hq => by rw [oo (m + 2) (by omega) (by omega)]; exact q4 q hq⟩, by rw [hS.2.2]; exact hz, by omega⟩
    · rw [k1]
      exact w1.eqx (P := fun a => a = m + 1) (fun a ha => o a ha) (fun a z => by omega)
    · rw [oo (m + 2) (by omega) (by omega)]
      exact (g2.eqx (P := fun a => a = m + 1 ∨ (x + 1 ≤ a ∧ a < x + 12)) (fun a ha => oo a (by omega) (by omega)) (fun a z => by omega)).sp hS (fun a z => by omega) (by omega)
    · exact r1.fr (fun a a1 a2 => oo a (by omega) (by omega)) (fun a a1 a2 => oo a (by omega) (by omega))
    · exact r2.fr (fun a a1 a2 => oo a (by omega) (by omega)) (fun a a1 a2 => oo a (by omega) (by omega))
    · exact r3.fr (by rw [oo _ (by omega) (by omega)]) (oo _ (by omega) (by omega)) (by rw [oo _ (by omega) (by omega)]) (oo _ (by omega) (by omega))
    · exact r4.fr (by rw [oo _ (by omega) (by omega)]) (oo _ (by omega) (by omega)) (by rw [oo _ (by omega) (by omega)]) (oo _ (by omega) (by omega))
    · exact q1.fr (fun a a1 a2 => oo a (by omega) (by omega)) (fun a a1 a2 => oo a (by omega) (by omega)) (by rw [oo _ (by omega) (by omega)]) (by rw [oo _ (by omega) (by omega)]) (by rw [oo _ (by omega) (by omega)])
    · exact q2.fr (oo _ (by omega) (by omega))
    · exact q3.fr (oo _ (by omega) (by omega)) (oo _ (by omega) (by omega))
theorem vk_text {X t : Ar} {T T' n b : Nat} (h : VK X T b) (hn : n ≤ 96) (hW : WN (textS t n X T).2 T' b) : VK (textS t n X T).2 T' b := by
  obtain ⟨⟨-, -, -, -, ⟨h9, hT, -⟩, -⟩, h2, h3, h4⟩ := h
  by_cases c : okT t n = true
  · by_cases c2 : X 9 = 14
    · rw [textS, if_pos c, if_pos c2] at hW ⊢; exact ⟨hW, h2, h3, h4⟩
    · rw [textS, if_pos c, if_neg c2] at hW ⊢
      have hT14 : T < 14 := by
        rcases Nat.lt_or_ge T 14 with z | z
        · exact z
        · exact absurd (by rw [h9, show T = 14 by omega]; rfl) c2
      obtain ⟨-, f2, -, -⟩ := ok_facts hn c
      refine ⟨hW, ?_, ?_, fun q hq => ?_⟩
      · unfold mvOk; dsimp only; rw [tx_lo (by decide) (by decide)]; exact h2
      · unfold dayOk; dsimp only; rw [tx_lo (by decide) (by decide)]; exact h3
      · dsimp only; rw [tx_o (by omega) (by omega) (by omega) (Or.inr (by omega))]; exact h4 q hq
  · rw [textS, if_neg c] at hW ⊢; exact ⟨hW, h2, h3, h4⟩
theorem g_text {ro : Ro} {S : St} {I : In} {x m B b j : Nat} (h : GI S I x m B b j) (hb : b < 79000000) : Ok mX10_text ro 101 3 197 (.ref x :: []) S I (Mid mX11_text ro 4 [] x m B b j) := by
  obtain ⟨⟨hm, hB⟩, ⟨L, LM, hf⟩, T, lw, i0, ⟨hV, hk⟩, ⟨u1, ⟨u2, u3⟩, ⟨r1, r2, r3, r4⟩, q1, q2, q3, q4⟩, hz, hi⟩ := h
  obtain ⟨n, hn, e7⟩ := q1.2.2.2.1
  have ht : I (m + 6) = I (x + 80 + 1) := funext (fun q => (r3.2 q).symm)
  refine (c_X10_text (n := n) L hV hk.1 (by omega) hz hf u1 (by rw [r3.1, e7]) hn rfl).mono ?_
  rintro r S1 I1 ⟨rfl, w80, hf1, L1, F1, T', lw', i1, hV1, hW1, hl1, hle, hlw, hz1, hi1⟩
  have e : ∀ a, a < B → a ≠ x + 1 → a ≠ x + 80 → a ≠ x + 82 → a ≠ x + 83 → I1 a = I a := fun a a1 => F1.2.2 a (by omega)
  have em : ∀ a, m ≤ a → a < m + 23 → I1 a = I a := fun a a1 a2 => e a (by omega) (by omega) (by omega) (by omega) (by omega)
  have LM1 : LayM S1 m := ⟨by rw [F1.1 m (by omega)]; exact LM.1, fun k hk hr => by rw [F1.2.1 m (by omega) (by omega) (by omega) (by omega)]; exact LM.2.1 k hk hr, fun k hk => by rw [F1.1 (m + k) (by omega)]; exact LM.2.2 k hk⟩
  refine ⟨_, rfl, LM1.s, (k_X11_text (n := n) (T := T) (t := I (x + 80 + 1)) (X := I (m + 1)) LM1 (em _ (by omega) (by omega)) (by rw [em m (by omega) (by omega)]; exact e7) hn (by rw [em _ (by omega) (by omega)]; exact ht) (q3.fr (em _ (by omega) (by omega)) (em _ (by omega) (by omega))) hk.1.2.2.2.2.1.1 hk.1.2.2.2.2.1.2.1).mono ?_⟩
  rintro r2 S2 K ⟨rfl, rfl, k1, k7, y1, y2⟩
  refine ⟨rfl, ?_⟩
  have km : ∀ k, k < 7 ∨ 20 < k → K m k = I m k := fun k hk => by rw [y1 k hk, em m (by omega) (by omega)]
  have o : ∀ a, a ≠ m → a ≠ m + 1 → a < m + 9 ∨ m + 11 < a → K a = I1 a := y2
  have oo : ∀ a, a < B → a ≠ m → a ≠ m + 1 → a < m + 9 ∨ m + 11 < a → a ≠ x + 1 → a ≠ x + 80 → a ≠ x + 82 → a ≠ x + 83 → K a = I a := fun a a0 a1 a2 a3 b1 b2 b3 b4 => by rw [o a a1 a2 a3, e a a0 b1 b2 b3 b4]
  refine ⟨⟨hm, hB⟩, ⟨L1, LM1, hf1⟩, T', lw', i1, ⟨?_, by rw [k1]; exact (vk_text hk hn hW1).mono (by omega)⟩, ⟨hl1, ⟨?_, fun h0 => ?_⟩, ⟨?_, ?_, ?_, ?_⟩, ?_, ?_, ?_, fun q hq => ?_⟩, hz1, by omega⟩
  · rw [k1]
    exact hV1.eqx (P := fun a => m ≤ a ∧ a < m + 23) (fun a ha => o a (by omega) (by omega) (by omega)) (fun a z => by omega)
  · rw [oo x (by omega) (by omega) (by omega) (by omega) (by omega) (by omega) (by omega) (by omega), km 3 (by decide)]; exact u2
  · rw [km 3 (by decide)] at h0
    obtain ⟨T2, g1, g2, g3⟩ := u3 h0
    rw [oo (m + 2) (by omega) (by omega) (by omega) (by omega) (by omega) (by omega) (by omega) (by omega)]
    exact ⟨T2, by omega, (VN.img g2 (by omega) (by omega) hf F1 g1 g3.1.2.2.2.2.1.2.1 hlw).eqx (P := fun a => m ≤ a ∧ a < m + 23) (fun a ha => o a (by omega) (by omega) (by omega)) (fun a z => by omega), g3.mono (by omega)⟩
  · exact r1.fr (fun a a1 a2 => oo a (by omega) (by omega) (by omega) (by omega) (by omega) (by omega) (by omega) (by omega)) (fun a a1 a2 => oo a (by omega) (by omega) (by omega) (by omega) (by omega) (by omega) (by omega) (by omega))
  · exact r2.fr (fun a a1 a2 => oo a (by omega) (by omega) (by omega) (by omega) (by omega) (by omega) (by omega) (by omega)) (fun a a1 a2 => oo a (by omega) (by omega) (by omega) (by omega) (by omega) (by omega) (by omega) (by omega))
  · refine ⟨by rw [o (x + 80) (by omega) (by omega) (by omega), w80, k7], fun q => ?_⟩
    rw [oo (x + 80 + 1) (by omega) (by omega) (by omega) (by omega) (by omega) (by omega) (by omega) (by omega), oo (m + 6) (by omega) (by omega) (by omega) (by omega) (by omega) (by omega) (by omega) (by omega)]
    exact r3.2 q
  · exact r4.fr (by rw [oo x (by omega) (by omega) (by omega) (by omega) (by omega) (by omega) (by omega) (by omega)]) (oo _ (by omega) (by omega) (by omega) (by omega) (by omega) (by omega) (by omega) (by omega)) (km 33 (by decide)) (oo _ (by omega) (by omega) (by omega) (by omega) (by omega) (by omega) (by omega) (by omega))
  · obtain ⟨v1, v2, v3, v4, v5⟩ := q1
    refine ⟨?_, ?_, by rw [km 33 (by decide)]; exact v3, ⟨0, by decide, k7⟩, by rw [km 3 (by decide)]; exact v5⟩
    · rw [oo (m + 14) (by omega) (by omega) (by omega) (by omega) (by omega) (by omega) (by omega) (by omega), oo (m + 15) (by omega) (by omega) (by omega) (by omega) (by omega) (by omega) (by omega) (by omega)]; exact v1
    · rw [oo (m + 17) (by omega) (by omega) (by omega) (by omega) (by omega) (by omega) (by omega) (by omega), oo (m + 18) (by omega) (by omega) (by omega) (by omega) (by omega) (by omega) (by omega) (by omega)]; exact v2
  · exact q2.fr (oo _ (by omega) (by omega) (by omega) (by omega) (by omega) (by omega) (by omega) (by omega))
  · exact q3.fr (oo _ (by omega) (by omega) (by omega) (by omega) (by omega) (by omega) (by omega) (by omega)) (oo _ (by omega) (by omega) (by omega) (by omega) (by omega) (by omega) (by omega) (by omega))
  · rw [oo (m + 2) (by omega) (by omega) (by omega) (by omega) (by omega) (by omega) (by omega) (by omega)]; exact q4 q hq
