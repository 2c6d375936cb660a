/-! what a DAY keeps -/
theorem fw_spec {X : Ar} {T l n p : Nat} (h1 : X 1 = nI n) (hn : n ≤ 10) (h6 : X 6 = nI p) (hp : p < n) : ∀ k, (∃ p', p' < n ∧ fwX X T l k 6 = nI p') ∧ ∀ j, j ≠ 6 → (j < 76 ∨ 116 ≤ j ∨ j % 4 < 2) → fwX X T l k j = X j
  | 0 => ⟨⟨p, hp, h6⟩, fun _ _ _ => rfl⟩
  | k + 1 => by
    obtain ⟨⟨p', g1, g2⟩, g3⟩ := fw_spec (T := T) (l := l) h1 hn h6 hp k
    have hpl : pl (fwX X T l k) = p' := by rw [pl, g2, nI_clamp (by omega)]
    refine ⟨⟨(p' + 1) % n, Nat.mod_lt _ (by omega), ?_⟩, fun j j1 j2 => ?_⟩
    · rw [fwX, pk_us, g2, g3 1 (by decide) (by decide), h1, nI_1, rem_nI (by omega) (by omega) (by omega)]
    · rw [fwX, pk_un j1, pass_o (by rw [hpl]; omega) (by rw [hpl]; omega)]
      exact g3 j j1 j2
theorem bk_spec {X : Ar} {n p : Nat} (h1 : X 1 = nI n) (hn : n ≤ 10) (h6 : X 6 = nI p) (hp : p < n) : ∃ p', p' < n ∧ bkP X 6 = nI p' := by
  refine ⟨(p + n - 1) % n, Nat.mod_lt _ (by omega), ?_⟩
  rw [bkP, pk_us, h6, h1, nI_add, nI_p1 (by omega), rem_nI (by omega) (by omega) (by omega)]
theorem bw_spec {X : Ar} {T l n p : Nat} (h1 : X 1 = nI n) (hn : n ≤ 10) (h6 : X 6 = nI p) (hp : p < n) : ∀ k, (∃ p', p' < n ∧ bwX X T l k 6 = nI p') ∧ ∀ j, j ≠ 6 → (j < 76 ∨ 116 ≤ j ∨ j % 4 < 2) → bwX X T l k j = X j
  | 0 => ⟨⟨p, hp, h6⟩, fun _ _ _ => rfl⟩
  | k + 1 => by
    obtain ⟨⟨p', g1, g2⟩, g3⟩ := bw_spec (T := T) (l := l) h1 hn h6 hp k
    obtain ⟨p2, q1, q2⟩ := bk_spec ((g3 1 (by decide) (by decide)).trans h1) hn g2 g1
    have hpl : pl (bkP (bwX X T l k)) = p2 := by rw [pl, q2, nI_clamp (by omega)]
    refine ⟨⟨p2, q1, ?_⟩, fun j j1 j2 => ?_⟩
    · rw [bwX, pass_o (by omega) (by omega)]; exact q2
    · rw [bwX, pass_o (by rw [hpl]; omega) (by rw [hpl]; omega), bkP, pk_un j1]
      exact g3 j j1 j2
theorem sn_o {X : Ar} {j : Nat} : ∀ i, (j < 76 ∨ 76 + 4 * i ≤ j ∨ j % 4 ≠ 1) → snX X i j = X j
  | 0, _ => rfl
  | i + 1, h => by rw [snX, pk_un (by omega), sn_o i (by omega)]
theorem sn_in {X : Ar} {y : Nat} : ∀ i, y < i → ∃ s, s ≤ 999 ∧ snX X i (76 + 4 * y + 1) = nI s
  | i + 1, h => by
    rw [snX]
    by_cases hy : y = i
    · subst hy
      rw [pk_us]
      exact win_rng _ (s := 999) (by decide)
    · rw [pk_un (by omega)]
      exact sn_in i (by omega)
theorem d2_spec {X : Ar} {T n l b : Nat} (h : WX X T n l b) (hb : b < 2 ^ 30) : ∃ l2, l2 ≤ 30 ∧ dy2 X l 7 = nI l2 ∧ ln (dy2 X l) = l2 ∧ TXW (dy2 X l) T ∧ KS (dy2 X l) l2 b ∧ ∀ j, j ≠ 0 → j ≠ 7 → j ≠ 8 → (j < 10 ∨ 16 ≤ j) → (j < 17 ∨ 76 ≤ j ∨ j % 2 = 0) → dy2 X l j = X j := by
  obtain ⟨h1, hn, h7, hl, hT, hK, -, ⟨w, hw, h3⟩, -, -⟩ := h
  obtain ⟨a, ha, ea⟩ := dyT_rng (p := pl X) hw h3
  obtain ⟨l2, q1, q2, q3, q4⟩ := thaw_spec l (upd X 0 (drawZ (X 0))) a b hl (by omega) hb ((pk_un (by decide)).trans h7) (hK.cong fun i _ => pk_un (by omega))
  have hj : ∀ j, j ≠ 0 → j ≠ 7 → j ≠ 8 → (j < 10 ∨ 16 ≤ j) → (j < 17 ∨ 76 ≤ j ∨ j % 2 = 0) → dy2 X l j = X j := fun j j0 j1 j2 j3 j4 => by
    rw [dy2, ea, q4 j j1 j2 j3 j4, pk_un j0]
  have e7 : dy2 X l 7 = nI l2 := by rw [dy2, ea]; exact q2
  refine ⟨l2, by omega, e7, by rw [ln, e7, nI_clamp (by omega)], hT.cong (hj 9 (by decide) (by decide) (by decide) (by decide) (by decide)) (fun j hj2 => hj j (by omega) (by omega) (by omega) (by omega) (by omega)), ?_, hj⟩
  rw [dy2, ea]
  exact q3
theorem d4_spec {X : Ar} {T n l b p : Nat} (h : WX X T n l b) (hb : b < 2 ^ 30) (hp : p < n) (h6 : X 6 = nI p) : ∃ l4, l4 ≤ 30 ∧ dy4 X T l 7 = nI l4 ∧ ln (dy4 X T l) = l4 ∧ TXW (dy4 X T l) T ∧ KS (dy4 X T l) l4 (b + 999) ∧ (∀ j, j ≠ 0 → j ≠ 7 → j ≠ 8 → (j < 10 ∨ 76 ≤ j) → j ≠ 76 + 4 * p + 1 → dy4 X T l j = X j) ∧ ∃ s, s ≤ 999 ∧ dy4 X T l (76 + 4 * p + 1) = nI s := by
  have hpl : pl X = p := by rw [pl, h6, nI_clamp (by have := h.2.1; omega)]
  obtain ⟨l2, g1, g2, g3, g4, g5, g6⟩ := d2_spec h hb
  obtain ⟨s, hs, es⟩ := (h.2.2.2.2.2.2.2.2.2 p hp).2
  have e1 : dy2 X l (76 + 4 * p + 1) = nI s := (g6 _ (by omega) (by omega) (by omega) (by omega) (by omega)).trans es
  obtain ⟨g, hg, eg⟩ := gives_rng (T := T) (l := l2) hs e1
  have ed3 : dy3 X T l = upd (dy2 X l) (76 + 4 * p + 1) (nI (s - g)) := by rw [dy3, hpl, g3, eg, e1, pk_sub hg]
  have ed4 : dy4 X T l = if 0 < nI g then packX (dy3 X T l) l2 (X 6) (nI g) else dy3 X T l := by rw [dy4, hpl, g3, eg]
  have k3 : KS (dy3 X T l) l2 b := by rw [ed3]; exact g5.cong fun i hi => pk_un (by omega)
  have h73 : dy3 X T l 7 = nI l2 := by rw [ed3, pk_un (by omega)]; exact g2
  by_cases hc : 0 < nI g
  · rw [if_pos hc] at ed4
    have hg1 : 1 ≤ g := by
      rcases Nat.eq_zero_or_pos g with q | q
      · subst q; exact absurd hc (by decide)
      · exact q
    obtain ⟨l4, q1, q2, q3, q4⟩ := pack_spec (y := X 6) g1 h73 k3 hg1
    rw [← ed4] at q2 q3 q4
    have hj : ∀ j, j ≠ 0 → j ≠ 7 → j ≠ 8 → (j < 10 ∨ 76 ≤ j) → j ≠ 76 + 4 * p + 1 → dy4 X T l j = X j := fun j j0 j1 j2 j3 j4 => by
      rw [q4 j j1 (by omega), ed3, pk_un j4]; exact g6 j j0 j1 j2 (by omega) (by omega)
    refine ⟨l4, q1, q2, by rw [ln, q2, nI_clamp (by omega)], h.2.2.2.2.1.cong (hj 9 (by decide) (by decide) (by decide) (by decide) (by omega)) (fun j hj2 => hj j (by omega) (by omega) (by omega) (by omega) (by have := h.2.1; omega)), q3.mono (by omega), hj, s - g, by omega, ?_⟩
    rw [q4 _ (by omega) (by omega), ed3, pk_us]
  · rw [if_neg hc] at ed4
    have hj : ∀ j, j ≠ 0 → j ≠ 7 → j ≠ 8 → (j < 10 ∨ 76 ≤ j) → j ≠ 76 + 4 * p + 1 → dy4 X T l j = X j := fun j j0 j1 j2 j3 j4 => by
      rw [ed4, ed3, pk_un j4]; exact g6 j j0 j1 j2 (by omega) (by omega)
    have h74 : dy4 X T l 7 = nI l2 := by rw [ed4]; exact h73
    refine ⟨l2, g1, h74, by rw [ln, h74, nI_clamp (by omega)], h.2.2.2.2.1.cong (hj 9 (by decide) (by decide) (by decide) (by decide) (by omega)) (fun j hj2 => hj j (by omega) (by omega) (by omega) (by omega) (by have := h.2.1; omega)), by rw [ed4]; exact k3.mono (by omega), hj, s - g, by omega, by rw [ed4, ed3, pk_us]⟩
theorem day_WX {X : Ar} {T n l b : Nat} (h : WX X T n l b) (hb : b + 999 < 2 ^ 30) (m : Int32) : ∃ l', ln (dayX X T n l m) = l' ∧ WX (dayX X T n l m) T n l' (b + 999) := by
  have hn10 := h.2.1
  by_cases hn : n = 0
  · have ed : dayX X T n l m = upd X 2 (X 2 + 1) := if_pos hn
    have hj : ∀ j, j ≠ 2 → dayX X T n l m j = X j := fun j j1 => by rw [ed, pk_un j1]
    obtain ⟨h1, -, h7, hl, hT, hK, ⟨p, hp, hp2⟩, ⟨w, hw, h3⟩, ⟨f, hf, h4⟩, hy⟩ := h
    have e7 := (hj 7 (by decide)).trans h7
    refine ⟨l, by rw [ln, e7, nI_clamp (by omega)], (hj 1 (by decide)).trans h1, hn10, e7, hl, hT.cong (hj 9 (by decide)) (fun j q => hj j (by omega)), (hK.cong fun i _ => hj _ (by omega)).mono (by omega), ⟨p, (hj 6 (by decide)).trans hp, hp2⟩, ⟨w, hw, (hj 3 (by decide)).trans h3⟩, ⟨f, hf, (hj 4 (by decide)).trans h4⟩, fun y hy2 => absurd hy2 (by omega)⟩
  · have ed : dayX X T n l m = upd (snX (dy6 X T l m) n) 2 (snX (dy6 X T l m) n 2 + 1) := if_neg hn
    obtain ⟨p, h6, hp⟩ := h.2.2.2.2.2.2.1
    have hp : p < n := by omega
    obtain ⟨l4, q1, q2, q3, q4, q5, q6, s4, q7, q8⟩ := d4_spec h (by omega) hp h6
    have f1 : dy4 X T l 1 = nI n := (q6 1 (by decide) (by decide) (by decide) (by decide) (by omega)).trans h.1
    have f6 : dy4 X T l 6 = nI p := (q6 6 (by decide) (by decide) (by decide) (by decide) (by omega)).trans h6
    obtain ⟨⟨p5, r1, r2⟩, r3⟩ := fw_spec (T := T) (l := ln (dy4 X T l)) f1 hn10 f6 hp (dyS X m).toNatClampNeg
    obtain ⟨⟨p6, u1, u2⟩, u3⟩ := bw_spec (T := T) (l := ln (dy4 X T l)) ((r3 1 (by decide) (by decide)).trans f1) hn10 r2 r1 (-(dyS X m)).toNatClampNeg
    have e6 : ∀ j, j ≠ 6 → (j < 76 ∨ 116 ≤ j ∨ j % 4 < 2) → dy6 X T l m j = dy4 X T l j := fun j j1 j2 => (u3 j j1 j2).trans (r3 j j1 j2)
    have e7 : ∀ j, j ≠ 2 → j ≠ 6 → (j < 76 ∨ 116 ≤ j ∨ j % 4 = 0) → dayX X T n l m j = dy4 X T l j := fun j j1 j2 j3 => by
      rw [ed, pk_un j1, sn_o n (by omega), e6 j j2 (by omega)]
    have h7' : dayX X T n l m 7 = nI l4 := (e7 7 (by decide) (by decide) (by decide)).trans q2
    have hj : ∀ j, j ≠ 0 → j ≠ 2 → j ≠ 6 → j ≠ 7 → j ≠ 8 → (j < 10 ∨ 76 ≤ j) → (j < 76 ∨ 116 ≤ j ∨ j % 4 = 0) → dayX X T n l m j = X j := fun j a0 a1 a2 a3 a4 a5 a6 => by
      rw [e7 j a1 a2 a6]; exact q6 j a0 a3 a4 a5 (by omega)
    obtain ⟨h1, -, h7, hl, hT, hK, -, ⟨w, hw, h3⟩, ⟨f, hf, h4⟩, hy⟩ := h
    refine ⟨l4, by rw [ln, h7', nI_clamp (by omega)], (hj 1 (by decide) (by decide) (by decide) (by decide) (by decide) (by decide) (by decide)).trans h1, hn10, h7', q1, hT.cong (hj 9 (by decide) (by decide) (by decide) (by decide) (by decide) (by decide) (by decide)) (fun j q => hj j (by omega) (by omega) (by omega) (by omega) (by omega) (by omega) (by omega)), q5.cong (fun i hi => e7 _ (by omega) (by omega) (by omega)), ⟨p6, ?_, Or.inl u1⟩, ⟨w, hw, (hj 3 (by decide) (by decide) (by decide) (by decide) (by decide) (by decide) (by decide)).trans h3⟩, ⟨f, hf, (hj 4 (by decide) (by decide) (by decide) (by decide) (by decide) (by decide) (by decide)).trans h4⟩, fun y hy2 => ⟨?_, ?_⟩⟩
    · rw [ed, pk_un (by decide), sn_o n (by omega)]; exact u2
    · obtain ⟨k, hk, ek⟩ := (hy y hy2).1
      exact ⟨k, hk, (hj _ (by omega) (by omega) (by omega) (by omega) (by omega) (by omega) (by omega)).trans ek⟩
    · rw [ed, pk_un (by omega)]
      exact sn_in n hy2

