/-! the TEXTS of the array now, and what they give -/
def nfs (key : Nat) : Nat := if key = 1 then 3 else 2
def TXW (X : Ar) (T : Nat) : Prop := X 9 = nI T ∧ T ≤ 14 ∧ ∀ t, t < T → ∃ key n na, key < 3 ∧ n ≤ 96 ∧ X (116 + 2 * t) = nI (1000 * key + n) ∧ X (117 + 2 * t) = nI na ∧ WFT (fun j => X (144 + 96 * t + j)) (nfs key) n na
def wkO (X : Ar) (t : Nat) (fa : Ar) : Int32 := (wkL (fun j => X (144 + 96 * t + j)) fa (X (116 + 2 * t) % 1000).toNatClampNeg).headD 0
def txt (X : Ar) (T : Nat) (k : Int32) (fa : Ar) (df : Int32) : Int32 := if cnt X k T < 0 then df else wkO X (cnt X k T).toNatClampNeg fa
def fa3 (a b c : Int32) : Ar := fun i => match i with
  | 0 => a
  | 1 => b
  | _ => c
theorem rem_nI {a d : Nat} (ha : a < 2 ^ 31) (h0 : 0 < d) (hd : d < 2 ^ 31) : nI a % nI d = nI (a % d) := by rw [← rem_mod]; exact pk_rem ha h0 hd
theorem cnt_spec (X : Ar) (k : Int32) : ∀ T, T ≤ 14 → cnt X k T = -1 ∨ ∃ t, t < T ∧ cnt X k T = nI t ∧ X (116 + 2 * t) / 1000 = k
  | 0, _ => Or.inl rfl
  | T + 1, h => by
    rw [cnt]
    by_cases hc : X (116 + 2 * T) / 1000 = k
    · rw [if_pos hc]; exact Or.inr ⟨T, by omega, rfl, hc⟩
    · rw [if_neg hc]
      rcases cnt_spec X k T (by omega) with q | ⟨t, h1, h2, h3⟩
      · exact Or.inl q
      · exact Or.inr ⟨t, by omega, h2, h3⟩
theorem cnt_get {X : Ar} {T : Nat} {k : Nat} (hT : TXW X T) (hk : k < 3) (h : ¬ cnt X (nI k) T < 0) : ∃ t n na, t < T ∧ cnt X (nI k) T = nI t ∧ n ≤ 96 ∧ X (116 + 2 * t) % 1000 = nI n ∧ X (117 + 2 * t) = nI na ∧ WFT (fun j => X (144 + 96 * t + j)) (nfs k) n na := by
  rcases cnt_spec X (nI k) T hT.2.1 with q | ⟨t, h1, h2, h3⟩
  · exact absurd (by rw [q]; decide) h
  · obtain ⟨key, n, na, g1, g2, g3, g4, g5⟩ := hT.2.2 t h1
    have e1 : X (116 + 2 * t) / 1000 = nI key := by
      rw [g3, lit_nI 1000, pk_div (by omega) (by decide) (by decide)]
      congr 1; omega
    have e2 : key = k := (nI_eq (by omega) (by omega)).mp (e1.symm.trans h3)
    subst e2
    refine ⟨t, n, na, h1, h2, g2, ?_, g4, g5⟩
    rw [g3, lit_nI 1000, rem_nI (by omega) (by decide) (by decide)]
    congr 1; omega
theorem wk_fa {cd fa fb : Ar} {nf n na : Nat} (h : WFT cd nf n na) (hf : ∀ i, i < nf → fa i = fb i) : ∀ k, k ≤ n → wkL cd fa k = wkL cd fb k
  | 0, _ => rfl
  | k + 1, hk => by
    rw [wkL, wkL, wk_fa h hf k (by omega), wkStep, wkStep]
    by_cases c0 : cd k < 0
    · rw [if_pos c0, if_pos c0]
    · rw [if_neg c0, if_neg c0]
      by_cases c1 : 10000 ≤ cd k
      · rw [if_pos c1, if_pos c1]
        obtain ⟨i, hi, he⟩ := (h.1 k (by omega)).1 c0 c1
        have hn : nf ≤ 2 ^ 20 ∨ 2 ^ 20 < nf := by omega
        by_cases hi2 : i < 2 ^ 31
        · rw [he, nI_10k, nI_clamp hi2, hf i hi]
        · have hz : (nI i).toNatClampNeg < 2 ^ 31 := by
            have := Int32.toInt_lt (nI i)
            show (nI i).toInt.toNat < _
            omega
          rw [he, nI_10k, hf _ (by omega)]
      · rw [if_neg c1, if_neg c1]
theorem wkO_eq {X fa fb : Ar} {t n nf na : Nat} (hn : X (116 + 2 * t) % 1000 = nI n) (h9 : n ≤ 96) (h : WFT (fun j => X (144 + 96 * t + j)) nf n na) (hf : ∀ i, i < nf → fa i = fb i) : (wkL (fun j => X (144 + 96 * t + j)) fa n).headD 0 = wkO X t fb := by
  rw [wkO, hn, nI_clamp (by omega), wk_fa h hf n (Nat.le_refl _)]
def wideX (X : Ar) (T l : Nat) : Int32 := win (txt X T 0 (fa3 (wS X l) (X 7) 0) (wS X l / 10)) 0 999
def plainX (X : Ar) (T l y : Nat) : Int32 := win (txt X T 1 (fa3 (X (76 + 4 * y + 1)) (wS X l) (X 2)) (X (76 + 4 * y + 1) / 2)) 0 (X (76 + 4 * y + 1))
def givesX (X : Ar) (T l y : Nat) : Int32 :=
  if X (76 + 4 * y) = 1 then plainX X T l y / 2 else if X (76 + 4 * y) = 2 then win (plainX X T l y + 10) 0 (X (76 + 4 * y + 1)) else if X (76 + 4 * y) = 3 then plainX X T l y / 2 else if X (76 + 4 * y) = 4 then win (2 * win (plainX X T l y + 10) 0 (X (76 + 4 * y + 1))) 0 (X (76 + 4 * y + 1)) else if X (76 + 4 * y) = 5 then 0 else plainX X T l y
/-- the reference's rows that are only worked with -/
def scM (m a : Nat) : Prop := a = m + 12 ∨ a = m + 13
theorem Eqx.now {m : Nat} {I I' : In} (h : Eqx (scM m) I I') : I' (m + 1) = I (m + 1) := h (m + 1) (by unfold scM; omega)

set_option maxRecDepth 100000 in
set_option maxHeartbeats 1000000 in
theorem k_X11_wide {ro : Ro} {S : St} {I : In} {m T l : Nat} (L : LayM S m) (hT : TXW (I (m + 1)) T) (hl : I (m + 1) 7 = nI l) (hl30 : l ≤ 30) : Ok mX11_wide ro 2 0 0 [.ref m] S I (fun r S' I' => r = some (.int (wideX (I (m + 1)) T l)) ∧ S' = S ∧ Eqx (scM m) I I') := by
  refine ok_of (al := [.ref m, JJ, JJ]) (by decide) (l8 rfl) rfl ?_
  refine v_aload_n (n := 1) dX11_wide_0 rfl rfl rfl ?_
  refine v_iconst (n := 2) (v := 0) dX11_wide_1 c_0 rfl ?_
  refine v_cVi (n := 5) (x := (cnt (I (m + 1)) 0 T)) mc_X11_counts l_X11_96 iv_X11_counts se_X11_counts (ci := 10) ⟨by decide, rfl⟩ L.s (k_X11_counts L hT.1 hT.2.1) ⟨rfl, rfl⟩ (l8 rfl) ⟨l8 rfl, l8 rfl⟩ rfl rfl (l8 rfl) dX11_wide_2 rfl ?_
  refine v_istore_n (n := 6) (al' := [.ref m, .int (cnt (I (m + 1)) 0 T), JJ]) dX11_wide_5 rfl rfl rfl rfl ?_
  refine v_aload_n (n := 7) dX11_wide_6 rfl rfl rfl ?_
  refine v_cVi (n := 10) (x := (wS (I (m + 1)) l)) mc_X11_weight l_X11_100 iv_X11_weight se_X11_weight (ci := 10) ⟨by decide, rfl⟩ L.s (k_X11_weight L hl hl30) ⟨rfl, rfl⟩ (l8 rfl) ⟨l8 rfl, l8 rfl⟩ rfl rfl (l8 rfl) dX11_wide_7 rfl ?_
  refine v_istore_n (n := 11) (al' := [.ref m, .int (cnt (I (m + 1)) 0 T), .int (wS (I (m + 1)) l)]) dX11_wide_10 rfl rfl rfl rfl ?_
  refine v_aload_n (n := 12) dX11_wide_11 rfl rfl rfl ?_
  refine v_getR (n := 15) f_X11_48 rfl L.s L.g23 dX11_wide_12 rfl ?_
  refine v_iconst (n := 16) (v := 0) dX11_wide_15 c_0 rfl ?_
  refine v_iload_n (n := 17) dX11_wide_16 rfl rfl rfl ?_
  refine v_iast (n := 18) (j := 0) L.c23 (ix_lit rfl rfl rfl) dX11_wide_17 rfl ?_
  refine v_aload_n (n := 19) dX11_wide_18 rfl rfl rfl ?_
  refine v_getR (n := 22) f_X11_48 rfl L.s L.g23 dX11_wide_19 rfl ?_
  refine v_iconst (n := 23) (v := 1) dX11_wide_22 c_1 rfl ?_
  refine v_aload_n (n := 24) dX11_wide_23 rfl rfl rfl ?_
  refine v_getR (n := 27) f_X11_9 rfl L.s L.g0 dX11_wide_24 rfl ?_
  refine v_bipush (n := 29) (v := 7) dX11_wide_27 b_7 rfl ?_
  refine v_iald (n := 30) (j := 7) L.c0 (ix_lit rfl rfl rfl) dX11_wide_29 rfl ?_
  refine v_iast (n := 31) (j := 1) L.c23 (ix_lit rfl rfl rfl) dX11_wide_30 rfl ?_
  obtain ⟨I1, hI1⟩ : ∃ J9q : In, J9q = (setI (setI I (m + 13) 0 (wS (I (m + 1)) l)) (m + 13) 1 ((setI I (m + 13) 0 (wS (I (m + 1)) l)) (m + 1) 7)) := ⟨_, rfl⟩
  rw [← hI1]
  have hX1 : I1 (m + 1) = I (m + 1) := by rw [hI1, setI_ne (by omega), setI_ne (by omega)]
  have hE1 : Eqx (scM m) I I1 := by rw [hI1]; exact (Eqx.rf.set (Or.inr rfl)).set (Or.inr rfl)
  refine v_iload_n (n := 32) dX11_wide_31 rfl rfl rfl ?_
  refine v_if_ge (n := 35) (tgt := 42) dX11_wide_32 (by decide) rfl (fun hq32 => ?_) (fun hq32 => ?_)
  · have hq32 := Int32.not_lt.mpr hq32
    obtain ⟨t, n, na, ht, hc, h9, hn0, hna, hwf⟩ := cnt_get (k := 0) hT (by decide) hq32
    have hc : cnt (I (m + 1)) 0 T = nI t := hc
    have ht14 := hT.2.1
    rw [hc]
    refine v_aload_n (n := 43) dX11_wide_42 rfl rfl rfl ?_
    refine v_iload_n (n := 44) dX11_wide_43 rfl rfl rfl ?_
    refine v_callV (n := 47) mc_X11_worksOut l_X11_104 iv_X11_worksOut se_X11_worksOut (ci := 10) ⟨by decide, rfl⟩ L.s (k_X11_worksOut (t := t) L (by omega) (by rw [hX1]; exact hn0) (by rw [hX1]; exact hwf) (by decide)) ⟨rfl, rfl⟩ (l8 rfl) ⟨l8 rfl, l8 rfl⟩ rfl rfl (l8 rfl) dX11_wide_44 rfl ?_
    rintro _ _ I2 ⟨rfl, rfl, f0, hI2⟩
    refine v_iconst (n := 48) (v := 0) dX11_wide_47 c_0 rfl ?_
    refine v_sipush (n := 51) (v := 999) dX11_wide_48 s_999 rfl ?_
    refine v_cSi (n := 54) (x := (win ((wkL (fun j => I1 (m + 1) (144 + 96 * t + j)) (I1 (m + 13)) n).headD 0) 0 999)) mc_X11_within l_X11_107 sta_X11_within k_X11_within ⟨rfl, rfl⟩ (l8 rfl) ⟨l8 rfl, l8 rfl⟩ rfl rfl (l8 rfl) dX11_wide_51 rfl ?_
    refine v_iret rfl ⟨?_, rfl, hE1.tr (by rw [hI2]; exact fun a ha => row_o (fun q => ha (Or.inl q)))⟩ ⟨l8 rfl, l8 rfl⟩ dX11_wide_54
    rw [wideX, txt, if_neg hq32, hc, nI_clamp (by omega), hX1]
    rw [wkO_eq (fb := fa3 (wS (I (m + 1)) l) (I (m + 1) 7) 0) hn0 h9 hwf]
    intro i hi
    rcases (show i = 0 ∨ i = 1 by simp [nfs] at hi; omega) with rfl | rfl
    · rw [hI1]; simp [setI, fa3]
    · rw [hI1]; simp [setI, fa3]
  · have hq32 := Int32.not_le.mp hq32
    refine v_iload_n (n := 36) dX11_wide_35 rfl rfl rfl ?_
    refine v_bipush (n := 38) (v := 10) dX11_wide_36 b_10 rfl ?_
    refine v_idiv (n := 39) dX11_wide_38 (by decide) rfl ?_
    refine v_goto (tgt := 47) dX11_wide_39 (by decide) ?_
    refine v_iconst (n := 48) (v := 0) dX11_wide_47 c_0 rfl ?_
    refine v_sipush (n := 51) (v := 999) dX11_wide_48 s_999 rfl ?_
    refine v_cSi (n := 54) (x := (win ((wS (I (m + 1)) l) / 10) 0 999)) mc_X11_within l_X11_107 sta_X11_within k_X11_within ⟨rfl, rfl⟩ (l8 rfl) ⟨l8 rfl, l8 rfl⟩ rfl rfl (l8 rfl) dX11_wide_51 rfl ?_
    refine v_iret rfl ⟨?_, rfl, hE1⟩ ⟨l8 rfl, l8 rfl⟩ dX11_wide_54
    rw [wideX, txt, if_pos hq32]

set_option maxRecDepth 100000 in
set_option maxHeartbeats 1000000 in
theorem k_X11_givesOf {ro : Ro} {S : St} {I : In} {m T l y : Nat} (L : LayM S m) (hT : TXW (I (m + 1)) T) (hl : I (m + 1) 7 = nI l) (hl30 : l ≤ 30) (hy : y < 10) : Ok mX11_givesOf ro 2 0 0 [.ref m, .int (nI y)] S I (fun r S' I' => r = some (.int (givesX (I (m + 1)) T l y)) ∧ S' = S ∧ Eqx (scM m) I I') := by
  refine ok_of (al := [.ref m, .int (nI y), JJ, JJ, JJ, JJ]) (by decide) (l8 rfl) rfl ?_
  refine v_aload_n (n := 1) dX11_givesOf_0 rfl rfl rfl ?_
  refine v_iload_n (n := 2) dX11_givesOf_1 rfl rfl rfl ?_
  refine v_iconst (n := 3) (v := 1) dX11_givesOf_2 c_1 rfl ?_
  refine v_cVi (n := 6) (x := (I (m + 1) (76 + 4 * y + 1))) mc_X11_of l_X11_110 iv_X11_of se_X11_of (ci := 10) ⟨by decide, rfl⟩ L.s (k_X11_of (y := y) (u := 1) L hy (by decide)) ⟨rfl, rfl⟩ (l8 rfl) ⟨l8 rfl, l8 rfl⟩ rfl rfl (l8 rfl) dX11_givesOf_3 rfl ?_
  refine v_istore_n (n := 7) (al' := [.ref m, .int (nI y), .int (I (m + 1) (76 + 4 * y + 1)), JJ, JJ, JJ]) dX11_givesOf_6 rfl rfl rfl rfl ?_
  refine v_aload_n (n := 8) dX11_givesOf_7 rfl rfl rfl ?_
  refine v_iconst (n := 9) (v := 1) dX11_givesOf_8 c_1 rfl ?_
  refine v_cVi (n := 12) (x := (cnt (I (m + 1)) 1 T)) mc_X11_counts l_X11_96 iv_X11_counts se_X11_counts (ci := 10) ⟨by decide, rfl⟩ L.s (k_X11_counts L hT.1 hT.2.1) ⟨rfl, rfl⟩ (l8 rfl) ⟨l8 rfl, l8 rfl⟩ rfl rfl (l8 rfl) dX11_givesOf_9 rfl ?_
  refine v_istore_n (n := 13) (al' := [.ref m, .int (nI y), .int (I (m + 1) (76 + 4 * y + 1)), .int (cnt (I (m + 1)) 1 T), JJ, JJ]) dX11_givesOf_12 rfl rfl rfl rfl ?_
  refine v_aload_n (n := 14) dX11_givesOf_13 rfl rfl rfl ?_
  refine v_getR (n := 17) f_X11_48 rfl L.s L.g23 dX11_givesOf_14 rfl ?_
  refine v_iconst (n := 18) (v := 0) dX11_givesOf_17 c_0 rfl ?_
  refine v_iload_n (n := 19) dX11_givesOf_18 rfl rfl rfl ?_
  refine v_iast (n := 20) (j := 0) L.c23 (ix_lit rfl rfl rfl) dX11_givesOf_19 rfl ?_
  obtain ⟨I0, hI0⟩ : ∃ J9q : In, J9q = (setI I (m + 13) 0 (I (m + 1) (76 + 4 * y + 1))) := ⟨_, rfl⟩
  rw [← hI0]
  have hX0 : I0 (m + 1) = I (m + 1) := by rw [hI0, setI_ne (by omega)]
  refine v_aload_n (n := 21) dX11_givesOf_20 rfl rfl rfl ?_
  refine v_getR (n := 24) f_X11_48 rfl L.s L.g23 dX11_givesOf_21 rfl ?_
  refine v_iconst (n := 25) (v := 1) dX11_givesOf_24 c_1 rfl ?_
  refine v_aload_n (n := 26) dX11_givesOf_25 rfl rfl rfl ?_
  refine v_cVi (n := 29) (x := (wS (I0 (m + 1)) l)) mc_X11_weight l_X11_100 iv_X11_weight se_X11_weight (ci := 10) ⟨by decide, rfl⟩ L.s (k_X11_weight L (by rw [hX0]; exact hl) hl30) ⟨rfl, rfl⟩ (l8 rfl) ⟨l8 rfl, l8 rfl⟩ rfl rfl (l8 rfl) dX11_givesOf_26 rfl ?_
  refine v_iast (n := 30) (j := 1) L.c23 (ix_lit rfl rfl rfl) dX11_givesOf_29 rfl ?_
  refine v_aload_n (n := 31) dX11_givesOf_30 rfl rfl rfl ?_
  refine v_getR (n := 34) f_X11_48 rfl L.s L.g23 dX11_givesOf_31 rfl ?_
  refine v_iconst (n := 35) (v := 2) dX11_givesOf_34 c_2 rfl ?_
  refine v_aload_n (n := 36) dX11_givesOf_35 rfl rfl rfl ?_
  refine v_getR (n := 39) f_X11_9 rfl L.s L.g0 dX11_givesOf_36 rfl ?_
  refine v_iconst (n := 40) (v := 2) dX11_givesOf_39 c_2 rfl ?_
  refine v_iald (n := 41) (j := 2) L.c0 (ix_lit rfl rfl rfl) dX11_givesOf_40 rfl ?_
  refine v_iast (n := 42) (j := 2) L.c23 (ix_lit rfl rfl rfl) dX11_givesOf_41 rfl ?_
  obtain ⟨I1, hI1⟩ : ∃ J9q : In, J9q = (setI (setI I0 (m + 13) 1 (wS (I0 (m + 1)) l)) (m + 13) 2 ((setI I0 (m + 13) 1 (wS (I0 (m + 1)) l)) (m + 1) 2)) := ⟨_, rfl⟩
  rw [← hI1]
  rw [hX0] at hI1
  have hX1 : I1 (m + 1) = I (m + 1) := by rw [hI1, setI_ne (by omega), setI_ne (by omega)]; exact hX0
  have hE1 : Eqx (scM m) I I1 := by rw [hI1, hI0]; exact ((Eqx.rf.set (Or.inr rfl)).set (Or.inr rfl)).set (Or.inr rfl)
  refine v_iload_n (n := 43) dX11_givesOf_42 rfl rfl rfl ?_
  refine v_if_ge (n := 46) (tgt := 52) dX11_givesOf_43 (by decide) rfl (fun hq43 => ?_) (fun hq43 => ?_)
  · have hq43 := Int32.not_lt.mpr hq43
    obtain ⟨t, n, na, ht, hc, h9, hn0, hna, hwf⟩ := cnt_get (k := 1) hT (by decide) hq43
    have hc : cnt (I (m + 1)) 1 T = nI t := hc
    have ht14 := hT.2.1
    rw [hc]
    refine v_aload_n (n := 53) dX11_givesOf_52 rfl rfl rfl ?_
    refine v_iload_n (n := 54) dX11_givesOf_53 rfl rfl rfl ?_
    refine v_callV (n := 57) mc_X11_worksOut l_X11_104 iv_X11_worksOut se_X11_worksOut (ci := 10) ⟨by decide, rfl⟩ L.s (k_X11_worksOut (t := t) L (by omega) (by rw [hX1]; exact hn0) (by rw [hX1]; exact hwf) (by decide)) ⟨rfl, rfl⟩ (l8 rfl) ⟨l8 rfl, l8 rfl⟩ rfl rfl (l8 rfl) dX11_givesOf_54 rfl ?_
    rintro _ _ I2 ⟨rfl, rfl, f0, hI2⟩
    refine v_iconst (n := 58) (v := 0) dX11_givesOf_57 c_0 rfl ?_
    refine v_iload_n (n := 59) dX11_givesOf_58 rfl rfl rfl ?_
    refine v_cSi (n := 62) (x := (win ((wkL (fun j => I1 (m + 1) (144 + 96 * t + j)) (I1 (m + 13)) n).headD 0) 0 (I (m + 1) (76 + 4 * y + 1)))) mc_X11_within l_X11_107 sta_X11_within k_X11_within ⟨rfl, rfl⟩ (l8 rfl) ⟨l8 rfl, l8 rfl⟩ rfl rfl (l8 rfl) dX11_givesOf_59 rfl ?_
    have hX2 : I2 (m + 1) = I (m + 1) := by rw [hI2, row_o (by omega)]; exact hX1
    have hE9 : Eqx (scM m) I I2 := hE1.tr (by rw [hI2]; exact fun a ha => row_o (fun q => ha (Or.inl q)))
    have hpl : win ((wkL (fun j => I1 (m + 1) (144 + 96 * t + j)) (I1 (m + 13)) n).headD 0) 0 (I (m + 1) (76 + 4 * y + 1)) = plainX (I (m + 1)) T l y := by
      rw [plainX, txt, if_neg hq43, hc, nI_clamp (by omega), hX1]
      rw [wkO_eq (fb := fa3 (I (m + 1) (76 + 4 * y + 1)) (wS (I (m + 1)) l) (I (m + 1) 2)) hn0 h9 hwf]
      intro i hi
      rcases (show i = 0 ∨ i = 1 ∨ i = 2 by simp [nfs] at hi; omega) with rfl | rfl | rfl
      · rw [hI1, hI0]; simp [setI, fa3]
      · rw [hI1]; simp [setI, fa3]
      · rw [hI1]; simp [setI, fa3, hX0]
    rw [hpl]
    refine v_istore (n := 64) (al' := [.ref m, .int (nI y), .int (I (m + 1) (76 + 4 * y + 1)), .int (nI t), .int (plainX (I (m + 1)) T l y), JJ]) dX11_givesOf_62 rfl rfl rfl ?_
    refine v_iload (n := 66) dX11_givesOf_64 rfl rfl ?_
    refine v_bipush (n := 68) (v := 10) dX11_givesOf_66 b_10 rfl ?_
    refine v_iadd (n := 69) dX11_givesOf_68 rfl ?_
    refine v_iconst (n := 70) (v := 0) dX11_givesOf_69 c_0 rfl ?_
    refine v_iload_n (n := 71) dX11_givesOf_70 rfl rfl rfl ?_
    refine v_cSi (n := 74) (x := (win ((plainX (I (m + 1)) T l y) + 10) 0 (I (m + 1) (76 + 4 * y + 1)))) mc_X11_within l_X11_107 sta_X11_within k_X11_within ⟨rfl, rfl⟩ (l8 rfl) ⟨l8 rfl, l8 rfl⟩ rfl rfl (l8 rfl) dX11_givesOf_71 rfl ?_
    refine v_istore (n := 76) (al' := [.ref m, .int (nI y), .int (I (m + 1) (76 + 4 * y + 1)), .int (nI t), .int (plainX (I (m + 1)) T l y), .int (win ((plainX (I (m + 1)) T l y) + 10) 0 (I (m + 1) (76 + 4 * y + 1)))]) dX11_givesOf_74 rfl rfl rfl ?_
    refine v_aload_n (n := 77) dX11_givesOf_76 rfl rfl rfl ?_
    refine v_iload_n (n := 78) dX11_givesOf_77 rfl rfl rfl ?_
    refine v_iconst (n := 79) (v := 0) dX11_givesOf_78 c_0 rfl ?_
    refine v_cVi (n := 82) (x := (I2 (m + 1) (76 + 4 * y))) mc_X11_of l_X11_110 iv_X11_of se_X11_of (ci := 10) ⟨by decide, rfl⟩ L.s (k_X11_of (y := y) (u := 0) L hy (by decide)) ⟨rfl, rfl⟩ (l8 rfl) ⟨l8 rfl, l8 rfl⟩ rfl rfl (l8 rfl) dX11_givesOf_79 rfl ?_
    rw [hX2]
    by_cases hw82_0 : (I (m + 1) (76 + 4 * y)) = 1
    · refine v_table (tgt := 116) (off := 34) dX11_givesOf_82 (by rw [hw82_0, t_1]; decide) (by rw [hw82_0, t_1]; rfl) (by decide) ?_
      refine v_iload (n := 118) dX11_givesOf_116 rfl rfl ?_
      refine v_iconst (n := 119) (v := 2) dX11_givesOf_118 c_2 rfl ?_
      refine v_idiv (n := 120) dX11_givesOf_119 (by decide) rfl ?_
      refine v_iret rfl ⟨by simp only [givesX]; simp [*], rfl, hE9⟩ ⟨l8 rfl, l8 rfl⟩ dX11_givesOf_120
    by_cases hw82_1 : (I (m + 1) (76 + 4 * y)) = 2
    · refine v_table (tgt := 121) (off := 39) dX11_givesOf_82 (by rw [hw82_1, t_2]; decide) (by rw [hw82_1, t_2]; rfl) (by decide) ?_
      refine v_iload (n := 123) dX11_givesOf_121 rfl rfl ?_
      refine v_iret rfl ⟨by simp only [givesX]; simp [*], rfl, hE9⟩ ⟨l8 rfl, l8 rfl⟩ dX11_givesOf_123
    by_cases hw82_2 : (I (m + 1) (76 + 4 * y)) = 3
    · refine v_table (tgt := 116) (off := 34) dX11_givesOf_82 (by rw [hw82_2, t_3]; decide) (by rw [hw82_2, t_3]; rfl) (by decide) ?_
      refine v_iload (n := 118) dX11_givesOf_116 rfl rfl ?_
      refine v_iconst (n := 119) (v := 2) dX11_givesOf_118 c_2 rfl ?_
      refine v_idiv (n := 120) dX11_givesOf_119 (by decide) rfl ?_
      refine v_iret rfl ⟨by simp only [givesX]; simp [*], rfl, hE9⟩ ⟨l8 rfl, l8 rfl⟩ dX11_givesOf_120
    by_cases hw82_3 : (I (m + 1) (76 + 4 * y)) = 4
    · refine v_table (tgt := 124) (off := 42) dX11_givesOf_82 (by rw [hw82_3, t_4]; decide) (by rw [hw82_3, t_4]; rfl) (by decide) ?_
      refine v_iconst (n := 125) (v := 2) dX11_givesOf_124 c_2 rfl ?_
      refine v_iload (n := 127) dX11_givesOf_125 rfl rfl ?_
      refine v_imul (n := 128) dX11_givesOf_127 rfl ?_
      refine v_iconst (n := 129) (v := 0) dX11_givesOf_128 c_0 rfl ?_
      refine v_iload_n (n := 130) dX11_givesOf_129 rfl rfl rfl ?_
      refine v_cSi (n := 133) (x := (win (2 * (win ((plainX (I (m + 1)) T l y) + 10) 0 (I (m + 1) (76 + 4 * y + 1)))) 0 (I (m + 1) (76 + 4 * y + 1)))) mc_X11_within l_X11_107 sta_X11_within k_X11_within ⟨rfl, rfl⟩ (l8 rfl) ⟨l8 rfl, l8 rfl⟩ rfl rfl (l8 rfl) dX11_givesOf_130 rfl ?_
      refine v_iret rfl ⟨by simp only [givesX]; simp [*], rfl, hE9⟩ ⟨l8 rfl, l8 rfl⟩ dX11_givesOf_133
    by_cases hw82_4 : (I (m + 1) (76 + 4 * y)) = 5
    · refine v_table (tgt := 134) (off := 52) dX11_givesOf_82 (by rw [hw82_4, t_5]; decide) (by rw [hw82_4, t_5]; rfl) (by decide) ?_
      refine v_iconst (n := 135) (v := 0) dX11_givesOf_134 c_0 rfl ?_
      refine v_iret rfl ⟨by simp only [givesX]; simp [*], rfl, hE9⟩ ⟨l8 rfl, l8 rfl⟩ dX11_givesOf_135
    refine v_tableO (tgt := 136) dX11_givesOf_82 (sw_out5 (lo := 1) hw82_0 hw82_1 hw82_2 hw82_3 hw82_4 t_1 t_2 t_3 t_4 t_5) (by decide) ?_
    refine v_iload (n := 138) dX11_givesOf_136 rfl rfl ?_
    refine v_iret rfl ⟨by simp only [givesX]; simp [*], rfl, hE9⟩ ⟨l8 rfl, l8 rfl⟩ dX11_givesOf_138
  · have hq43 := Int32.not_le.mp hq43
    refine v_iload_n (n := 47) dX11_givesOf_46 rfl rfl rfl ?_
    refine v_iconst (n := 48) (v := 2) dX11_givesOf_47 c_2 rfl ?_
    refine v_idiv (n := 49) dX11_givesOf_48 (by decide) rfl ?_
    refine v_goto (tgt := 57) dX11_givesOf_49 (by decide) ?_
    refine v_iconst (n := 58) (v := 0) dX11_givesOf_57 c_0 rfl ?_
    refine v_iload_n (n := 59) dX11_givesOf_58 rfl rfl rfl ?_
    refine v_cSi (n := 62) (x := (win ((I (m + 1) (76 + 4 * y + 1)) / 2) 0 (I (m + 1) (76 + 4 * y + 1)))) mc_X11_within l_X11_107 sta_X11_within k_X11_within ⟨rfl, rfl⟩ (l8 rfl) ⟨l8 rfl, l8 rfl⟩ rfl rfl (l8 rfl) dX11_givesOf_59 rfl ?_
    have hX2 := hX1
    have hE9 := hE1
    have hpl : win (I (m + 1) (76 + 4 * y + 1) / 2) 0 (I (m + 1) (76 + 4 * y + 1)) = plainX (I (m + 1)) T l y := by rw [plainX, txt, if_pos hq43]
    rw [hpl]
    refine v_istore (n := 64) (al' := [.ref m, .int (nI y), .int (I (m + 1) (76 + 4 * y + 1)), .int (cnt (I (m + 1)) 1 T), .int (plainX (I (m + 1)) T l y), JJ]) dX11_givesOf_62 rfl rfl rfl ?_
    refine v_iload (n := 66) dX11_givesOf_64 rfl rfl ?_
    refine v_bipush (n := 68) (v := 10) dX11_givesOf_66 b_10 rfl ?_
    refine v_iadd (n := 69) dX11_givesOf_68 rfl ?_
    refine v_iconst (n := 70) (v := 0) dX11_givesOf_69 c_0 rfl ?_
    refine v_iload_n (n := 71) dX11_givesOf_70 rfl rfl rfl ?_
    refine v_cSi (n := 74) (x := (win ((plainX (I (m + 1)) T l y) + 10) 0 (I (m + 1) (76 + 4 * y + 1)))) mc_X11_within l_X11_107 sta_X11_within k_X11_within ⟨rfl, rfl⟩ (l8 rfl) ⟨l8 rfl, l8 rfl⟩ rfl rfl (l8 rfl) dX11_givesOf_71 rfl ?_
    refine v_istore (n := 76) (al' := [.ref m, .int (nI y), .int (I (m + 1) (76 + 4 * y + 1)), .int (cnt (I (m + 1)) 1 T), .int (plainX (I (m + 1)) T l y), .int (win ((plainX (I (m + 1)) T l y) + 10) 0 (I (m + 1) (76 + 4 * y + 1)))]) dX11_givesOf_74 rfl rfl rfl ?_
    refine v_aload_n (n := 77) dX11_givesOf_76 rfl rfl rfl ?_
    refine v_iload_n (n := 78) dX11_givesOf_77 rfl rfl rfl ?_
    refine v_iconst (n := 79) (v := 0) dX11_givesOf_78 c_0 rfl ?_
    refine v_cVi (n := 82) (x := (I1 (m + 1) (76 + 4 * y))) mc_X11_of l_X11_110 iv_X11_of se_X11_of (ci := 10) ⟨by decide, rfl⟩ L.s (k_X11_of (y := y) (u := 0) L hy (by decide)) ⟨rfl, rfl⟩ (l8 rfl) ⟨l8 rfl, l8 rfl⟩ rfl rfl (l8 rfl) dX11_givesOf_79 rfl ?_
    rw [hX2]
    by_cases hw82_0 : (I (m + 1) (76 + 4 * y)) = 1
    · refine v_table (tgt := 116) (off := 34) dX11_givesOf_82 (by rw [hw82_0, t_1]; decide) (by rw [hw82_0, t_1]; rfl) (by decide) ?_
      refine v_iload (n := 118) dX11_givesOf_116 rfl rfl ?_
      refine v_iconst (n := 119) (v := 2) dX11_givesOf_118 c_2 rfl ?_
      refine v_idiv (n := 120) dX11_givesOf_119 (by decide) rfl ?_
      refine v_iret rfl ⟨by simp only [givesX]; simp [*], rfl, hE9⟩ ⟨l8 rfl, l8 rfl⟩ dX11_givesOf_120
    by_cases hw82_1 : (I (m + 1) (76 + 4 * y)) = 2
    · refine v_table (tgt := 121) (off := 39) dX11_givesOf_82 (by rw [hw82_1, t_2]; decide) (by rw [hw82_1, t_2]; rfl) (by decide) ?_
      refine v_iload (n := 123) dX11_givesOf_121 rfl rfl ?_
      refine v_iret rfl ⟨by simp only [givesX]; simp [*], rfl, hE9⟩ ⟨l8 rfl, l8 rfl⟩ dX11_givesOf_123
    by_cases hw82_2 : (I (m + 1) (76 + 4 * y)) = 3
    · refine v_table (tgt := 116) (off := 34) dX11_givesOf_82 (by rw [hw82_2, t_3]; decide) (by rw [hw82_2, t_3]; rfl) (by decide) ?_
      refine v_iload (n := 118) dX11_givesOf_116 rfl rfl ?_
      refine v_iconst (n := 119) (v := 2) dX11_givesOf_118 c_2 rfl ?_
      refine v_idiv (n := 120) dX11_givesOf_119 (by decide) rfl ?_
      refine v_iret rfl ⟨by simp only [givesX]; simp [*], rfl, hE9⟩ ⟨l8 rfl, l8 rfl⟩ dX11_givesOf_120
    by_cases hw82_3 : (I (m + 1) (76 + 4 * y)) = 4
    · refine v_table (tgt := 124) (off := 42) dX11_givesOf_82 (by rw [hw82_3, t_4]; decide) (by rw [hw82_3, t_4]; rfl) (by decide) ?_
      refine v_iconst (n := 125) (v := 2) dX11_givesOf_124 c_2 rfl ?_
      refine v_iload (n := 127) dX11_givesOf_125 rfl rfl ?_
      refine v_imul (n := 128) dX11_givesOf_127 rfl ?_
      refine v_iconst (n := 129) (v := 0) dX11_givesOf_128 c_0 rfl ?_
      refine v_iload_n (n := 130) dX11_givesOf_129 rfl rfl rfl ?_
      refine v_cSi (n := 133) (x := (win (2 * (win ((plainX (I (m + 1)) T l y) + 10) 0 (I (m + 1) (76 + 4 * y + 1)))) 0 (I (m + 1) (76 + 4 * y + 1)))) mc_X11_within l_X11_107 sta_X11_within k_X11_within ⟨rfl, rfl⟩ (l8 rfl) ⟨l8 rfl, l8 rfl⟩ rfl rfl (l8 rfl) dX11_givesOf_130 rfl ?_
      refine v_iret rfl ⟨by simp only [givesX]; simp [*], rfl, hE9⟩ ⟨l8 rfl, l8 rfl⟩ dX11_givesOf_133
    by_cases hw82_4 : (I (m + 1) (76 + 4 * y)) = 5
    · refine v_table (tgt := 134) (off := 52) dX11_givesOf_82 (by rw [hw82_4, t_5]; decide) (by rw [hw82_4, t_5]; rfl) (by decide) ?_
      refine v_iconst (n := 135) (v := 0) dX11_givesOf_134 c_0 rfl ?_
      refine v_iret rfl ⟨by simp only [givesX]; simp [*], rfl, hE9⟩ ⟨l8 rfl, l8 rfl⟩ dX11_givesOf_135
    refine v_tableO (tgt := 136) dX11_givesOf_82 (sw_out5 (lo := 1) hw82_0 hw82_1 hw82_2 hw82_3 hw82_4 t_1 t_2 t_3 t_4 t_5) (by decide) ?_
    refine v_iload (n := 138) dX11_givesOf_136 rfl rfl ?_
    refine v_iret rfl ⟨by simp only [givesX]; simp [*], rfl, hE9⟩ ⟨l8 rfl, l8 rfl⟩ dX11_givesOf_138

