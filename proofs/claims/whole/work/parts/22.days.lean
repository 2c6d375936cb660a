/-! ===== many DAYS of the reference; what is only thought ===== -/
theorem day_keep {X : Ar} {T n l b : Nat} (h : WX X T n l b) (hb : b + 999 < 2 ^ 30) (m : Int32) : ∀ j, j ≠ 0 → j ≠ 2 → j ≠ 6 → j ≠ 7 → j ≠ 8 → (j < 10 ∨ 116 ≤ j) → dayX X T n l m j = X j := by
  intro j a0 a1 a2 a3 a4 a5
  have hn10 := h.2.1
  by_cases hn : n = 0
  · rw [dayX, if_pos hn, pk_un a1]
  · rw [dayX, if_neg hn, pk_un a1, sn_o n (by omega)]
    obtain ⟨p, h6, hp⟩ := h.2.2.2.2.2.2.1
    have hp : p < n := by omega
    obtain ⟨l4, q1, q2, q3, q4, q5, q6, s4, q7, q8⟩ := d4_spec h (by omega) hp h6
    have f1 : dy4 X T l 1 = nI n := (q6 1 (by decide) (by decide) (by decide) (by decide) (by omega)).trans h.1
    have f6 : dy4 X T l 6 = nI p := (q6 6 (by decide) (by decide) (by decide) (by decide) (by omega)).trans h6
    obtain ⟨⟨p5, r1, r2⟩, r3⟩ := fw_spec (T := T) (l := ln (dy4 X T l)) f1 hn10 f6 hp (dyS X m).toNatClampNeg
    obtain ⟨-, u3⟩ := bw_spec (T := T) (l := ln (dy4 X T l)) ((r3 1 (by decide) (by decide)).trans f1) hn10 r2 r1 (-(dyS X m)).toNatClampNeg
    exact ((u3 j a2 (by omega)).trans (r3 j a2 (by omega))).trans (q6 j a0 a3 a4 (by omega) (by omega))
def itX (X : Ar) (T n : Nat) : Nat → Ar
  | 0 => X
  | k + 1 => dayX (itX X T n k) T n (ln (itX X T n k)) (itX X T n k 5)
def itN (X : Ar) (T n : Nat) : Nat → Int32
  | 0 => 0
  | k + 1 => itN X T n k + dayN (itX X T n k) T n (ln (itX X T n k)) (itX X T n k 5)
theorem WX.lnn {X : Ar} {T n l b : Nat} (h : WX X T n l b) : ln X = l := by
  rw [ln, h.2.2.1, nI_clamp (by have := h.2.2.2.1; omega)]
set_option maxRecDepth 100000 in
theorem it_WX {X : Ar} {T n l b : Nat} (h : WX X T n l b) : ∀ k, b + 999 * k < 2 ^ 30 → WX (itX X T n k) T n (ln (itX X T n k)) (b + 999 * k) ∧ ∀ j, j ≠ 0 → j ≠ 2 → j ≠ 6 → j ≠ 7 → j ≠ 8 → (j < 10 ∨ 116 ≤ j) → itX X T n k j = X j
  | 0, _ => ⟨by have e := h.lnn; rw [itX, e]; exact h, fun _ _ _ _ _ _ _ => rfl⟩
  | k + 1, hb => by
    obtain ⟨g1, g2⟩ := it_WX h k (by omega)
    obtain ⟨l', e1, e2⟩ := day_WX g1 (by omega) (itX X T n k 5)
    refine ⟨?_, fun j a0 a1 a2 a3 a4 a5 => ?_⟩
    · rw [itX, e1, show b + 999 * (k + 1) = b + 999 * k + 999 by omega]; exact e2
    · rw [itX, day_keep g1 (by omega) _ j a0 a1 a2 a3 a4 a5]; exact g2 j a0 a1 a2 a3 a4 a5
/-- the move stays small -/
def mvOk (X : Ar) : Prop := -9 ≤ (X 5).toInt ∧ (X 5).toInt ≤ 9
theorem it_5 {X : Ar} {T n l b k : Nat} (h : WX X T n l b) (hb : b + 999 * k < 2 ^ 30) : itX X T n k 5 = X 5 := (it_WX h k hb).2 5 (by decide) (by decide) (by decide) (by decide) (by decide) (by decide)

set_option maxRecDepth 100000 in
set_option maxHeartbeats 1000000 in
theorem l_X11_goesOn {ro : Ro} {S : St} {I : In} {m T n l b K : Nat} (L : LayM S m) (h : WX (I (m + 1)) T n l b) (hb : b + 999 * K < 2 ^ 30) (hK : K < 2 ^ 20) (hm : mvOk (I (m + 1))) : ∀ k i, i ≤ K → K < i + k → ∀ J, J (m + 1) = itX (I (m + 1)) T n i → Eqx (scN m) I J → V RX11 cX11_goesOn 4 (some .int) "goesOn" ro (rmD 5 0 0) (QM 0 0 (fun r S' I' => r = some (.int (itN (I (m + 1)) T n K)) ∧ S' = S ∧ I' (m + 1) = itX (I (m + 1)) T n K ∧ Eqx (scN m) I I')) 0 0 4 [.ref m, .int (nI K), .int (itN (I (m + 1)) T n i), .int (nI i)] [] S J := by
  intro k
  induction k with
  | zero => intro i hi hk; exact absurd hk (by omega)
  | succ k ih =>
    intro i hi hk J hX hE
    refine v_iload_n (n := 5) dX11_goesOn_4 rfl rfl rfl ?_
    refine v_iload_n (n := 6) dX11_goesOn_5 rfl rfl rfl ?_
    refine v_icmp_ge (n := 9) (tgt := 28) dX11_goesOn_6 (by decide) rfl (fun hq6 => ?_) (fun hq6 => ?_)
    · obtain rfl : i = K := Nat.le_antisymm hi (le_out hq6 (by omega) (by omega))
      refine v_iload_n (n := 29) dX11_goesOn_28 rfl rfl rfl ?_
      exact v_iret rfl ⟨rfl, rfl, hX, hE⟩ ⟨l8 rfl, l8 rfl⟩ dX11_goesOn_29
    · have hlt := nle_in hq6 (by omega) (by omega)
      obtain ⟨g1, g2⟩ := it_WX h i (by omega)
      have h5 : J (m + 1) 5 = I (m + 1) 5 := by rw [hX]; exact it_5 h (by omega)
      refine v_iload_n (n := 10) dX11_goesOn_9 rfl rfl rfl ?_
      refine v_aload_n (n := 11) dX11_goesOn_10 rfl rfl rfl ?_
      refine v_aload_n (n := 12) dX11_goesOn_11 rfl rfl rfl ?_
      refine v_getR (n := 15) f_X11_9 rfl L.s L.g0 dX11_goesOn_12 rfl ?_
      refine v_iconst (n := 16) (v := 5) dX11_goesOn_15 c_5 rfl ?_
      refine v_iald (n := 17) (j := 5) L.c0 (ix_lit rfl rfl rfl) dX11_goesOn_16 rfl ?_
      refine v_callV (n := 20) mc_X11_day l_X11_160 iv_X11_day se_X11_day (ci := 10) ⟨by decide, rfl⟩ L.s (k_X11_day (T := T) (n := n) L (by rw [hX]; exact g1) (by omega) (by rw [h5]; exact ⟨by have := hm.1; omega, by have := hm.2; omega⟩)) ⟨rfl, rfl⟩ (l8 rfl) ⟨l8 rfl, l8 rfl⟩ rfl rfl (l8 rfl) dX11_goesOn_17 rfl ?_
      rintro _ _ J1 ⟨rfl, rfl, hJ1, hE1⟩
      refine v_iadd (n := 21) dX11_goesOn_20 rfl ?_
      refine v_istore_n (n := 22) (al' := [.ref m, .int (nI K), .int ((itN (I (m + 1)) T n i) + (dayN (J (m + 1)) T n (ln (itX (I (m + 1)) T n i)) (J (m + 1) 5))), .int (nI i)]) dX11_goesOn_21 rfl rfl rfl rfl ?_
      refine v_iinc (n := 25) (v := (nI i) + 1) (al' := [.ref m, .int (nI K), .int ((itN (I (m + 1)) T n i) + (dayN (J (m + 1)) T n (ln (itX (I (m + 1)) T n i)) (J (m + 1) 5))), .int ((nI i) + 1)]) dX11_goesOn_22 rfl (by rw [c_1]) rfl rfl rfl ?_
      refine v_goto (tgt := 4) dX11_goesOn_25 (by decide) ?_
      rw [nI_1, hX, show itN (I (m + 1)) T n i + dayN (itX (I (m + 1)) T n i) T n (ln (itX (I (m + 1)) T n i)) (itX (I (m + 1)) T n i 5) = itN (I (m + 1)) T n (i + 1) from rfl]
      exact ih (i + 1) hlt (by omega) J1 (by rw [hJ1, hX, itX]) (hE.tr hE1)

set_option maxRecDepth 100000 in
set_option maxHeartbeats 1000000 in
theorem k_X11_goesOn {ro : Ro} {S : St} {I : In} {m T n l b K : Nat} (L : LayM S m) (h : WX (I (m + 1)) T n l b) (hb : b + 999 * K < 2 ^ 30) (hK : K < 2 ^ 20) (hm : mvOk (I (m + 1))) : Ok mX11_goesOn ro 5 0 0 [.ref m, .int (nI K)] S I (fun r S' I' => r = some (.int (itN (I (m + 1)) T n K)) ∧ S' = S ∧ I' (m + 1) = itX (I (m + 1)) T n K ∧ Eqx (scN m) I I') := by
  refine ok_of (al := [.ref m, .int (nI K), JJ, JJ]) (by decide) (l8 rfl) rfl ?_
  refine v_iconst (n := 1) (v := 0) dX11_goesOn_0 c_0 rfl ?_
  refine v_istore_n (n := 2) (al' := [.ref m, .int (nI K), .int 0, JJ]) dX11_goesOn_1 rfl rfl rfl rfl ?_
  refine v_iconst (n := 3) (v := 0) dX11_goesOn_2 c_0 rfl ?_
  refine v_istore_n (n := 4) (al' := [.ref m, .int (nI K), .int 0, .int 0]) dX11_goesOn_3 rfl rfl rfl rfl ?_
  exact l_X11_goesOn L h hb hK hm (K + 1) 0 (Nat.zero_le _) (by omega) I rfl Eqx.rf

def scP (m a : Nat) : Prop := a = m + 4 ∨ a = m + 5 ∨ scM m a
/-- thought, and put back -/
theorem back_eq {I J : In} {m : Nat} (h1 : Eqx (scN m) (uP I (m + 4) (I (m + 1)) 116) J) (h2 : ∀ j, 116 ≤ j → J (m + 1) j = I (m + 1) j) : Eqx (scP m) I (uP J (m + 1) (J (m + 4)) 116) := by
  intro a ha
  have e4 : J (m + 4) = uP I (m + 4) (I (m + 1)) 116 (m + 4) := h1 (m + 4) (by unfold scN scM; omega)
  by_cases h : a = m + 1
  · subst h
    funext j
    by_cases hj : j < 116
    · rw [uP_in hj, e4, uP_in hj]
    · rw [uP_k (by omega)]; exact h2 j (by omega)
  · rw [uP_ne h, h1 a (by unfold scN scM; unfold scP scM at ha; omega), uP_ne (by unfold scP at ha; omega)]
def behR (X : Ar) (T n k : Nat) (w : Int32) : Int32 := if w = 0 then wS (itX X T n k) (ln (itX X T n k)) else if w = 1 then itX X T n k 6 else if w = 2 then sumX (itX X T n k) 3 n else itX X T n k 7
theorem inn_get {x : Int32} {a : Nat} (h : inn x 0 (nI a) = true) (ha : a < 2 ^ 31) : ∃ k, k ≤ a ∧ x = nI k := by
  simp only [inn, Bool.and_eq_true, Bool.not_eq_true', decide_eq_false_iff_not] at h
  obtain ⟨j, hj, rfl⟩ := nI_of h.1
  exact ⟨j, Nat.le_of_not_lt (fun q => h.2 (nI_lt q hj)), rfl⟩
theorem inn_get1 {x : Int32} {a c : Nat} (h : inn x (nI c) (nI a) = true) (ha : a < 2 ^ 31) (hc : c < 2 ^ 31) : ∃ k, c ≤ k ∧ k ≤ a ∧ x = nI k := by
  simp only [inn, Bool.and_eq_true, Bool.not_eq_true', decide_eq_false_iff_not] at h
  have h0 : ¬ x < 0 := fun q => h.1 (by
    rw [Int32.lt_iff_toInt_lt] at q ⊢
    rw [nI_toInt hc]
    have : (0 : Int32).toInt = 0 := rfl
    omega)
  obtain ⟨j, hj, rfl⟩ := nI_of h0
  exact ⟨j, Nat.le_of_not_lt (fun q => h.1 (nI_lt q hc)), Nat.le_of_not_lt (fun q => h.2 (nI_lt q hj)), rfl⟩

set_option maxRecDepth 100000 in
set_option maxHeartbeats 1000000 in
theorem k_X11_behind {ro : Ro} {S : St} {I : In} {xa xb : Int32} {m T n l b : Nat} (L : LayM S m) (h : WX (I (m + 1)) T n l b) (hm : mvOk (I (m + 1))) (hb : b < 900000000) : Ok mX11_behind ro 6 0 0 [.ref m, .int xa, .int xb] S I (fun r S' I' => r = some (.int (if (inn xa 0 100 && inn xb 0 3) = true then behR (I (m + 1)) T n xa.toNatClampNeg xb else -1000000001)) ∧ S' = S ∧ Eqx (scP m) I I') := by
  refine ok_of (al := [.ref m, .int xa, .int xb, JJ, JJ]) (by decide) (l8 rfl) rfl ?_
  refine v_iload_n (n := 1) dX11_behind_0 rfl rfl rfl ?_
  refine v_iconst (n := 2) (v := 0) dX11_behind_1 c_0 rfl ?_
  refine v_bipush (n := 4) (v := 100) dX11_behind_2 b_100 rfl ?_
  refine v_cSi (n := 7) (x := (bi (inn xa 0 100))) mc_X11_in l_X11_78 sta_X11_in k_X11_in ⟨rfl, rfl⟩ (l8 rfl) ⟨l8 rfl, l8 rfl⟩ rfl rfl (l8 rfl) dX11_behind_4 rfl ?_
  refine v_if_eq (n := 10) (tgt := 19) dX11_behind_7 (by decide) rfl (fun hq7 => ?_) (fun hq7 => ?_)
  · refine v_ldc (n := 21) k_X11_90 dX11_behind_19 rfl ?_
    exact v_iret rfl ⟨by clear h hm; simp_all [bi_0, bi_n0], rfl, Eqx.rf⟩ ⟨l8 rfl, l8 rfl⟩ dX11_behind_21
  · refine v_iload_n (n := 11) dX11_behind_10 rfl rfl rfl ?_
    refine v_iconst (n := 12) (v := 0) dX11_behind_11 c_0 rfl ?_
    refine v_iconst (n := 13) (v := 3) dX11_behind_12 c_3 rfl ?_
    refine v_cSi (n := 16) (x := (bi (inn xb 0 3))) mc_X11_in l_X11_78 sta_X11_in k_X11_in ⟨rfl, rfl⟩ (l8 rfl) ⟨l8 rfl, l8 rfl⟩ rfl rfl (l8 rfl) dX11_behind_13 rfl ?_
    refine v_if_ne (n := 19) (tgt := 22) dX11_behind_16 (by decide) rfl (fun hq16 => ?_) (fun hq16 => ?_)
    · have hin1 := bi_n0.mp hq7
      obtain ⟨K, hK, rfl⟩ := inn_get (a := 100) hin1 (by decide)
      have hb : b + 999 * K < 2 ^ 30 := by omega
      obtain ⟨g1, g2⟩ := it_WX h K hb
      have e1 : uP I (m + 4) (I (m + 1)) 116 (m + 1) = I (m + 1) := uP_ne (by omega)
      refine v_aload_n (n := 23) dX11_behind_22 rfl rfl rfl ?_
      refine v_cVv (n := 26) mc_X11_thinks l_X11_166 iv_X11_thinks se_X11_thinks (ci := 10) ⟨by decide, rfl⟩ L.s (k_X11_thinks L) ⟨rfl, rfl⟩ (l8 rfl) ⟨l8 rfl, l8 rfl⟩ rfl rfl (l8 rfl) dX11_behind_23 rfl ?_
      refine v_aload_n (n := 27) dX11_behind_26 rfl rfl rfl ?_
      refine v_iload_n (n := 28) dX11_behind_27 rfl rfl rfl ?_
      refine v_callV (n := 31) mc_X11_goesOn l_X11_163 iv_X11_goesOn se_X11_goesOn (ci := 10) ⟨by decide, rfl⟩ L.s (k_X11_goesOn (T := T) (n := n) L (by rw [e1]; exact h) hb (by omega) (by rw [e1]; exact hm)) ⟨rfl, rfl⟩ (l8 rfl) ⟨l8 rfl, l8 rfl⟩ rfl rfl (l8 rfl) dX11_behind_28 rfl ?_
      rintro _ _ J ⟨rfl, rfl, hJ, hE⟩
      rw [e1] at hJ
      refine v_istore_n (n := 32) (al' := [.ref m, .int (nI K), .int xb, .int (itN ((uP I (m + 4) (I (m + 1)) 116) (m + 1)) T n K), JJ]) dX11_behind_31 rfl rfl rfl rfl ?_
      refine v_iload_n (n := 33) dX11_behind_32 rfl rfl rfl ?_
      refine v_if_ne (n := 36) (tgt := 43) dX11_behind_33 (by decide) rfl (fun hq33 => ?_) (fun hq33 => ?_)
      · refine v_iload_n (n := 44) dX11_behind_43 rfl rfl rfl ?_
        refine v_iconst (n := 45) (v := 1) dX11_behind_44 c_1 rfl ?_
        refine v_icmp_ne (n := 48) (tgt := 58) dX11_behind_45 (by decide) rfl (fun hq45 => ?_) (fun hq45 => ?_)
        · refine v_iload_n (n := 59) dX11_behind_58 rfl rfl rfl ?_
          refine v_iconst (n := 60) (v := 2) dX11_behind_59 c_2 rfl ?_
          refine v_icmp_ne (n := 63) (tgt := 71) dX11_behind_60 (by decide) rfl (fun hq60 => ?_) (fun hq60 => ?_)
          · refine v_aload_n (n := 72) dX11_behind_71 rfl rfl rfl ?_
            refine v_getR (n := 75) f_X11_9 rfl L.s L.g0 dX11_behind_72 rfl ?_
            refine v_bipush (n := 77) (v := 7) dX11_behind_75 b_7 rfl ?_
            refine v_iald (n := 78) (j := 7) L.c0 (ix_lit rfl rfl rfl) dX11_behind_77 rfl ?_
            refine v_istore (n := 80) (al' := [.ref m, .int (nI K), .int xb, .int (itN ((uP I (m + 4) (I (m + 1)) 116) (m + 1)) T n K), .int (J (m + 1) 7)]) dX11_behind_78 rfl rfl rfl ?_
            refine v_aload_n (n := 81) dX11_behind_80 rfl rfl rfl ?_
            refine v_cVv (n := 84) mc_X11_putsBack l_X11_172 iv_X11_putsBack se_X11_putsBack (ci := 10) ⟨by decide, rfl⟩ L.s (k_X11_putsBack L) ⟨rfl, rfl⟩ (l8 rfl) ⟨l8 rfl, l8 rfl⟩ rfl rfl (l8 rfl) dX11_behind_81 rfl ?_
            refine v_iload (n := 86) dX11_behind_84 rfl rfl ?_
            refine v_iret rfl ⟨?_, rfl, back_eq hE (fun j hj => by rw [hJ]; exact g2 j (by omega) (by omega) (by omega) (by omega) (by omega) (by omega))⟩ ⟨l8 rfl, l8 rfl⟩ dX11_behind_86
            rw [hJ, if_pos (by simp [bi_n0.mp hq7, bi_n0.mp hq16]), nI_clamp (by omega), behR]
            simp [*]
          · refine v_aload_n (n := 64) dX11_behind_63 rfl rfl rfl ?_
            refine v_iconst (n := 65) (v := 3) dX11_behind_64 c_3 rfl ?_
            refine v_cVi (n := 68) (x := (sumX (J (m + 1)) 3 n)) mc_X11_sumOf l_X11_169 iv_X11_sumOf se_X11_sumOf (ci := 10) ⟨by decide, rfl⟩ L.s (k_X11_sumOf (u := 3) (n := n) L (by rw [hJ]; exact g1.1) g1.2.1 (by decide)) ⟨rfl, rfl⟩ (l8 rfl) ⟨l8 rfl, l8 rfl⟩ rfl rfl (l8 rfl) dX11_behind_65 rfl ?_
            refine v_goto (tgt := 78) dX11_behind_68 (by decide) ?_
            refine v_istore (n := 80) (al' := [.ref m, .int (nI K), .int xb, .int (itN ((uP I (m + 4) (I (m + 1)) 116) (m + 1)) T n K), .int (sumX (J (m + 1)) 3 n)]) dX11_behind_78 rfl rfl rfl ?_
            refine v_aload_n (n := 81) dX11_behind_80 rfl rfl rfl ?_
            refine v_cVv (n := 84) mc_X11_putsBack l_X11_172 iv_X11_putsBack se_X11_putsBack (ci := 10) ⟨by decide, rfl⟩ L.s (k_X11_putsBack L) ⟨rfl, rfl⟩ (l8 rfl) ⟨l8 rfl, l8 rfl⟩ rfl rfl (l8 rfl) dX11_behind_81 rfl ?_
            refine v_iload (n := 86) dX11_behind_84 rfl rfl ?_
            refine v_iret rfl ⟨?_, rfl, back_eq hE (fun j hj => by rw [hJ]; exact g2 j (by omega) (by omega) (by omega) (by omega) (by omega) (by omega))⟩ ⟨l8 rfl, l8 rfl⟩ dX11_behind_86
            rw [hJ, if_pos (by simp [bi_n0.mp hq7, bi_n0.mp hq16]), nI_clamp (by omega), behR]
            simp [*]
        · refine v_aload_n (n := 49) dX11_behind_48 rfl rfl rfl ?_
          refine v_getR (n := 52) f_X11_9 rfl L.s L.g0 dX11_behind_49 rfl ?_
          refine v_bipush (n := 54) (v := 6) dX11_behind_52 b_6 rfl ?_
          refine v_iald (n := 55) (j := 6) L.c0 (ix_lit rfl rfl rfl) dX11_behind_54 rfl ?_
          refine v_goto (tgt := 78) dX11_behind_55 (by decide) ?_
          refine v_istore (n := 80) (al' := [.ref m, .int (nI K), .int xb, .int (itN ((uP I (m + 4) (I (m + 1)) 116) (m + 1)) T n K), .int (J (m + 1) 6)]) dX11_behind_78 rfl rfl rfl ?_
          refine v_aload_n (n := 81) dX11_behind_80 rfl rfl rfl ?_
          refine v_cVv (n := 84) mc_X11_putsBack l_X11_172 iv_X11_putsBack se_X11_putsBack (ci := 10) ⟨by decide, rfl⟩ L.s (k_X11_putsBack L) ⟨rfl, rfl⟩ (l8 rfl) ⟨l8 rfl, l8 rfl⟩ rfl rfl (l8 rfl) dX11_behind_81 rfl ?_
          refine v_iload (n := 86) dX11_behind_84 rfl rfl ?_
          refine v_iret rfl ⟨?_, rfl, back_eq hE (fun j hj => by rw [hJ]; exact g2 j (by omega) (by omega) (by omega) (by omega) (by omega) (by omega))⟩ ⟨l8 rfl, l8 rfl⟩ dX11_behind_86
          rw [hJ, if_pos (by simp [bi_n0.mp hq7, bi_n0.mp hq16]), nI_clamp (by omega), behR]
          simp [*]
      · refine v_aload_n (n := 37) dX11_behind_36 rfl rfl rfl ?_
        refine v_cVi (n := 40) (x := (wS (J (m + 1)) (ln (itX (I (m + 1)) T n K)))) mc_X11_weight l_X11_100 iv_X11_weight se_X11_weight (ci := 10) ⟨by decide, rfl⟩ L.s (k_X11_weight (l := ln (itX (I (m + 1)) T n K)) L (by rw [hJ]; exact g1.2.2.1) g1.2.2.2.1) ⟨rfl, rfl⟩ (l8 rfl) ⟨l8 rfl, l8 rfl⟩ rfl rfl (l8 rfl) dX11_behind_37 rfl ?_
        refine v_goto (tgt := 78) dX11_behind_40 (by decide) ?_
        refine v_istore (n := 80) (al' := [.ref m, .int (nI K), .int xb, .int (itN ((uP I (m + 4) (I (m + 1)) 116) (m + 1)) T n K), .int (wS (J (m + 1)) (ln (itX (I (m + 1)) T n K)))]) dX11_behind_78 rfl rfl rfl ?_
        refine v_aload_n (n := 81) dX11_behind_80 rfl rfl rfl ?_
        refine v_cVv (n := 84) mc_X11_putsBack l_X11_172 iv_X11_putsBack se_X11_putsBack (ci := 10) ⟨by decide, rfl⟩ L.s (k_X11_putsBack L) ⟨rfl, rfl⟩ (l8 rfl) ⟨l8 rfl, l8 rfl⟩ rfl rfl (l8 rfl) dX11_behind_81 rfl ?_
        refine v_iload (n := 86) dX11_behind_84 rfl rfl ?_
        refine v_iret rfl ⟨?_, rfl, back_eq hE (fun j hj => by rw [hJ]; exact g2 j (by omega) (by omega) (by omega) (by omega) (by omega) (by omega))⟩ ⟨l8 rfl, l8 rfl⟩ dX11_behind_86
        rw [hJ, if_pos (by simp [bi_n0.mp hq7, bi_n0.mp hq16]), nI_clamp (by omega), behR]
        simp [*]
    · refine v_ldc (n := 21) k_X11_90 dX11_behind_19 rfl ?_
      exact v_iret rfl ⟨by clear h hm; simp_all [bi_0, bi_n0], rfl, Eqx.rf⟩ ⟨l8 rfl, l8 rfl⟩ dX11_behind_21

