/-! ===== the calls of the class: warmed ===== -/
def ShR (I J : In) (x m : Nat) : Prop := ∀ s, s < 4 → I (x + 88 + 2 * s) 1 = J (m + 14) s ∧ I (x + 88 + 2 * s) 2 = J (m + 15) s ∧ ∀ j, j < 24 → I (x + 88 + 2 * s + 1) j = J (m + 16) (24 * s + j)
def CeR (J : In) (m : Nat) : Prop := ∀ j, j < 96 → J (m + 16) j = -1000000005 ∨ (-99999 ≤ (J (m + 16) j).toInt ∧ (J (m + 16) j).toInt ≤ 99999)
theorem ShR.eqx {P : Nat → Prop} {I I' J : In} {x m : Nat} (h : ShR I J x m) (hE : Eqx P I I') (hP : ∀ a, P a → a < x + 88 ∨ x + 96 ≤ a) : ShR I' J x m := fun s hs => by
  rw [hE (x + 88 + 2 * s) (fun z => by have := hP _ z; omega), hE (x + 88 + 2 * s + 1) (fun z => by have := hP _ z; omega)]
  exact h s hs
theorem bmod32 {a : Int} (h1 : -2147483648 ≤ a) (h2 : a < 2147483648) : a.bmod (2 ^ 32) = a := Int.bmod_eq_of_le (by omega) (by omega)
theorem bmod64 {a : Int} (h1 : -9223372036854775808 ≤ a) (h2 : a < 9223372036854775808) : a.bmod (2 ^ 64) = a := Int.bmod_eq_of_le (by omega) (by omega)
def df1 (w v : Int32) : Nat := if v = -1000000005 then 0 else (w.toInt - v.toInt).natAbs
theorem ab_sub {w v : Int32} (h1 : -1000000000 ≤ w.toInt - v.toInt) (h2 : w.toInt - v.toInt ≤ 1000000000) (hv : ¬ v = -1000000005) : ab (w - v) = nI (df1 w v) := by
  have e : (w - v).toInt = w.toInt - v.toInt := by rw [Int32.toInt_sub, bmod32 (by omega) (by omega)]
  have z : (0 : Int32).toInt = 0 := rfl
  apply Int32.toInt_inj.mp
  rw [df1, if_neg hv, nI_toInt (by omega)]
  unfold ab
  split
  · rename_i q; rw [Int32.le_iff_toInt_le, e, z] at q; rw [e]; omega
  · rename_i q
    rw [Int32.le_iff_toInt_le, e, z] at q
    rw [Int32.toInt_sub, e, z, bmod32 (by omega) (by omega)]; omega
theorem off_sub {w v : Int32} (h1 : -1000000000 ≤ w.toInt - v.toInt) (h2 : w.toInt - v.toInt ≤ 1000000000) : offT v w = lN (df1 w v) := by
  unfold offT df1
  split
  · rfl
  · have e : (v.toInt64 - w.toInt64).toInt = v.toInt - w.toInt := by rw [Int64.toInt_sub, Int32.toInt_toInt64, Int32.toInt_toInt64, bmod64 (by omega) (by omega)]
    have z : (0 : Int64).toInt = 0 := rfl
    apply Int64.toInt_inj.mp
    rw [lN_toInt (by omega)]
    split
    · rename_i q; rw [Int64.le_iff_toInt_le, e, z] at q; rw [e]; omega
    · rename_i q; rw [Int64.le_iff_toInt_le, e, z] at q; rw [Int64.toInt_neg, e, bmod64 (by omega) (by omega)]; omega
def dfN (X : Ar) (T n : Nat) (ce : Ar) : Nat → Nat
  | 0 => 0
  | k + 1 => dfN X T n ce k + df1 (wS (itX X T n k) (ln (itX X T n k))) (ce k)
def ceOk (ce : Ar) (z : Nat) : Prop := ∀ j, j < z → ce j = -1000000005 ∨ (-99999 ≤ (ce j).toInt ∧ (ce j).toInt ≤ 99999)
theorem df_w {X : Ar} {T n l b k : Nat} (h : WX X T n l b) (hb : b < 80000000) (hk : k ≤ 24) : ∃ w, w ≤ 80030000 ∧ wS (itX X T n k) (ln (itX X T n k)) = nI w := by
  obtain ⟨g1, -⟩ := it_WX h k (by omega)
  obtain ⟨w, hw, e⟩ := ws_rng g1
  exact ⟨w, by omega, e⟩
theorem df_1 {w : Int32} {q : Nat} {v : Int32} (hq : q ≤ 80030000) (hw : w = nI q) (hv : v = -1000000005 ∨ (-99999 ≤ v.toInt ∧ v.toInt ≤ 99999)) : df1 w v ≤ 80129999 ∧ offT v w = lN (df1 w v) ∧ (¬ v = -1000000005 → ab (w - v) = nI (df1 w v)) := by
  have e : w.toInt = (q : Int) := by rw [hw, nI_toInt (by omega)]
  by_cases c : v = -1000000005
  · rw [df1, offT, if_pos c, if_pos c]
    exact ⟨by omega, rfl, fun z => absurd c z⟩
  · have hv := hv.resolve_left c
    refine ⟨by rw [df1, if_neg c]; omega, off_sub (by omega) (by omega), fun _ => ab_sub (by omega) (by omega) c⟩
theorem df_eq {X : Ar} {T n l b z : Nat} {ce : Ar} (h : WX X T n l b) (hb : b < 80000000) (hz : z ≤ 24) (hc : ceOk ce z) : ∀ k, k ≤ z → dfN X T n ce k ≤ k * 80129999 ∧ ofL X T n ce k = lN (dfN X T n ce k)
  | 0, _ => ⟨Nat.le_refl _, rfl⟩
  | k + 1, hk => by
    obtain ⟨g1, g2⟩ := df_eq h hb hz hc k (by omega)
    obtain ⟨w, hw, e⟩ := df_w (k := k) h hb (by omega)
    obtain ⟨f1, f2, -⟩ := df_1 hw e (hc k (by omega))
    rw [dfN, ofL, g2, f2, lN_add]
    exact ⟨by omega, rfl⟩
def dW (X : Ar) (T n : Nat) (ce : Ar) (z w : Nat) : Nat := dfN (upd X 3 (nI w)) T n ce z
def lsN (X : Ar) (T n : Nat) (ce : Ar) (z : Nat) : Nat → Nat
  | 0 => dW X T n ce z 0
  | w + 1 => if dW X T n ce z (w + 1) < lsN X T n ce z w then dW X T n ce z (w + 1) else lsN X T n ce z w
theorem dw_eq {X : Ar} {T n l b z w : Nat} {ce : Ar} (h : WX X T n l b) (hb : b < 80000000) (hz : z ≤ 24) (hc : ceOk ce z) (hw : w ≤ 20) : dW X T n ce z w < 2 ^ 31 ∧ offW X T n ce z w = lN (dW X T n ce z w) := by
  obtain ⟨g1, g2⟩ := df_eq (h.set3 (w := w) (by omega)) hb hz hc z (Nat.le_refl _)
  have : z * 80129999 ≤ 24 * 80129999 := Nat.mul_le_mul_right _ hz
  exact ⟨by unfold dW; omega, by unfold offW dW; exact g2⟩
theorem wm_ls {X : Ar} {T n l b z : Nat} {ce : Ar} (h : WX X T n l b) (hb : b < 80000000) (hz : z ≤ 24) (hc : ceOk ce z) : ∀ w, w ≤ 20 → lsN X T n ce z w < 2 ^ 31 ∧ (wmF X T n ce z w).2 = lN (lsN X T n ce z w)
  | 0, _ => dw_eq h hb hz hc (by decide)
  | w + 1, hw => by
    obtain ⟨g1, g2⟩ := wm_ls h hb hz hc w (by omega)
    obtain ⟨f1, f2⟩ := dw_eq (w := w + 1) h hb hz hc hw
    rw [wmF, lsN]
    rw [f2, g2]
    by_cases c : dW X T n ce z (w + 1) < lsN X T n ce z w
    · rw [if_pos c, if_pos ((lN_lt f1 g1).mpr c)]; exact ⟨f1, rfl⟩
    · rw [if_neg c, if_neg (fun q => c ((lN_lt f1 g1).mp q))]; exact ⟨g1, g2⟩
theorem wm_1 {X : Ar} {T n l b z w : Nat} {ce : Ar} (h : WX X T n l b) (hb : b < 80000000) (hz : z ≤ 24) (hc : ceOk ce z) (hw : w + 1 ≤ 20) : (wmF X T n ce z (w + 1)).1 = if dW X T n ce z (w + 1) < lsN X T n ce z w then nI (w + 1) else (wmF X T n ce z w).1 := by
  obtain ⟨g1, g2⟩ := wm_ls h hb hz hc w (by omega)
  obtain ⟨f1, f2⟩ := dw_eq (w := w + 1) h hb hz hc hw
  rw [wmF]
  rw [f2, g2]
  by_cases c : dW X T n ce z (w + 1) < lsN X T n ce z w
  · rw [if_pos c, if_pos ((lN_lt f1 g1).mpr c)]
  · rw [if_neg c, if_neg (fun q => c ((lN_lt f1 g1).mp q))]
theorem it_step {X : Ar} {T n i K : Nat} (h : (i = 0 ∧ K = 0) ∨ (0 < i ∧ K = 1)) : itX (itX X T n (i - 1)) T n K = itX X T n i := by
  rcases h with ⟨rfl, rfl⟩ | ⟨h, rfl⟩
  · rfl
  · obtain ⟨j, rfl⟩ : ∃ j, i = j + 1 := ⟨i - 1, by omega⟩
    rfl
theorem VR.w3 {S : St} {I : In} {v B T n l w : Nat} {X : Ar} {mv : Int32} {lw : Nat → Nat} (h : VR S I v B X mv T n l lw) (hvB : v + 11 ≤ B) (hT : T ≤ 14) (hl : l ≤ 30) : VR S (setI I v 5 (nI w)) v B (upd X 3 (nI w)) mv T n l lw := by
  have hE : Eqx (fun a => a = v) I (setI I v 5 (nI w)) := Eqx.rf.set rfl
  obtain ⟨a3, a4, a5, a6, a7, a8⟩ := h.2.2.1
  refine VR.mk2 h (eq_v (by omega)) hvB hT (fun j h1 h2 => pk_un (by omega)) ((h.1.eqx hE (fun a q => by omega)).cong (fun j _ _ => pk_un (by omega))) ((h.2.1.eqx hE (fun a q => by omega)).cg hl (fun j _ _ _ => pk_un (by omega))) ?_
  exact ⟨by rw [sI_k (by decide), pk_un (by decide)]; exact a3, by rw [sI_k (by decide), pk_un (by decide)]; exact a4, by rw [sI_s, pk_us], by rw [sI_k (by decide), pk_un (by decide)]; exact a6, by rw [sI_k (by decide)]; exact a7, by rw [sI_k (by decide), pk_un (by decide)]; exact a8⟩

set_option maxRecDepth 100000 in
set_option maxHeartbeats 1000000 in
theorem d43_X10_differences {ro : Ro} {S S1 : St} {I : In} {x B T b s z w : Nat} {X ce : Ar} {lw : Nat → Nat} (L : LayX S x) (h : VN S I (x + 1) B X T lw) (hW : WN X T b) (hB : x + 134 ≤ B) (hm : mvOk X) (hb : b < 80000000) (hs : s < 4) (hz : I (x + 88 + 2 * s) 2 = nI z) (hz24 : z ≤ 24) (hce : ∀ j, j < z → I (x + 88 + 2 * s + 1) j = ce j) (hc : ceOk ce z) (hw : w ≤ 20) (L1 : LayX S1 x) (hs1 : SGp (thP (x + 23) 0) S S1) {i K : Nat} (hi : i < z) (hK : (i = 0 ∧ K = 0) ∨ (0 < i ∧ K = 1)) {J : In} (hv : VR S1 J (x + 23 + 2) B (itX (upd X 3 (nI w)) T (yn X) (i - 1)) (X 5) T (yn X) (ln (itX (upd X 3 (nI w)) T (yn X) (i - 1))) lw) (hE : Eqx (thk x B) I J) (kk : ∀ J3, VR S1 J3 (x + 23 + 2) B (itX (upd X 3 (nI w)) T (yn X) (i + 1 - 1)) (X 5) T (yn X) (ln (itX (upd X 3 (nI w)) T (yn X) (i + 1 - 1))) lw → Eqx (thk x B) I J3 → V RX10 cX10_differences 6 (some .int) "differences" ro (rmD 6 0 0) (QM 0 0 (QT S I x B (nI (dW X T (yn X) ce z w)))) 0 0 23 [.ref x, .ref ((x + 88 + 2 * s)), JJ, .ref ((x + 23 + 2)), .int (nI (dfN (upd X 3 (nI w)) T (yn X) ce (i + 1))), .int (nI (i + 1))] [] S1 J3) : V RX10 cX10_differences 6 (some .int) "differences" ro (rmD 6 0 0) (QM 0 0 (QT S I x B (nI (dW X T (yn X) ce z w)))) 0 0 43 [.ref x, .ref ((x + 88 + 2 * s)), JJ, .ref ((x + 23 + 2)), .int (nI (dfN (upd X 3 (nI w)) T (yn X) ce i)), .int (nI i)] [.int (nI K), .ref (x + 23 + 2)] S1 J := by
  obtain ⟨g1, g2⟩ := it_WX (hW.set3 (w := w) (by omega)) (i - 1) (by omega)
  have h5 : (itX (upd X 3 (nI w)) T (yn X) (i - 1)) 5 = X 5 := by rw [g2 5 (by decide) (by decide) (by decide) (by decide) (by decide) (by decide), pk_un (by decide)]
  have hmY : mvOk (itX (upd X 3 (nI w)) T (yn X) (i - 1)) := by unfold mvOk; rw [h5]; exact hm
  refine v_callV (n := 46) mc_X9_passDays l_X10_194 iv_X9_passDays se_X9_passDays (ci := 8) ⟨by decide, rfl⟩ (L1.c3.v (i := 0) (by decide)).s (k_X9_passDays (K := K) (L1.c3.v (i := 0) (by decide)) hv g1 (by omega) (by omega) hmY h5 (by omega)) ⟨rfl, rfl⟩ (l8 rfl) ⟨l8 rfl, l8 rfl⟩ rfl rfl (l8 rfl) dX10_differences_43 rfl ?_
  rintro _ _ J2 ⟨rfl, hS9, hv2, hE2⟩
  replace hS9 := hS9.symm
  subst hS9
  rw [it_step hK] at hv2
  have hE3 := hE.tr (thk_v hE2)
  have hn2 : ∀ j, j < z → J2 (x + 88 + 2 * s + 1) j = ce j := fun j hj => by rw [hE3 _ (by unfold thk stk; omega)]; exact hce j hj
  obtain ⟨q, hq, eq9⟩ := df_w (k := i) (hW.set3 (w := w) (by omega)) hb (by omega)
  obtain ⟨f1, -, f3⟩ := df_1 hq eq9 (hc i hi)
  refine v_pop (n := 47) dX10_differences_46 rfl rfl ?_
  refine v_aload_n (n := 48) dX10_differences_47 rfl rfl rfl ?_
  refine v_getR (n := 51) f_X10_274 rfl (L1.sh hs).2.s (L1.sh hs).2.g0 dX10_differences_48 rfl ?_
  refine v_iload (n := 53) dX10_differences_51 rfl rfl ?_
  refine v_iald (n := 54) (j := i) (L1.sh hs).2.c0 (ix_nI (by omega) (by decide)) dX10_differences_53 rfl ?_
  rw [hn2 i hi]
  refine v_ldc (n := 56) k_X10_193 dX10_differences_54 rfl ?_
  refine v_icmp_eq (n := 59) (tgt := 82) dX10_differences_56 (by decide) rfl (fun hq56 => ?_) (fun hq56 => ?_)
  · refine v_iinc (n := 85) (v := (nI i) + 1) (al' := [.ref x, .ref ((x + 88 + 2 * s)), JJ, .ref ((x + 23 + 2)), .int (nI (dfN (upd X 3 (nI w)) T (yn X) ce i)), .int ((nI i) + 1)]) dX10_differences_82 rfl (by rw [c_1]) rfl rfl rfl ?_
    refine v_goto (tgt := 23) dX10_differences_85 (by decide) ?_
    rw [nI_1]
    rw [show dfN (upd X 3 (nI w)) T (yn X) ce i = dfN (upd X 3 (nI w)) T (yn X) ce (i + 1) from by rw [dfN, df1, if_pos hq56]; rfl]
    exact kk J2 (by rw [Nat.add_sub_cancel]; exact hv2) hE3
  · refine v_iload (n := 61) dX10_differences_59 rfl rfl ?_
    refine v_aload_n (n := 62) dX10_differences_61 rfl rfl rfl ?_
    refine v_getR (n := 65) f_X10_126 rfl (L1.c3.v (i := 0) (by decide)).s (L1.c3.v (i := 0) (by decide)).g1 dX10_differences_62 rfl ?_
    refine v_getI (n := 68) f_X10_163 rfl (L1.c3.v (i := 0) (by decide)).c1.s dX10_differences_65 rfl ?_
    rw [hv2.2.1.1.2.1]
    refine v_aload_n (n := 69) dX10_differences_68 rfl rfl rfl ?_
    refine v_getR (n := 72) f_X10_274 rfl (L1.sh hs).2.s (L1.sh hs).2.g0 dX10_differences_69 rfl ?_
    refine v_iload (n := 74) dX10_differences_72 rfl rfl ?_
    refine v_iald (n := 75) (j := i) (L1.sh hs).2.c0 (ix_nI (by omega) (by decide)) dX10_differences_74 rfl ?_
    rw [hn2 i hi]
    refine v_isub (n := 76) dX10_differences_75 rfl ?_
    refine v_abs (n := 79) l_X10_334 abs_sta ini_J9 abs_code ⟨rfl, rfl⟩ ⟨l8 rfl, l8 rfl⟩ (l8 rfl) dX10_differences_76 rfl ?_
    rw [f3 hq56]
    refine v_iadd (n := 80) dX10_differences_79 rfl ?_
    rw [nI_add]
    refine v_istore (n := 82) (al' := [.ref x, .ref ((x + 88 + 2 * s)), JJ, .ref ((x + 23 + 2)), .int (nI (dfN (upd X 3 (nI w)) T (yn X) ce i + df1 (wS (itX (upd X 3 (nI w)) T (yn X) i) (ln (itX (upd X 3 (nI w)) T (yn X) i))) (ce i))), .int (nI i)]) dX10_differences_80 rfl rfl rfl ?_
    refine v_iinc (n := 85) (v := (nI i) + 1) (al' := [.ref x, .ref ((x + 88 + 2 * s)), JJ, .ref ((x + 23 + 2)), .int (nI (dfN (upd X 3 (nI w)) T (yn X) ce i + df1 (wS (itX (upd X 3 (nI w)) T (yn X) i) (ln (itX (upd X 3 (nI w)) T (yn X) i))) (ce i))), .int ((nI i) + 1)]) dX10_differences_82 rfl (by rw [c_1]) rfl rfl rfl ?_
    refine v_goto (tgt := 23) dX10_differences_85 (by decide) ?_
    rw [nI_1]
    exact kk J2 (by rw [Nat.add_sub_cancel]; exact hv2) hE3

theorem i_0 {i : Nat} (h : nI i = 0) (hi : i < 2 ^ 31) : i = 0 := (nI_eq (b := 0) hi (by decide)).mp h
theorem i_p {i : Nat} (h : ¬ nI i = 0) : 0 < i := by
  rcases Nat.eq_zero_or_pos i with q | q
  · subst q; exact absurd rfl h
  · exact q
set_option maxRecDepth 100000 in
set_option maxHeartbeats 1000000 in
theorem l_X10_differences {ro : Ro} {S S1 : St} {I : In} {x B T b s z w : Nat} {X ce : Ar} {lw : Nat → Nat} (L : LayX S x) (h : VN S I (x + 1) B X T lw) (hW : WN X T b) (hB : x + 134 ≤ B) (hm : mvOk X) (hb : b < 80000000) (hs : s < 4) (hz : I (x + 88 + 2 * s) 2 = nI z) (hz24 : z ≤ 24) (hce : ∀ j, j < z → I (x + 88 + 2 * s + 1) j = ce j) (hc : ceOk ce z) (hw : w ≤ 20) (L1 : LayX S1 x) (hs1 : SGp (thP (x + 23) 0) S S1) : ∀ k i, i ≤ z → z < i + k → ∀ J, VR S1 J (x + 23 + 2) B (itX (upd X 3 (nI w)) T (yn X) (i - 1)) (X 5) T (yn X) (ln (itX (upd X 3 (nI w)) T (yn X) (i - 1))) lw → Eqx (thk x B) I J → V RX10 cX10_differences 6 (some .int) "differences" ro (rmD 6 0 0) (QM 0 0 (QT S I x B (nI (dW X T (yn X) ce z w)))) 0 0 23 [.ref x, .ref ((x + 88 + 2 * s)), JJ, .ref ((x + 23 + 2)), .int (nI (dfN (upd X 3 (nI w)) T (yn X) ce i)), .int (nI i)] [] S1 J := by
  intro k
  induction k with
  | zero => intro i hi hk; exact absurd hk (by omega)
  | succ k ih =>
    intro i hi hk J hv hE
    refine v_iload (n := 25) dX10_differences_23 rfl rfl ?_
    refine v_aload_n (n := 26) dX10_differences_25 rfl rfl rfl ?_
    refine v_getI (n := 29) f_X10_279 rfl (L1.sh hs).2.s dX10_differences_26 rfl ?_
    rw [hE (x + 88 + 2 * s) (by unfold thk stk; omega), hz]
    refine v_icmp_ge (n := 32) (tgt := 88) dX10_differences_29 (by decide) rfl (fun hq29 => ?_) (fun hq29 => ?_)
    · obtain rfl : i = z := Nat.le_antisymm hi (le_out hq29 (by omega) (by omega))
      refine v_iload (n := 90) dX10_differences_88 rfl rfl ?_
      exact v_qt rfl rfl hs1 hE ⟨l8 rfl, l8 rfl⟩ dX10_differences_90
    · have hlt := nle_in hq29 (by omega) (by omega)
      refine v_aload_n (n := 33) dX10_differences_32 rfl rfl rfl ?_
      refine v_iload (n := 35) dX10_differences_33 rfl rfl ?_
      refine v_if_ne (n := 38) (tgt := 42) dX10_differences_35 (by decide) rfl (fun hq35 => ?_) (fun hq35 => ?_)
      · refine v_iconst (n := 43) (v := 1) dX10_differences_42 c_1 rfl ?_
        exact d43_X10_differences L h hW hB hm hb hs hz hz24 hce hc hw L1 hs1 (K := 1) hlt (Or.inr ⟨i_p hq35, rfl⟩) hv hE (fun J3 h3 e3 => ih (i + 1) hlt (by omega) J3 h3 e3)
      · refine v_iconst (n := 39) (v := 0) dX10_differences_38 c_0 rfl ?_
        refine v_goto (tgt := 43) dX10_differences_39 (by decide) ?_
        exact d43_X10_differences L h hW hB hm hb hs hz hz24 hce hc hw L1 hs1 (K := 0) hlt (Or.inl ⟨i_0 hq35 (by omega), rfl⟩) hv hE (fun J3 h3 e3 => ih (i + 1) hlt (by omega) J3 h3 e3)

set_option maxRecDepth 100000 in
set_option maxHeartbeats 1000000 in
theorem c_X10_differences {ro : Ro} {S : St} {I : In} {x B T b s z w : Nat} {X ce : Ar} {lw : Nat → Nat} (L : LayX S x) (h : VN S I (x + 1) B X T lw) (hW : WN X T b) (hB : x + 134 ≤ B) (hm : mvOk X) (hb : b < 80000000) (hs : s < 4) (hz : I (x + 88 + 2 * s) 2 = nI z) (hz24 : z ≤ 24) (hce : ∀ j, j < z → I (x + 88 + 2 * s + 1) j = ce j) (hc : ceOk ce z) (hw : w ≤ 20) : Ok mX10_differences ro 6 0 0 [.ref x, .ref (x + 88 + 2 * s), .int (nI w)] S I (QT S I x B (nI (dW X T (yn X) ce z w))) := by
  refine ok_of (al := [.ref x, .ref ((x + 88 + 2 * s)), .int (nI w), JJ, JJ, JJ]) (by decide) (l8 rfl) rfl ?_
  refine v_aload_n (n := 1) dX10_differences_0 rfl rfl rfl ?_
  refine v_getR (n := 4) f_X10_26 rfl L.s L.g3 dX10_differences_1 rfl ?_
  refine v_aload_n (n := 5) dX10_differences_4 rfl rfl rfl ?_
  refine v_getR (n := 8) f_X10_10 rfl L.s L.g0 dX10_differences_5 rfl ?_
  refine v_callV (n := 11) mc_X3_thoughtOf l_X10_197 iv_X3_thoughtOf se_X3_thoughtOf (ci := 2) ⟨by decide, rfl⟩ L.c3.s (k_X3_thoughtOf L.c3 L.c0 (by omega) h hW.2.2.2.2.1.2.1 hW.2.1 hW.2.2.2.1 (by omega)) ⟨rfl, rfl⟩ (l8 rfl) ⟨l8 rfl, l8 rfl⟩ rfl rfl (l8 rfl) dX10_differences_8 rfl ?_
  rintro _ S1 J1 ⟨rfl, hS1, hv1, hE1⟩
  have hs1 : SGp (thP (x + 23) 0) S S1 := by rw [hS1]; exact th_of
  have L1 := L.th hs1
  refine v_astore_n (n := 12) (al' := [.ref x, .ref ((x + 88 + 2 * s)), .int (nI w), .ref ((x + 23 + 2)), JJ, JJ]) dX10_differences_11 rfl rfl rfl rfl ?_
  refine v_aload_n (n := 13) dX10_differences_12 rfl rfl rfl ?_
  refine v_iload_n (n := 14) dX10_differences_13 rfl rfl rfl ?_
  refine v_putI (n := 17) f_X10_151 rfl (Or.inl rfl) (L1.c3.v (i := 0) (by decide)).s dX10_differences_14 rfl ?_
  refine v_iconst (n := 18) (v := 0) dX10_differences_17 c_0 rfl ?_
  refine v_istore (n := 20) (al' := [.ref x, .ref ((x + 88 + 2 * s)), .int (nI w), .ref ((x + 23 + 2)), .int 0, JJ]) dX10_differences_18 rfl rfl rfl ?_
  refine v_iconst (n := 21) (v := 0) dX10_differences_20 c_0 rfl ?_
  refine v_istore (n := 23) (al' := [.ref x, .ref ((x + 88 + 2 * s)), .int (nI w), .ref ((x + 23 + 2)), .int 0, .int 0]) dX10_differences_21 rfl rfl rfl ?_
  refine v_drop 2 (al' := [.ref x, .ref ((x + 88 + 2 * s)), JJ, .ref ((x + 23 + 2)), .int 0, .int 0]) rfl ?_
  exact l_X10_differences L h hW hB hm hb hs hz hz24 hce hc hw L1 hs1 (z + 1) 0 (Nat.zero_le _) (by omega) _ (by
      have q := VR.w3 (w := w) hv1 (by omega) hW.2.2.2.2.1.2.1 hW.2.2.2.1
      have hl := (hW.set3 (w := w) (by omega)).lnn
      show VR S1 _ (x + 23 + 2) B (upd X 3 (nI w)) (X 5) T (yn X) (ln (upd X 3 (nI w))) lw
      rw [hl]; exact q) ((thk_b hE1).set (Or.inl (by omega)))

set_option maxRecDepth 100000 in
set_option maxHeartbeats 1000000 in
theorem l_X10_warmed {ro : Ro} {S : St} {I : In} {xb : Int32} {x B T b : Nat} {X : Ar} {lw : Nat → Nat} (L : LayX S x) (h : VN S I (x + 1) B X T lw) (hW : WN X T b) (hB : x + 134 ≤ B) {J : In} {m : Nat} (hX : J (m + 1) = X) (hSh : ShR I J x m) (hM : MW J m) (hCe : CeR J m) (hm : mvOk X) (hb : b < 80000000) {s z : Nat} (hs : s < 4) (hz : I (x + 88 + 2 * s) 2 = nI z) (hz24 : z ≤ 24) (hce : ∀ j, j < 24 → I (x + 88 + 2 * s + 1) j = J (m + 16) (24 * s + j)) (hc : ceOk (fun j => J (m + 16) (24 * s + j)) z) : ∀ k w, w ≤ 20 → 20 < w + k → ∀ S1 J1, LayX S1 x → SGp (thP (x + 23) 0) S S1 → Eqx (thk x B) I J1 → V RX10 cX10_warmed 7 (some .int) "warmed" ro (rmD 7 0 0) (QM 0 0 (QT S I x B (if xb = 0 then (wmF X T (yn X) (fun j => J (m + 16) (24 * s + j)) z 20).1 else (wmF X T (yn X) (fun j => J (m + 16) (24 * s + j)) z 20).2.toInt32))) 0 0 53 [.ref x, .int (nI s), .int xb, .int ((wmF X T (yn X) (fun j => J (m + 16) (24 * s + j)) z w).1), .int (nI (lsN X T (yn X) (fun j => J (m + 16) (24 * s + j)) z w)), .int (nI (w + 1)), JJ] [] S1 J1 := by
  intro k
  induction k with
  | zero => intro w hi hk; exact absurd hk (by omega)
  | succ k ih =>
    intro w hi hk S1 J1 L1 hs1 hE
    refine v_iload (n := 55) dX10_warmed_53 rfl rfl ?_
    refine v_bipush (n := 57) (v := 20) dX10_warmed_55 b_20 rfl ?_
    refine v_icmp_gt (n := 60) (tgt := 94) dX10_warmed_57 (by decide) rfl (fun hq57 => ?_) (fun hq57 => ?_)
    · obtain rfl : w = 20 := by
        rcases Nat.lt_or_ge w 20 with q | q
        · exact absurd hq57 (nI_nlt (a := 20) (b := w + 1) (by omega) (by decide))
        · omega
      obtain ⟨g1, g2⟩ := wm_ls hW hb hz24 hc 20 (Nat.le_refl _)
      refine v_iload_n (n := 95) dX10_warmed_94 rfl rfl rfl ?_
      refine v_if_ne (n := 98) (tgt := 102) dX10_warmed_95 (by decide) rfl (fun hq95 => ?_) (fun hq95 => ?_)
      · refine v_iload (n := 104) dX10_warmed_102 rfl rfl ?_
        exact v_qt rfl (by rw [if_neg hq95, g2, lN_i]) hs1 hE ⟨l8 rfl, l8 rfl⟩ dX10_warmed_104
      · refine v_iload_n (n := 99) dX10_warmed_98 rfl rfl rfl ?_
        refine v_goto (tgt := 104) dX10_warmed_99 (by decide) ?_
        exact v_qt rfl (by rw [if_pos hq95]) hs1 hE ⟨l8 rfl, l8 rfl⟩ dX10_warmed_104
    · have hw1 : w + 1 ≤ 20 := by have := Int32.not_lt.mp hq57; exact le_out (b := 20) this (by omega) (by decide)
      obtain ⟨g1, g2⟩ := wm_ls hW hb hz24 hc w (by omega)
      obtain ⟨f1, f2⟩ := dw_eq (w := w + 1) hW hb hz24 hc hw1
      refine v_aload_n (n := 61) dX10_warmed_60 rfl rfl rfl ?_
      refine v_aload_n (n := 62) dX10_warmed_61 rfl rfl rfl ?_
      refine v_getR (n := 65) f_X10_52 rfl L1.s L1.g7 dX10_warmed_62 rfl ?_
      refine v_iload_n (n := 66) dX10_warmed_65 rfl rfl rfl ?_
      refine v_aald (n := 67) (t := 5) (j := s) ⟨by decide, by decide⟩ L1.c7 (ix_nI hs (by decide)) (L1.sh hs).1 dX10_warmed_66 rfl ?_
      refine v_iload (n := 69) dX10_warmed_67 rfl rfl ?_
      refine v_callV (n := 72) mc_X10_differences l_X10_227 iv_X10_differences se_X10_differences (ci := 9) ⟨by decide, rfl⟩ L1.s (c_X10_differences (w := w + 1) (z := z) (ce := (fun j => J (m + 16) (24 * s + j))) L1 (vn_thk h hB hs1 hE) hW hB hm hb hs (by rw [hE _ (by unfold thk stk; omega)]; exact hz) hz24 (fun j hj => by rw [hE _ (by unfold thk stk; omega)]; exact hce j (by omega)) hc hw1) ⟨rfl, rfl⟩ (l8 rfl) ⟨l8 rfl, l8 rfl⟩ rfl rfl (l8 rfl) dX10_warmed_69 rfl ?_
      rintro _ S3 J3 ⟨rfl, hs3, hE3⟩
      have L3 := L1.th hs3
      refine v_istore (n := 74) (al' := [.ref x, .int (nI s), .int xb, .int ((wmF X T (yn X) (fun j => J (m + 16) (24 * s + j)) z w).1), .int (nI (lsN X T (yn X) (fun j => J (m + 16) (24 * s + j)) z w)), .int (nI (w + 1)), .int (nI (dW X T (yn X) (fun j => J (m + 16) (24 * s + j)) z (w + 1)))]) dX10_warmed_72 rfl rfl rfl ?_
      refine v_iload (n := 76) dX10_warmed_74 rfl rfl ?_
      refine v_iload (n := 78) dX10_warmed_76 rfl rfl ?_
      refine v_icmp_ge (n := 81) (tgt := 88) dX10_warmed_78 (by decide) rfl (fun hq78 => ?_) (fun hq78 => ?_)
      · have hnl : ¬ dW X T (yn X) (fun j => J (m + 16) (24 * s + j)) z (w + 1) < lsN X T (yn X) (fun j => J (m + 16) (24 * s + j)) z w := fun q => absurd (nI_lt q g1) (Int32.not_lt.mpr hq78)
        refine v_iinc (n := 91) (v := (nI (w + 1)) + 1) (al' := [.ref x, .int (nI s), .int xb, .int ((wmF X T (yn X) (fun j => J (m + 16) (24 * s + j)) z w).1), .int (nI (lsN X T (yn X) (fun j => J (m + 16) (24 * s + j)) z w)), .int ((nI (w + 1)) + 1), .int (nI (dW X T (yn X) (fun j => J (m + 16) (24 * s + j)) z (w + 1)))]) dX10_warmed_88 rfl (by rw [c_1]) rfl rfl rfl ?_
        refine v_goto (tgt := 53) dX10_warmed_91 (by decide) ?_
        refine v_drop 6 (al' := [.ref x, .int (nI s), .int xb, .int ((wmF X T (yn X) (fun j => J (m + 16) (24 * s + j)) z w).1), .int (nI (lsN X T (yn X) (fun j => J (m + 16) (24 * s + j)) z w)), .int ((nI (w + 1)) + 1), JJ]) rfl ?_
        have e1 : (wmF X T (yn X) (fun j => J (m + 16) (24 * s + j)) z (w + 1)).1 = ((wmF X T (yn X) (fun j => J (m + 16) (24 * s + j)) z w).1) := by rw [wm_1 hW hb hz24 hc hw1, if_neg hnl]
        have e2 : lsN X T (yn X) (fun j => J (m + 16) (24 * s + j)) z (w + 1) = lsN X T (yn X) (fun j => J (m + 16) (24 * s + j)) z w := by rw [lsN, if_neg hnl]
        have k9 := ih (w + 1) hw1 (by omega) S3 J3 L3 (hs1.tr hs3) (hE.tr hE3)
        rw [e1, e2] at k9
        rw [nI_1]
        exact k9
      · have hlt9 : dW X T (yn X) (fun j => J (m + 16) (24 * s + j)) z (w + 1) < lsN X T (yn X) (fun j => J (m + 16) (24 * s + j)) z w := (nI_ltI f1 g1).mp (Int32.not_le.mp hq78)
        refine v_iload (n := 83) dX10_warmed_81 rfl rfl ?_
        refine v_istore_n (n := 84) (al' := [.ref x, .int (nI s), .int xb, .int (nI (w + 1)), .int (nI (lsN X T (yn X) (fun j => J (m + 16) (24 * s + j)) z w)), .int (nI (w + 1)), .int (nI (dW X T (yn X) (fun j => J (m + 16) (24 * s + j)) z (w + 1)))]) dX10_warmed_83 rfl rfl rfl rfl ?_
        refine v_iload (n := 86) dX10_warmed_84 rfl rfl ?_
        refine v_istore (n := 88) (al' := [.ref x, .int (nI s), .int xb, .int (nI (w + 1)), .int (nI (dW X T (yn X) (fun j => J (m + 16) (24 * s + j)) z (w + 1))), .int (nI (w + 1)), .int (nI (dW X T (yn X) (fun j => J (m + 16) (24 * s + j)) z (w + 1)))]) dX10_warmed_86 rfl rfl rfl ?_
        refine v_iinc (n := 91) (v := (nI (w + 1)) + 1) (al' := [.ref x, .int (nI s), .int xb, .int (nI (w + 1)), .int (nI (dW X T (yn X) (fun j => J (m + 16) (24 * s + j)) z (w + 1))), .int ((nI (w + 1)) + 1), .int (nI (dW X T (yn X) (fun j => J (m + 16) (24 * s + j)) z (w + 1)))]) dX10_warmed_88 rfl (by rw [c_1]) rfl rfl rfl ?_
        refine v_goto (tgt := 53) dX10_warmed_91 (by decide) ?_
        refine v_drop 6 (al' := [.ref x, .int (nI s), .int xb, .int (nI (w + 1)), .int (nI (dW X T (yn X) (fun j => J (m + 16) (24 * s + j)) z (w + 1))), .int ((nI (w + 1)) + 1), JJ]) rfl ?_
        have e1 : (wmF X T (yn X) (fun j => J (m + 16) (24 * s + j)) z (w + 1)).1 = (nI (w + 1)) := by rw [wm_1 hW hb hz24 hc hw1, if_pos hlt9]
        have e2 : lsN X T (yn X) (fun j => J (m + 16) (24 * s + j)) z (w + 1) = dW X T (yn X) (fun j => J (m + 16) (24 * s + j)) z (w + 1) := by rw [lsN, if_pos hlt9]
        have k9 := ih (w + 1) hw1 (by omega) S3 J3 L3 (hs1.tr hs3) (hE.tr hE3)
        rw [e1, e2] at k9
        rw [nI_1]
        exact k9

theorem sort_0 {v : Int32} (h : v = -1 ∨ v = 0 ∨ v = 1) (h1 : ¬ v = -1) : 0 ≤ v := by
  rcases h with h | h | h
  · exact absurd h h1
  · rw [h]; decide
  · rw [h]; decide
set_option maxRecDepth 100000 in
set_option maxHeartbeats 1000000 in
theorem c_X10_warmed {ro : Ro} {S : St} {I : In} {xa xb : Int32} {x B T b : Nat} {X : Ar} {lw : Nat → Nat} (L : LayX S x) (h : VN S I (x + 1) B X T lw) (hW : WN X T b) (hB : x + 134 ≤ B) {J : In} {m : Nat} (hX : J (m + 1) = X) (hSh : ShR I J x m) (hM : MW J m) (hCe : CeR J m) (hm : mvOk X) (hb : b < 80000000) : Ok mX10_warmed ro 7 0 0 [.ref x, .int xa, .int xb] S I (QT S I x B (warmS J m T (yn X) xa xb)) := by
  refine ok_of (al := [.ref x, .int xa, .int xb, JJ, JJ, JJ, JJ]) (by decide) (l8 rfl) rfl ?_
  refine v_iload_n (n := 1) dX10_warmed_0 rfl rfl rfl ?_
  refine v_cSi (n := 4) (x := (bi (inn xa 0 3))) mc_X10_isSheet l_X10_220 sta_X10_isSheet k_sh ⟨rfl, rfl⟩ (l8 rfl) ⟨l8 rfl, l8 rfl⟩ rfl rfl (l8 rfl) dX10_warmed_1 rfl ?_
  refine v_if_eq (n := 7) (tgt := 16) dX10_warmed_4 (by decide) rfl (fun hq4 => ?_) (fun hq4 => ?_)
  · refine v_ldc (n := 18) k_X10_84 dX10_warmed_16 rfl ?_
    exact v_qt rfl (by rw [warmS, if_neg (by rw [bi_0.mp hq4, Bool.false_and]; decide)]) SGp.rf Eqx.rf ⟨l8 rfl, l8 rfl⟩ dX10_warmed_18
  · refine v_iload_n (n := 8) dX10_warmed_7 rfl rfl rfl ?_
    refine v_if_lt (n := 11) (tgt := 16) dX10_warmed_8 (by decide) rfl (fun hq8 => ?_) (fun hq8 => ?_)
    · refine v_ldc (n := 18) k_X10_84 dX10_warmed_16 rfl ?_
      exact v_qt rfl (by rw [warmS, if_neg (by rw [inn_no1 hq8, Bool.and_false]; decide)]) SGp.rf Eqx.rf ⟨l8 rfl, l8 rfl⟩ dX10_warmed_18
    · refine v_iload_n (n := 12) dX10_warmed_11 rfl rfl rfl ?_
      refine v_iconst (n := 13) (v := 1) dX10_warmed_12 c_1 rfl ?_
      refine v_icmp_le (n := 16) (tgt := 19) dX10_warmed_13 (by decide) rfl (fun hq13 => ?_) (fun hq13 => ?_)
      · have hib := inn_of hq8 hq13
        have hia := bi_n0.mp hq4
        obtain ⟨s, hs3, rfl⟩ := inn_get (a := 3) hia (by decide)
        have hs : s < 4 := by omega
        have hcs : (nI s).toNatClampNeg = s := nI_clamp (by omega)
        obtain ⟨e1, e2, e3⟩ := hSh s hs
        obtain ⟨m1, z, hz24, m2⟩ := hM.1 s hs
        have hgt : (inn (nI s) 0 3 && inn xb 0 1) = true := by rw [hia, hib]; rfl
        refine v_aload_n (n := 20) dX10_warmed_19 rfl rfl rfl ?_
        refine v_getR (n := 23) f_X10_52 rfl L.s L.g7 dX10_warmed_20 rfl ?_
        refine v_iload_n (n := 24) dX10_warmed_23 rfl rfl rfl ?_
        refine v_aald (n := 25) (t := 5) (j := s) ⟨by decide, by decide⟩ L.c7 (ix_nI hs (by decide)) (L.sh hs).1 dX10_warmed_24 rfl ?_
        refine v_getI (n := 28) f_X10_223 rfl (L.sh hs).2.s dX10_warmed_25 rfl ?_
        rw [e1]
        refine v_iconst (n := 29) (v := (-1)) dX10_warmed_28 c_m1 rfl ?_
        refine v_icmp_ne (n := 32) (tgt := 35) dX10_warmed_29 (by decide) rfl (fun hq29 => ?_) (fun hq29 => ?_)
        · have h0 : 0 ≤ J (m + 14) s := sort_0 m1 hq29
          have hz := e2.trans m2
          have hc : ceOk (fun j => J (m + 16) (24 * s + j)) z := fun j hj => hCe (24 * s + j) (by omega)
          refine v_iconst (n := 36) (v := 0) dX10_warmed_35 c_0 rfl ?_
          refine v_istore_n (n := 37) (al' := [.ref x, .int (nI s), .int xb, .int 0, JJ, JJ, JJ]) dX10_warmed_36 rfl rfl rfl rfl ?_
          refine v_aload_n (n := 38) dX10_warmed_37 rfl rfl rfl ?_
          refine v_aload_n (n := 39) dX10_warmed_38 rfl rfl rfl ?_
          refine v_getR (n := 42) f_X10_52 rfl L.s L.g7 dX10_warmed_39 rfl ?_
          refine v_iload_n (n := 43) dX10_warmed_42 rfl rfl rfl ?_
          refine v_aald (n := 44) (t := 5) (j := s) ⟨by decide, by decide⟩ L.c7 (ix_nI hs (by decide)) (L.sh hs).1 dX10_warmed_43 rfl ?_
          refine v_iconst (n := 45) (v := 0) dX10_warmed_44 c_0 rfl ?_
          refine v_callV (n := 48) mc_X10_differences l_X10_227 iv_X10_differences se_X10_differences (ci := 9) ⟨by decide, rfl⟩ L.s (c_X10_differences (w := 0) (z := z) (ce := (fun j => J (m + 16) (24 * s + j))) L h hW hB hm hb hs hz hz24 (fun j hj => e3 j (by omega)) hc (by decide)) ⟨rfl, rfl⟩ (l8 rfl) ⟨l8 rfl, l8 rfl⟩ rfl rfl (l8 rfl) dX10_warmed_45 rfl ?_
          rintro _ S3 J3 ⟨rfl, hs3, hE3⟩
          have L3 := L.th hs3
          refine v_istore (n := 50) (al' := [.ref x, .int (nI s), .int xb, .int 0, .int (nI (dW X T (yn X) (fun j => J (m + 16) (24 * s + j)) z 0)), JJ, JJ]) dX10_warmed_48 rfl rfl rfl ?_
          refine v_iconst (n := 51) (v := 1) dX10_warmed_50 c_1 rfl ?_
          refine v_istore (n := 53) (al' := [.ref x, .int (nI s), .int xb, .int 0, .int (nI (dW X T (yn X) (fun j => J (m + 16) (24 * s + j)) z 0)), .int 1, JJ]) dX10_warmed_51 rfl rfl rfl ?_
          rw [warmS, if_pos hgt, hcs, if_pos h0, hX, m2, nI_clamp (by omega)]
          exact l_X10_warmed L h hW hB hX hSh hM hCe hm hb hs hz hz24 e3 hc 21 0 (by decide) (by decide) S3 J3 L3 hs3 hE3
        · refine v_ldc (n := 34) k_X10_226 dX10_warmed_32 rfl ?_
          exact v_qt rfl (by rw [warmS, if_pos hgt, hcs, if_neg (by rw [hq29]; decide)]) SGp.rf Eqx.rf ⟨l8 rfl, l8 rfl⟩ dX10_warmed_34
      · refine v_ldc (n := 18) k_X10_84 dX10_warmed_16 rfl ?_
        exact v_qt rfl (by rw [warmS, if_neg (by rw [inn_no2 hq13, Bool.and_false]; decide)]) SGp.rf Eqx.rf ⟨l8 rfl, l8 rfl⟩ dX10_warmed_18

