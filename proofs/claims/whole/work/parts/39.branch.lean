/-! ===== Paths.branch, search ===== -/
def sB (I : In) (q : Nat) : Bool × Tri := (decide (I q 1 = 0), (I q 2, I q 3, I q 4))
def brP (q k B a : Nat) : Prop := a = q ∨ (q + 2 + 11 * k ≤ a ∧ a < q + 57) ∨ stk B a
theorem VR.setmv {S : St} {I : In} {v B T n l : Nat} {X : Ar} {mv : Int32} {lw : Nat → Nat} (h : VR S I v B X mv T n l lw) (hv : v < B) (y : Int32) : VR S (setI I v 7 y) v B X y T n l lw := by
  have hE : Eqx (fun a => a = v) I (setI I v 7 y) := fun a ha => setI_ne ha
  obtain ⟨a1, a2, a3, a4, a5, a6⟩ := h.2.2.1
  exact ⟨h.1.eqx hE (fun a q => by omega), h.2.1.eqx hE (fun a q => by omega), ⟨by rw [sI_k (by decide)]; exact a1, by rw [sI_k (by decide)]; exact a2, by rw [sI_k (by decide)]; exact a3, by rw [sI_k (by decide)]; exact a4, by rw [sI_s], by rw [sI_k (by decide)]; exact a6⟩, h.2.2.2.1, h.2.2.2.2.eqx hE (fun a q => by omega)⟩
theorem mo_eq {mo m : Nat} {y : Int32} (hy : y = nI m - 1) : nI mo * 3 + y + 1 = nI (3 * mo + m) := by
  rw [hy, lit_nI 3, pk_mul, Int32.sub_eq_add_neg, ← Int32.add_assoc, nI_add, Int32.add_assoc, show (-1 : Int32) + 1 = 0 from by decide, Int32.add_zero, Nat.mul_comm]
theorem y_rng {m : Nat} {y : Int32} (hm : m < 3) (hy : y = nI m - 1) : (-10 ≤ y.toInt ∧ y.toInt ≤ 10) ∧ ¬ 1 < y := by
  have : m = 0 ∨ m = 1 ∨ m = 2 := by omega
  rcases this with rfl | rfl | rfl <;> subst hy <;> decide

theorem wb_f {T n : Nat} : ∀ r (X : Ar) mo s, (wbF T n r X mo s).1 = false
  | 0, _, _, _ => rfl
  | r + 1, X, mo, s => by rw [wbF]; exact wb_f r _ _ _
theorem wb_1 {T n r q mo : Nat} {X : Ar} {s : Bool × Tri} {J : In} (h : sB J q = wbF T n r X mo s) (hf : J q 1 = 0 ∨ J q 1 = 1) : J q 1 = 1 := by
  have h1 : (sB J q).1 = false := by rw [h]; exact wb_f r X mo s
  exact hf.resolve_left (by simpa [sB] using h1)

set_option maxRecDepth 100000 in
set_option maxHeartbeats 1000000 in
theorem kb0_X3_branch {ro : Ro} {S : St} {I : In} {q w B T n l b k mo D : Nat} {X : Ar} {mv : Int32} {lw : Nat → Nat} (P : LayP S q) (L2 : LayV S w) (hd : w + 11 ≤ q ∨ q + 57 ≤ w ∨ (q + 2 ≤ w ∧ w + 11 ≤ q + 2 + 11 * k)) (h : VR S I w B X mv T n l lw) (hW : WX X T n l b) (hf : I q 1 = 0 ∨ I q 1 = 1) (hvB : q + 57 ≤ B) (hwB : w + 11 ≤ B) (hD : D ≤ 5) (hmo : mo ≤ 243) (hk : k = D) : Ok mX3_branch ro 2 0 0 [.ref q, .ref w, .int (nI D), .int (nI k), .int (nI mo)] S I (fun r0 S' I' => r0 = none ∧ SGp (thP q k) S S' ∧ sB I' q = wbF T n 0 X mo (sB I q) ∧ I' q 1 = 1 ∧ Eqx (brP q k B) I I') := by
  refine ok_of (al := [.ref q, .ref w, .int (nI D), .int (nI k), .int (nI mo), JJ, JJ]) (by decide) (l8 rfl) rfl ?_
  refine v_iload_n (n := 1) dX3_branch_0 rfl rfl rfl ?_
  refine v_iload_n (n := 2) dX3_branch_1 rfl rfl rfl ?_
  refine v_icmp_ge (n := 5) (tgt := 10) dX3_branch_2 (by decide) rfl (fun hq2 => ?_) (fun hq2 => ?_)
  · refine v_aload_n (n := 11) dX3_branch_10 rfl rfl rfl ?_
    refine v_aload_n (n := 12) dX3_branch_11 rfl rfl rfl ?_
    refine v_iload (n := 14) dX3_branch_12 rfl rfl ?_
    refine v_callV (n := 17) mc_X3_weigh l_X3_46 iv_X3_weigh se_X3_weigh (ci := 2) ⟨by decide, rfl⟩ P.s (k_X3_weigh P L2 h hW.2.1 hf) ⟨rfl, rfl⟩ (l8 rfl) ⟨l8 rfl, l8 rfl⟩ rfl rfl (l8 rfl) dX3_branch_14 rfl ?_
    rintro _ _ J ⟨rfl, hS9, hT9, hF9, hE9⟩
    replace hS9 := hS9.symm
    subst hS9
    refine v_vret rfl ⟨rfl, SGp.rf, ?_, hF9, hE9.mono (fun a z => Or.inl z)⟩ ⟨l8 rfl, l8 rfl⟩ dX3_branch_17
    have hln := hW.lnn
    rw [sB, hT9, hF9, wbF, wvX, hln]; rfl
  · exact absurd ((nI_leI (a := D) (b := k) (by omega) (by omega)).mpr (by omega)) hq2

set_option maxRecDepth 100000 in
set_option maxHeartbeats 1000000 in
theorem bi1_X3_branch {ro : Ro} {S S1 : St} {I J : In} {Q : Option Value → St → In → Prop} {q w B T n l b k mo D : Nat} {X : Ar} {mv : Int32} {lw : Nat → Nat} (P : LayP S q) (L2 : LayV S w) (hd : w + 11 ≤ q ∨ q + 57 ≤ w ∨ (q + 2 ≤ w ∧ w + 11 ≤ q + 2 + 11 * k)) (h : VR S I w B X mv T n l lw) (hW : WX X T n l b) (hf : I q 1 = 0 ∨ I q 1 = 1) (hvB : q + 57 ≤ B) (hwB : w + 11 ≤ B) (hD : D ≤ 5) (hmo : mo ≤ 243) (hk : k + 1 = D) (hb : b + 999 * 1 < 2 ^ 30) (hmo2 : mo * 3 ^ 1 + 3 ^ 1 ≤ 243) {m : Nat} {y : Int32} (hm : m < 3) (hy : y = nI m - 1) (hs1 : SGp (thP q k) S S1) (hE : Eqx (brP q k B) I J) (hfJ : J q 1 = 0 ∨ J q 1 = 1) (kk : ∀ S5 J5, SGp (thP q k) S S5 → Eqx (brP q k B) I J5 → sB J5 q = wbF T n 0 (dayX X T n (ln X) (nI m - 1)) (3 * mo + m) (sB J q) → (J5 q 1 = 0 ∨ J5 q 1 = 1) → V RX3 cX3_branch 7 (none) "branch" ro (rmD 5 0 0) (QM 0 0 Q) 0 0 29 [.ref q, .ref w, .int (nI D), .int (nI k), .int (nI mo), .ref ((q + 2 + 11 * k)), .int (y + 1)] [] S5 J5) : V RX3 cX3_branch 7 (none) "branch" ro (rmD 5 0 0) (QM 0 0 Q) 0 0 29 [.ref q, .ref w, .int (nI D), .int (nI k), .int (nI mo), .ref ((q + 2 + 11 * k)), .int y] [] S1 J := by
  have hyr := y_rng hm hy
  have hT14 := hW.2.2.2.2.1.2.1
  have P1 := P.sp hs1
  have LT1 := P1.v (i := k) (by omega)
  have L21 : LayV S1 w := L2.sp hs1 (fun z => by have := z.lt; omega) (fun z => by have := z.lt; omega) (fun z => by have := z.lt; omega)
  have hw1 : VR S1 J w B X mv T n l lw := (h.eqx hE (fun a z => by rcases z with z | z | z; exact ⟨by omega, by omega⟩; exact ⟨by omega, by omega⟩; exact ⟨by unfold stk at z; omega, Or.inr z⟩)).sp hs1 (fun a z => by have := z.lt; omega) (fun z => by have := z.lt; omega)
  refine v_iload (n := 31) dX3_branch_29 rfl rfl ?_
  refine v_iconst (n := 32) (v := 1) dX3_branch_31 c_1 rfl ?_
  refine v_icmp_gt (n := 35) (tgt := 79) dX3_branch_32 (by decide) rfl (fun hq32 => ?_) (fun hq32 => ?_)
  · exact absurd hq32 hyr.2
  · refine v_aload (n := 37) dX3_branch_35 rfl rfl ?_
    refine v_aload_n (n := 38) dX3_branch_37 rfl rfl rfl ?_
    refine v_callV (n := 41) mc_X9_become l_X3_32 iv_X9_become se_X9_become (ci := 8) ⟨by decide, rfl⟩ LT1.s (k_X9_become LT1 L21 (by omega) hw1 hT14 hW.2.1 hW.2.2.2.1 (by omega)) ⟨rfl, rfl⟩ (l8 rfl) ⟨l8 rfl, l8 rfl⟩ rfl rfl (l8 rfl) dX3_branch_38 rfl ?_
    rintro _ S2 J2 ⟨rfl, hS2, hv2, hE2⟩
    have hs2 : SGp (thP q k) S1 S2 := by rw [hS2]; exact bc_th (by omega)
    have P2 := P1.sp hs2
    have LT2 := P2.v (i := k) (by omega)
    have hv3 := hv2.setmv (by omega) y
    refine v_aload (n := 43) dX3_branch_41 rfl rfl ?_
    refine v_iload (n := 45) dX3_branch_43 rfl rfl ?_
    refine v_putI (n := 48) f_X3_50 rfl (Or.inl rfl) LT2.s dX3_branch_45 rfl ?_
    refine v_aload (n := 50) dX3_branch_48 rfl rfl ?_
    refine v_callV (n := 53) mc_X9_passDay l_X3_53 iv_X9_passDay se_X9_passDay (ci := 8) ⟨by decide, rfl⟩ LT2.s (k_X9_passDay LT2 hv3 hW (by omega) hyr.1 (by omega)) ⟨rfl, rfl⟩ (l8 rfl) ⟨l8 rfl, l8 rfl⟩ rfl rfl (l8 rfl) dX3_branch_50 rfl ?_
    rintro _ _ J4 ⟨rfl, hS9, hv4, hE4⟩
    replace hS9 := hS9.symm
    subst hS9
    obtain ⟨l4, e4, hW4⟩ := day_WX hW (by omega) y
    rw [e4] at hv4
    have hq4 : J4 q = J q := by rw [hE4 q (by unfold vfr blk stk; omega), setI_ne (by omega), hE2 q (by unfold blk; omega)]
    refine v_pop (n := 54) dX3_branch_53 rfl rfl ?_
    refine v_aload_n (n := 55) dX3_branch_54 rfl rfl rfl ?_
    refine v_aload (n := 57) dX3_branch_55 rfl rfl ?_
    refine v_iload_n (n := 58) dX3_branch_57 rfl rfl rfl ?_
    refine v_iload_n (n := 59) dX3_branch_58 rfl rfl rfl ?_
    refine v_iconst (n := 60) (v := 1) dX3_branch_59 c_1 rfl ?_
    refine v_iadd (n := 61) dX3_branch_60 rfl ?_
    rw [nI_1]
    refine v_iload (n := 63) dX3_branch_61 rfl rfl ?_
    refine v_iconst (n := 64) (v := 3) dX3_branch_63 c_3 rfl ?_
    refine v_imul (n := 65) dX3_branch_64 rfl ?_
    refine v_iload (n := 67) dX3_branch_65 rfl rfl ?_
    refine v_iadd (n := 68) dX3_branch_67 rfl ?_
    refine v_iconst (n := 69) (v := 1) dX3_branch_68 c_1 rfl ?_
    refine v_iadd (n := 70) dX3_branch_69 rfl ?_
    refine v_tp (mo_eq hy) ?_
    refine v_callS (n := 73) mc_X3_branch l_X3_42 sta_X3_branch (kb0_X3_branch (k := k + 1) P2 LT2 (by omega) hv4 hW4 (by rw [hq4]; exact hfJ) hvB (by omega) hD (by omega) (by omega)) ⟨rfl, rfl⟩ (l8 rfl) ⟨l8 rfl, l8 rfl⟩ rfl rfl (l8 rfl) dX3_branch_70 rfl ?_
    rintro _ S5 J5 ⟨rfl, hs5, hT5, hF5, hE5⟩
    refine v_iinc (n := 76) (v := y + 1) (al' := [.ref q, .ref w, .int (nI D), .int (nI k), .int (nI mo), .ref ((q + 2 + 11 * k)), .int (y + 1)]) dX3_branch_73 rfl (by rw [c_1]) rfl rfl rfl ?_
    refine v_goto (tgt := 29) dX3_branch_76 (by decide) ?_
    have hs15 : SGp (thP q k) S S5 := (hs1.tr hs2).tr (hs5.mono (fun a z => by obtain ⟨i, z1, z2, z3⟩ := z; exact ⟨i, by omega, z2, z3⟩))
    refine kk S5 J5 hs15 ?_ ?_ (Or.inr hF5)
    · refine ((((hE.tr (hE2.mono ?_)).set ?_).tr (hE4.mono ?_))).tr (hE5.mono ?_)
      · intro a z; unfold blk at z; unfold brP; omega
      · unfold brP; omega
      · intro a z; exact z.elim (fun z => by unfold blk at z; unfold brP; omega) (fun z => Or.inr (Or.inr z))
      · intro a z; exact z.elim Or.inl (fun z => z.elim (fun z => Or.inr (Or.inl ⟨by omega, by omega⟩)) (fun z => Or.inr (Or.inr z)))
    · have hln := hW.lnn
      rw [hT5, hln, ← hy, show sB J4 q = sB J q from by unfold sB; rw [hq4]]

set_option maxRecDepth 100000 in
set_option maxHeartbeats 1000000 in
theorem kb1_X3_branch {ro : Ro} {S : St} {I : In} {q w B T n l b k mo D : Nat} {X : Ar} {mv : Int32} {lw : Nat → Nat} (P : LayP S q) (L2 : LayV S w) (hd : w + 11 ≤ q ∨ q + 57 ≤ w ∨ (q + 2 ≤ w ∧ w + 11 ≤ q + 2 + 11 * k)) (h : VR S I w B X mv T n l lw) (hW : WX X T n l b) (hf : I q 1 = 0 ∨ I q 1 = 1) (hvB : q + 57 ≤ B) (hwB : w + 11 ≤ B) (hD : D ≤ 5) (hmo : mo ≤ 243) (hk : k + 1 = D) (hb : b + 999 * 1 < 2 ^ 30) (hmo2 : mo * 3 ^ 1 + 3 ^ 1 ≤ 243) : Ok mX3_branch ro 5 0 0 [.ref q, .ref w, .int (nI D), .int (nI k), .int (nI mo)] S I (fun r0 S' I' => r0 = none ∧ SGp (thP q k) S S' ∧ sB I' q = wbF T n 1 X mo (sB I q) ∧ I' q 1 = 1 ∧ Eqx (brP q k B) I I') := by
  refine ok_of (al := [.ref q, .ref w, .int (nI D), .int (nI k), .int (nI mo), JJ, JJ]) (by decide) (l8 rfl) rfl ?_
  refine v_iload_n (n := 1) dX3_branch_0 rfl rfl rfl ?_
  refine v_iload_n (n := 2) dX3_branch_1 rfl rfl rfl ?_
  refine v_icmp_ge (n := 5) (tgt := 10) dX3_branch_2 (by decide) rfl (fun hq2 => ?_) (fun hq2 => ?_)
  · exact absurd (le_out hq2 (by omega) (by omega)) (by omega)
  · refine v_iload_n (n := 6) dX3_branch_5 rfl rfl rfl ?_
    refine v_iconst (n := 7) (v := 5) dX3_branch_6 c_5 rfl ?_
    refine v_icmp_lt (n := 10) (tgt := 18) dX3_branch_7 (by decide) rfl (fun hq7 => ?_) (fun hq7 => ?_)
    · refine v_aload_n (n := 19) dX3_branch_18 rfl rfl rfl ?_
      refine v_getR (n := 22) f_X3_11 rfl P.s P.g0 dX3_branch_19 rfl ?_
      refine v_iload_n (n := 23) dX3_branch_22 rfl rfl rfl ?_
      refine v_aald (n := 24) (t := 3) (j := k) ⟨by decide, by decide⟩ P.c0 (ix_nI (by omega) (by decide)) (P.2.2.2 k (by omega)).1 dX3_branch_23 rfl ?_
      refine v_astore (n := 26) (al' := [.ref q, .ref w, .int (nI D), .int (nI k), .int (nI mo), .ref ((q + 2 + 11 * k)), JJ]) dX3_branch_24 rfl rfl rfl ?_
      refine v_iconst (n := 27) (v := (-1)) dX3_branch_26 c_m1 rfl ?_
      refine v_istore (n := 29) (al' := [.ref q, .ref w, .int (nI D), .int (nI k), .int (nI mo), .ref ((q + 2 + 11 * k)), .int (-1)]) dX3_branch_27 rfl rfl rfl ?_
      refine bi1_X3_branch P L2 hd h hW hf hvB hwB hD hmo hk hb hmo2 (m := 0) (y := -1) (by decide) (by decide) SGp.rf Eqx.rf hf (fun S1 J1 hs1 hE1 hT1 hF1 => ?_)
      refine bi1_X3_branch P L2 hd h hW hf hvB hwB hD hmo hk hb hmo2 (m := 1) (y := -1 + 1) (by decide) (by decide) hs1 hE1 hF1 (fun S2 J2 hs2 hE2 hT2 hF2 => ?_)
      refine bi1_X3_branch P L2 hd h hW hf hvB hwB hD hmo hk hb hmo2 (m := 2) (y := -1 + 1 + 1) (by decide) (by decide) hs2 hE2 hF2 (fun S3 J3 hs3 hE3 hT3 hF3 => ?_)
      refine v_iload (n := 31) dX3_branch_29 rfl rfl ?_
      refine v_iconst (n := 32) (v := 1) dX3_branch_31 c_1 rfl ?_
      refine v_icmp_gt (n := 35) (tgt := 79) dX3_branch_32 (by decide) rfl (fun hq32 => ?_) (fun hq32 => ?_)
      · refine v_vret rfl ⟨rfl, hs3, ?_, ?_, hE3⟩ ⟨l8 rfl, l8 rfl⟩ dX3_branch_79
        · rw [wbF, hT3, hT2, hT1]; rfl
        · exact wb_1 hT3 hF3
      · exact absurd (by decide) hq32
    · exact absurd (nI_lt (b := 5) (by omega) (by decide)) hq7

set_option maxRecDepth 100000 in
set_option maxHeartbeats 1000000 in
theorem bi2_X3_branch {ro : Ro} {S S1 : St} {I J : In} {Q : Option Value → St → In → Prop} {q w B T n l b k mo D : Nat} {X : Ar} {mv : Int32} {lw : Nat → Nat} (P : LayP S q) (L2 : LayV S w) (hd : w + 11 ≤ q ∨ q + 57 ≤ w ∨ (q + 2 ≤ w ∧ w + 11 ≤ q + 2 + 11 * k)) (h : VR S I w B X mv T n l lw) (hW : WX X T n l b) (hf : I q 1 = 0 ∨ I q 1 = 1) (hvB : q + 57 ≤ B) (hwB : w + 11 ≤ B) (hD : D ≤ 5) (hmo : mo ≤ 243) (hk : k + 2 = D) (hb : b + 999 * 2 < 2 ^ 30) (hmo2 : mo * 3 ^ 2 + 3 ^ 2 ≤ 243) {m : Nat} {y : Int32} (hm : m < 3) (hy : y = nI m - 1) (hs1 : SGp (thP q k) S S1) (hE : Eqx (brP q k B) I J) (hfJ : J q 1 = 0 ∨ J q 1 = 1) (kk : ∀ S5 J5, SGp (thP q k) S S5 → Eqx (brP q k B) I J5 → sB J5 q = wbF T n 1 (dayX X T n (ln X) (nI m - 1)) (3 * mo + m) (sB J q) → (J5 q 1 = 0 ∨ J5 q 1 = 1) → V RX3 cX3_branch 7 (none) "branch" ro (rmD 6 0 0) (QM 0 0 Q) 0 0 29 [.ref q, .ref w, .int (nI D), .int (nI k), .int (nI mo), .ref ((q + 2 + 11 * k)), .int (y + 1)] [] S5 J5) : V RX3 cX3_branch 7 (none) "branch" ro (rmD 6 0 0) (QM 0 0 Q) 0 0 29 [.ref q, .ref w, .int (nI D), .int (nI k), .int (nI mo), .ref ((q + 2 + 11 * k)), .int y] [] S1 J := by
  have hyr := y_rng hm hy
  have hT14 := hW.2.2.2.2.1.2.1
  have P1 := P.sp hs1
  have LT1 := P1.v (i := k) (by omega)
  have L21 : LayV S1 w := L2.sp hs1 (fun z => by have := z.lt; omega) (fun z => by have := z.lt; omega) (fun z => by have := z.lt; omega)
  have hw1 : VR S1 J w B X mv T n l lw := (h.eqx hE (fun a z => by rcases z with z | z | z; exact ⟨by omega, by omega⟩; exact ⟨by omega, by omega⟩; exact ⟨by unfold stk at z; omega, Or.inr z⟩)).sp hs1 (fun a z => by have := z.lt; omega) (fun z => by have := z.lt; omega)
  refine v_iload (n := 31) dX3_branch_29 rfl rfl ?_
  refine v_iconst (n := 32) (v := 1) dX3_branch_31 c_1 rfl ?_
  refine v_icmp_gt (n := 35) (tgt := 79) dX3_branch_32 (by decide) rfl (fun hq32 => ?_) (fun hq32 => ?_)
  · exact absurd hq32 hyr.2
  · refine v_aload (n := 37) dX3_branch_35 rfl rfl ?_
    refine v_aload_n (n := 38) dX3_branch_37 rfl rfl rfl ?_
    refine v_callV (n := 41) mc_X9_become l_X3_32 iv_X9_become se_X9_become (ci := 8) ⟨by decide, rfl⟩ LT1.s (k_X9_become LT1 L21 (by omega) hw1 hT14 hW.2.1 hW.2.2.2.1 (by omega)) ⟨rfl, rfl⟩ (l8 rfl) ⟨l8 rfl, l8 rfl⟩ rfl rfl (l8 rfl) dX3_branch_38 rfl ?_
    rintro _ S2 J2 ⟨rfl, hS2, hv2, hE2⟩
    have hs2 : SGp (thP q k) S1 S2 := by rw [hS2]; exact bc_th (by omega)
    have P2 := P1.sp hs2
    have LT2 := P2.v (i := k) (by omega)
    have hv3 := hv2.setmv (by omega) y
    refine v_aload (n := 43) dX3_branch_41 rfl rfl ?_
    refine v_iload (n := 45) dX3_branch_43 rfl rfl ?_
    refine v_putI (n := 48) f_X3_50 rfl (Or.inl rfl) LT2.s dX3_branch_45 rfl ?_
    refine v_aload (n := 50) dX3_branch_48 rfl rfl ?_
    refine v_callV (n := 53) mc_X9_passDay l_X3_53 iv_X9_passDay se_X9_passDay (ci := 8) ⟨by decide, rfl⟩ LT2.s (k_X9_passDay LT2 hv3 hW (by omega) hyr.1 (by omega)) ⟨rfl, rfl⟩ (l8 rfl) ⟨l8 rfl, l8 rfl⟩ rfl rfl (l8 rfl) dX3_branch_50 rfl ?_
    rintro _ _ J4 ⟨rfl, hS9, hv4, hE4⟩
    replace hS9 := hS9.symm
    subst hS9
    obtain ⟨l4, e4, hW4⟩ := day_WX hW (by omega) y
    rw [e4] at hv4
    have hq4 : J4 q = J q := by rw [hE4 q (by unfold vfr blk stk; omega), setI_ne (by omega), hE2 q (by unfold blk; omega)]
    refine v_pop (n := 54) dX3_branch_53 rfl rfl ?_
    refine v_aload_n (n := 55) dX3_branch_54 rfl rfl rfl ?_
    refine v_aload (n := 57) dX3_branch_55 rfl rfl ?_
    refine v_iload_n (n := 58) dX3_branch_57 rfl rfl rfl ?_
    refine v_iload_n (n := 59) dX3_branch_58 rfl rfl rfl ?_
    refine v_iconst (n := 60) (v := 1) dX3_branch_59 c_1 rfl ?_
    refine v_iadd (n := 61) dX3_branch_60 rfl ?_
    rw [nI_1]
    refine v_iload (n := 63) dX3_branch_61 rfl rfl ?_
    refine v_iconst (n := 64) (v := 3) dX3_branch_63 c_3 rfl ?_
    refine v_imul (n := 65) dX3_branch_64 rfl ?_
    refine v_iload (n := 67) dX3_branch_65 rfl rfl ?_
    refine v_iadd (n := 68) dX3_branch_67 rfl ?_
    refine v_iconst (n := 69) (v := 1) dX3_branch_68 c_1 rfl ?_
    refine v_iadd (n := 70) dX3_branch_69 rfl ?_
    refine v_tp (mo_eq hy) ?_
    refine v_callS (n := 73) mc_X3_branch l_X3_42 sta_X3_branch (kb1_X3_branch (k := k + 1) P2 LT2 (by omega) hv4 hW4 (by rw [hq4]; exact hfJ) hvB (by omega) hD (by omega) (by omega) (by omega) (by omega)) ⟨rfl, rfl⟩ (l8 rfl) ⟨l8 rfl, l8 rfl⟩ rfl rfl (l8 rfl) dX3_branch_70 rfl ?_
    rintro _ S5 J5 ⟨rfl, hs5, hT5, hF5, hE5⟩
    refine v_iinc (n := 76) (v := y + 1) (al' := [.ref q, .ref w, .int (nI D), .int (nI k), .int (nI mo), .ref ((q + 2 + 11 * k)), .int (y + 1)]) dX3_branch_73 rfl (by rw [c_1]) rfl rfl rfl ?_
    refine v_goto (tgt := 29) dX3_branch_76 (by decide) ?_
    have hs15 : SGp (thP q k) S S5 := (hs1.tr hs2).tr (hs5.mono (fun a z => by obtain ⟨i, z1, z2, z3⟩ := z; exact ⟨i, by omega, z2, z3⟩))
    refine kk S5 J5 hs15 ?_ ?_ (Or.inr hF5)
    · refine ((((hE.tr (hE2.mono ?_)).set ?_).tr (hE4.mono ?_))).tr (hE5.mono ?_)
      · intro a z; unfold blk at z; unfold brP; omega
      · unfold brP; omega
      · intro a z; exact z.elim (fun z => by unfold blk at z; unfold brP; omega) (fun z => Or.inr (Or.inr z))
      · intro a z; exact z.elim Or.inl (fun z => z.elim (fun z => Or.inr (Or.inl ⟨by omega, by omega⟩)) (fun z => Or.inr (Or.inr z)))
    · have hln := hW.lnn
      rw [hT5, hln, ← hy, show sB J4 q = sB J q from by unfold sB; rw [hq4]]

set_option maxRecDepth 100000 in
set_option maxHeartbeats 1000000 in
theorem kb2_X3_branch {ro : Ro} {S : St} {I : In} {q w B T n l b k mo D : Nat} {X : Ar} {mv : Int32} {lw : Nat → Nat} (P : LayP S q) (L2 : LayV S w) (hd : w + 11 ≤ q ∨ q + 57 ≤ w ∨ (q + 2 ≤ w ∧ w + 11 ≤ q + 2 + 11 * k)) (h : VR S I w B X mv T n l lw) (hW : WX X T n l b) (hf : I q 1 = 0 ∨ I q 1 = 1) (hvB : q + 57 ≤ B) (hwB : w + 11 ≤ B) (hD : D ≤ 5) (hmo : mo ≤ 243) (hk : k + 2 = D) (hb : b + 999 * 2 < 2 ^ 30) (hmo2 : mo * 3 ^ 2 + 3 ^ 2 ≤ 243) : Ok mX3_branch ro 6 0 0 [.ref q, .ref w, .int (nI D), .int (nI k), .int (nI mo)] S I (fun r0 S' I' => r0 = none ∧ SGp (thP q k) S S' ∧ sB I' q = wbF T n 2 X mo (sB I q) ∧ I' q 1 = 1 ∧ Eqx (brP q k B) I I') := by
  refine ok_of (al := [.ref q, .ref w, .int (nI D), .int (nI k), .int (nI mo), JJ, JJ]) (by decide) (l8 rfl) rfl ?_
  refine v_iload_n (n := 1) dX3_branch_0 rfl rfl rfl ?_
  refine v_iload_n (n := 2) dX3_branch_1 rfl rfl rfl ?_
  refine v_icmp_ge (n := 5) (tgt := 10) dX3_branch_2 (by decide) rfl (fun hq2 => ?_) (fun hq2 => ?_)
  · exact absurd (le_out hq2 (by omega) (by omega)) (by omega)
  · refine v_iload_n (n := 6) dX3_branch_5 rfl rfl rfl ?_
    refine v_iconst (n := 7) (v := 5) dX3_branch_6 c_5 rfl ?_
    refine v_icmp_lt (n := 10) (tgt := 18) dX3_branch_7 (by decide) rfl (fun hq7 => ?_) (fun hq7 => ?_)
    · refine v_aload_n (n := 19) dX3_branch_18 rfl rfl rfl ?_
      refine v_getR (n := 22) f_X3_11 rfl P.s P.g0 dX3_branch_19 rfl ?_
      refine v_iload_n (n := 23) dX3_branch_22 rfl rfl rfl ?_
      refine v_aald (n := 24) (t := 3) (j := k) ⟨by decide, by decide⟩ P.c0 (ix_nI (by omega) (by decide)) (P.2.2.2 k (by omega)).1 dX3_branch_23 rfl ?_
      refine v_astore (n := 26) (al' := [.ref q, .ref w, .int (nI D), .int (nI k), .int (nI mo), .ref ((q + 2 + 11 * k)), JJ]) dX3_branch_24 rfl rfl rfl ?_
      refine v_iconst (n := 27) (v := (-1)) dX3_branch_26 c_m1 rfl ?_
      refine v_istore (n := 29) (al' := [.ref q, .ref w, .int (nI D), .int (nI k), .int (nI mo), .ref ((q + 2 + 11 * k)), .int (-1)]) dX3_branch_27 rfl rfl rfl ?_
      refine bi2_X3_branch P L2 hd h hW hf hvB hwB hD hmo hk hb hmo2 (m := 0) (y := -1) (by decide) (by decide) SGp.rf Eqx.rf hf (fun S1 J1 hs1 hE1 hT1 hF1 => ?_)
      refine bi2_X3_branch P L2 hd h hW hf hvB hwB hD hmo hk hb hmo2 (m := 1) (y := -1 + 1) (by decide) (by decide) hs1 hE1 hF1 (fun S2 J2 hs2 hE2 hT2 hF2 => ?_)
      refine bi2_X3_branch P L2 hd h hW hf hvB hwB hD hmo hk hb hmo2 (m := 2) (y := -1 + 1 + 1) (by decide) (by decide) hs2 hE2 hF2 (fun S3 J3 hs3 hE3 hT3 hF3 => ?_)
      refine v_iload (n := 31) dX3_branch_29 rfl rfl ?_
      refine v_iconst (n := 32) (v := 1) dX3_branch_31 c_1 rfl ?_
      refine v_icmp_gt (n := 35) (tgt := 79) dX3_branch_32 (by decide) rfl (fun hq32 => ?_) (fun hq32 => ?_)
      · refine v_vret rfl ⟨rfl, hs3, ?_, ?_, hE3⟩ ⟨l8 rfl, l8 rfl⟩ dX3_branch_79
        · rw [wbF, hT3, hT2, hT1]; rfl
        · exact wb_1 hT3 hF3
      · exact absurd (by decide) hq32
    · exact absurd (nI_lt (b := 5) (by omega) (by decide)) hq7

set_option maxRecDepth 100000 in
set_option maxHeartbeats 1000000 in
theorem bi3_X3_branch {ro : Ro} {S S1 : St} {I J : In} {Q : Option Value → St → In → Prop} {q w B T n l b k mo D : Nat} {X : Ar} {mv : Int32} {lw : Nat → Nat} (P : LayP S q) (L2 : LayV S w) (hd : w + 11 ≤ q ∨ q + 57 ≤ w ∨ (q + 2 ≤ w ∧ w + 11 ≤ q + 2 + 11 * k)) (h : VR S I w B X mv T n l lw) (hW : WX X T n l b) (hf : I q 1 = 0 ∨ I q 1 = 1) (hvB : q + 57 ≤ B) (hwB : w + 11 ≤ B) (hD : D ≤ 5) (hmo : mo ≤ 243) (hk : k + 3 = D) (hb : b + 999 * 3 < 2 ^ 30) (hmo2 : mo * 3 ^ 3 + 3 ^ 3 ≤ 243) {m : Nat} {y : Int32} (hm : m < 3) (hy : y = nI m - 1) (hs1 : SGp (thP q k) S S1) (hE : Eqx (brP q k B) I J) (hfJ : J q 1 = 0 ∨ J q 1 = 1) (kk : ∀ S5 J5, SGp (thP q k) S S5 → Eqx (brP q k B) I J5 → sB J5 q = wbF T n 2 (dayX X T n (ln X) (nI m - 1)) (3 * mo + m) (sB J q) → (J5 q 1 = 0 ∨ J5 q 1 = 1) → V RX3 cX3_branch 7 (none) "branch" ro (rmD 7 0 0) (QM 0 0 Q) 0 0 29 [.ref q, .ref w, .int (nI D), .int (nI k), .int (nI mo), .ref ((q + 2 + 11 * k)), .int (y + 1)] [] S5 J5) : V RX3 cX3_branch 7 (none) "branch" ro (rmD 7 0 0) (QM 0 0 Q) 0 0 29 [.ref q, .ref w, .int (nI D), .int (nI k), .int (nI mo), .ref ((q + 2 + 11 * k)), .int y] [] S1 J := by
  have hyr := y_rng hm hy
  have hT14 := hW.2.2.2.2.1.2.1
  have P1 := P.sp hs1
  have LT1 := P1.v (i := k) (by omega)
  have L21 : LayV S1 w := L2.sp hs1 (fun z => by have := z.lt; omega) (fun z => by have := z.lt; omega) (fun z => by have := z.lt; omega)
  have hw1 : VR S1 J w B X mv T n l lw := (h.eqx hE (fun a z => by rcases z with z | z | z; exact ⟨by omega, by omega⟩; exact ⟨by omega, by omega⟩; exact ⟨by unfold stk at z; omega, Or.inr z⟩)).sp hs1 (fun a z => by have := z.lt; omega) (fun z => by have := z.lt; omega)
  refine v_iload (n := 31) dX3_branch_29 rfl rfl ?_
  refine v_iconst (n := 32) (v := 1) dX3_branch_31 c_1 rfl ?_
  refine v_icmp_gt (n := 35) (tgt := 79) dX3_branch_32 (by decide) rfl (fun hq32 => ?_) (fun hq32 => ?_)
  · exact absurd hq32 hyr.2
  · refine v_aload (n := 37) dX3_branch_35 rfl rfl ?_
    refine v_aload_n (n := 38) dX3_branch_37 rfl rfl rfl ?_
    refine v_callV (n := 41) mc_X9_become l_X3_32 iv_X9_become se_X9_become (ci := 8) ⟨by decide, rfl⟩ LT1.s (k_X9_become LT1 L21 (by omega) hw1 hT14 hW.2.1 hW.2.2.2.1 (by omega)) ⟨rfl, rfl⟩ (l8 rfl) ⟨l8 rfl, l8 rfl⟩ rfl rfl (l8 rfl) dX3_branch_38 rfl ?_
    rintro _ S2 J2 ⟨rfl, hS2, hv2, hE2⟩
    have hs2 : SGp (thP q k) S1 S2 := by rw [hS2]; exact bc_th (by omega)
    have P2 := P1.sp hs2
    have LT2 := P2.v (i := k) (by omega)
    have hv3 := hv2.setmv (by omega) y
    refine v_aload (n := 43) dX3_branch_41 rfl rfl ?_
    refine v_iload (n := 45) dX3_branch_43 rfl rfl ?_
    refine v_putI (n := 48) f_X3_50 rfl (Or.inl rfl) LT2.s dX3_branch_45 rfl ?_
    refine v_aload (n := 50) dX3_branch_48 rfl rfl ?_
    refine v_callV (n := 53) mc_X9_passDay l_X3_53 iv_X9_passDay se_X9_passDay (ci := 8) ⟨by decide, rfl⟩ LT2.s (k_X9_passDay LT2 hv3 hW (by omega) hyr.1 (by omega)) ⟨rfl, rfl⟩ (l8 rfl) ⟨l8 rfl, l8 rfl⟩ rfl rfl (l8 rfl) dX3_branch_50 rfl ?_
    rintro _ _ J4 ⟨rfl, hS9, hv4, hE4⟩
    replace hS9 := hS9.symm
    subst hS9
    obtain ⟨l4, e4, hW4⟩ := day_WX hW (by omega) y
    rw [e4] at hv4
    have hq4 : J4 q = J q := by rw [hE4 q (by unfold vfr blk stk; omega), setI_ne (by omega), hE2 q (by unfold blk; omega)]
    refine v_pop (n := 54) dX3_branch_53 rfl rfl ?_
    refine v_aload_n (n := 55) dX3_branch_54 rfl rfl rfl ?_
    refine v_aload (n := 57) dX3_branch_55 rfl rfl ?_
    refine v_iload_n (n := 58) dX3_branch_57 rfl rfl rfl ?_
    refine v_iload_n (n := 59) dX3_branch_58 rfl rfl rfl ?_
    refine v_iconst (n := 60) (v := 1) dX3_branch_59 c_1 rfl ?_
    refine v_iadd (n := 61) dX3_branch_60 rfl ?_
    rw [nI_1]
    refine v_iload (n := 63) dX3_branch_61 rfl rfl ?_
    refine v_iconst (n := 64) (v := 3) dX3_branch_63 c_3 rfl ?_
    refine v_imul (n := 65) dX3_branch_64 rfl ?_
    refine v_iload (n := 67) dX3_branch_65 rfl rfl ?_
    refine v_iadd (n := 68) dX3_branch_67 rfl ?_
    refine v_iconst (n := 69) (v := 1) dX3_branch_68 c_1 rfl ?_
    refine v_iadd (n := 70) dX3_branch_69 rfl ?_
    refine v_tp (mo_eq hy) ?_
    refine v_callS (n := 73) mc_X3_branch l_X3_42 sta_X3_branch (kb2_X3_branch (k := k + 1) P2 LT2 (by omega) hv4 hW4 (by rw [hq4]; exact hfJ) hvB (by omega) hD (by omega) (by omega) (by omega) (by omega)) ⟨rfl, rfl⟩ (l8 rfl) ⟨l8 rfl, l8 rfl⟩ rfl rfl (l8 rfl) dX3_branch_70 rfl ?_
    rintro _ S5 J5 ⟨rfl, hs5, hT5, hF5, hE5⟩
    refine v_iinc (n := 76) (v := y + 1) (al' := [.ref q, .ref w, .int (nI D), .int (nI k), .int (nI mo), .ref ((q + 2 + 11 * k)), .int (y + 1)]) dX3_branch_73 rfl (by rw [c_1]) rfl rfl rfl ?_
    refine v_goto (tgt := 29) dX3_branch_76 (by decide) ?_
    have hs15 : SGp (thP q k) S S5 := (hs1.tr hs2).tr (hs5.mono (fun a z => by obtain ⟨i, z1, z2, z3⟩ := z; exact ⟨i, by omega, z2, z3⟩))
    refine kk S5 J5 hs15 ?_ ?_ (Or.inr hF5)
    · refine ((((hE.tr (hE2.mono ?_)).set ?_).tr (hE4.mono ?_))).tr (hE5.mono ?_)
      · intro a z; unfold blk at z; unfold brP; omega
      · unfold brP; omega
      · intro a z; exact z.elim (fun z => by unfold blk at z; unfold brP; omega) (fun z => Or.inr (Or.inr z))
      · intro a z; exact z.elim Or.inl (fun z => z.elim (fun z => Or.inr (Or.inl ⟨by omega, by omega⟩)) (fun z => Or.inr (Or.inr z)))
    · have hln := hW.lnn
      rw [hT5, hln, ← hy, show sB J4 q = sB J q from by unfold sB; rw [hq4]]

set_option maxRecDepth 100000 in
set_option maxHeartbeats 1000000 in
theorem kb3_X3_branch {ro : Ro} {S : St} {I : In} {q w B T n l b k mo D : Nat} {X : Ar} {mv : Int32} {lw : Nat → Nat} (P : LayP S q) (L2 : LayV S w) (hd : w + 11 ≤ q ∨ q + 57 ≤ w ∨ (q + 2 ≤ w ∧ w + 11 ≤ q + 2 + 11 * k)) (h : VR S I w B X mv T n l lw) (hW : WX X T n l b) (hf : I q 1 = 0 ∨ I q 1 = 1) (hvB : q + 57 ≤ B) (hwB : w + 11 ≤ B) (hD : D ≤ 5) (hmo : mo ≤ 243) (hk : k + 3 = D) (hb : b + 999 * 3 < 2 ^ 30) (hmo2 : mo * 3 ^ 3 + 3 ^ 3 ≤ 243) : Ok mX3_branch ro 7 0 0 [.ref q, .ref w, .int (nI D), .int (nI k), .int (nI mo)] S I (fun r0 S' I' => r0 = none ∧ SGp (thP q k) S S' ∧ sB I' q = wbF T n 3 X mo (sB I q) ∧ I' q 1 = 1 ∧ Eqx (brP q k B) I I') := by
  refine ok_of (al := [.ref q, .ref w, .int (nI D), .int (nI k), .int (nI mo), JJ, JJ]) (by decide) (l8 rfl) rfl ?_
  refine v_iload_n (n := 1) dX3_branch_0 rfl rfl rfl ?_
  refine v_iload_n (n := 2) dX3_branch_1 rfl rfl rfl ?_
  refine v_icmp_ge (n := 5) (tgt := 10) dX3_branch_2 (by decide) rfl (fun hq2 => ?_) (fun hq2 => ?_)
  · exact absurd (le_out hq2 (by omega) (by omega)) (by omega)
  · refine v_iload_n (n := 6) dX3_branch_5 rfl rfl rfl ?_
    refine v_iconst (n := 7) (v := 5) dX3_branch_6 c_5 rfl ?_
    refine v_icmp_lt (n := 10) (tgt := 18) dX3_branch_7 (by decide) rfl (fun hq7 => ?_) (fun hq7 => ?_)
    · refine v_aload_n (n := 19) dX3_branch_18 rfl rfl rfl ?_
      refine v_getR (n := 22) f_X3_11 rfl P.s P.g0 dX3_branch_19 rfl ?_
      refine v_iload_n (n := 23) dX3_branch_22 rfl rfl rfl ?_
      refine v_aald (n := 24) (t := 3) (j := k) ⟨by decide, by decide⟩ P.c0 (ix_nI (by omega) (by decide)) (P.2.2.2 k (by omega)).1 dX3_branch_23 rfl ?_
      refine v_astore (n := 26) (al' := [.ref q, .ref w, .int (nI D), .int (nI k), .int (nI mo), .ref ((q + 2 + 11 * k)), JJ]) dX3_branch_24 rfl rfl rfl ?_
      refine v_iconst (n := 27) (v := (-1)) dX3_branch_26 c_m1 rfl ?_
      refine v_istore (n := 29) (al' := [.ref q, .ref w, .int (nI D), .int (nI k), .int (nI mo), .ref ((q + 2 + 11 * k)), .int (-1)]) dX3_branch_27 rfl rfl rfl ?_
      refine bi3_X3_branch P L2 hd h hW hf hvB hwB hD hmo hk hb hmo2 (m := 0) (y := -1) (by decide) (by decide) SGp.rf Eqx.rf hf (fun S1 J1 hs1 hE1 hT1 hF1 => ?_)
      refine bi3_X3_branch P L2 hd h hW hf hvB hwB hD hmo hk hb hmo2 (m := 1) (y := -1 + 1) (by decide) (by decide) hs1 hE1 hF1 (fun S2 J2 hs2 hE2 hT2 hF2 => ?_)
      refine bi3_X3_branch P L2 hd h hW hf hvB hwB hD hmo hk hb hmo2 (m := 2) (y := -1 + 1 + 1) (by decide) (by decide) hs2 hE2 hF2 (fun S3 J3 hs3 hE3 hT3 hF3 => ?_)
      refine v_iload (n := 31) dX3_branch_29 rfl rfl ?_
      refine v_iconst (n := 32) (v := 1) dX3_branch_31 c_1 rfl ?_
      refine v_icmp_gt (n := 35) (tgt := 79) dX3_branch_32 (by decide) rfl (fun hq32 => ?_) (fun hq32 => ?_)
      · refine v_vret rfl ⟨rfl, hs3, ?_, ?_, hE3⟩ ⟨l8 rfl, l8 rfl⟩ dX3_branch_79
        · rw [wbF, hT3, hT2, hT1]; rfl
        · exact wb_1 hT3 hF3
      · exact absurd (by decide) hq32
    · exact absurd (nI_lt (b := 5) (by omega) (by decide)) hq7

set_option maxRecDepth 100000 in
set_option maxHeartbeats 1000000 in
theorem bi4_X3_branch {ro : Ro} {S S1 : St} {I J : In} {Q : Option Value → St → In → Prop} {q w B T n l b k mo D : Nat} {X : Ar} {mv : Int32} {lw : Nat → Nat} (P : LayP S q) (L2 : LayV S w) (hd : w + 11 ≤ q ∨ q + 57 ≤ w ∨ (q + 2 ≤ w ∧ w + 11 ≤ q + 2 + 11 * k)) (h : VR S I w B X mv T n l lw) (hW : WX X T n l b) (hf : I q 1 = 0 ∨ I q 1 = 1) (hvB : q + 57 ≤ B) (hwB : w + 11 ≤ B) (hD : D ≤ 5) (hmo : mo ≤ 243) (hk : k + 4 = D) (hb : b + 999 * 4 < 2 ^ 30) (hmo2 : mo * 3 ^ 4 + 3 ^ 4 ≤ 243) {m : Nat} {y : Int32} (hm : m < 3) (hy : y = nI m - 1) (hs1 : SGp (thP q k) S S1) (hE : Eqx (brP q k B) I J) (hfJ : J q 1 = 0 ∨ J q 1 = 1) (kk : ∀ S5 J5, SGp (thP q k) S S5 → Eqx (brP q k B) I J5 → sB J5 q = wbF T n 3 (dayX X T n (ln X) (nI m - 1)) (3 * mo + m) (sB J q) → (J5 q 1 = 0 ∨ J5 q 1 = 1) → V RX3 cX3_branch 7 (none) "branch" ro (rmD 8 0 0) (QM 0 0 Q) 0 0 29 [.ref q, .ref w, .int (nI D), .int (nI k), .int (nI mo), .ref ((q + 2 + 11 * k)), .int (y + 1)] [] S5 J5) : V RX3 cX3_branch 7 (none) "branch" ro (rmD 8 0 0) (QM 0 0 Q) 0 0 29 [.ref q, .ref w, .int (nI D), .int (nI k), .int (nI mo), .ref ((q + 2 + 11 * k)), .int y] [] S1 J := by
  have hyr := y_rng hm hy
  have hT14 := hW.2.2.2.2.1.2.1
  have P1 := P.sp hs1
  have LT1 := P1.v (i := k) (by omega)
  have L21 : LayV S1 w := L2.sp hs1 (fun z => by have := z.lt; omega) (fun z => by have := z.lt; omega) (fun z => by have := z.lt; omega)
  have hw1 : VR S1 J w B X mv T n l lw := (h.eqx hE (fun a z => by rcases z with z | z | z; exact ⟨by omega, by omega⟩; exact ⟨by omega, by omega⟩; exact ⟨by unfold stk at z; omega, Or.inr z⟩)).sp hs1 (fun a z => by have := z.lt; omega) (fun z => by have := z.lt; omega)
  refine v_iload (n := 31) dX3_branch_29 rfl rfl ?_
  refine v_iconst (n := 32) (v := 1) dX3_branch_31 c_1 rfl ?_
  refine v_icmp_gt (n := 35) (tgt := 79) dX3_branch_32 (by decide) rfl (fun hq32 => ?_) (fun hq32 => ?_)
  · exact absurd hq32 hyr.2
  · refine v_aload (n := 37) dX3_branch_35 rfl rfl ?_
    refine v_aload_n (n := 38) dX3_branch_37 rfl rfl rfl ?_
    refine v_callV (n := 41) mc_X9_become l_X3_32 iv_X9_become se_X9_become (ci := 8) ⟨by decide, rfl⟩ LT1.s (k_X9_become LT1 L21 (by omega) hw1 hT14 hW.2.1 hW.2.2.2.1 (by omega)) ⟨rfl, rfl⟩ (l8 rfl) ⟨l8 rfl, l8 rfl⟩ rfl rfl (l8 rfl) dX3_branch_38 rfl ?_
    rintro _ S2 J2 ⟨rfl, hS2, hv2, hE2⟩
    have hs2 : SGp (thP q k) S1 S2 := by rw [hS2]; exact bc_th (by omega)
    have P2 := P1.sp hs2
    have LT2 := P2.v (i := k) (by omega)
    have hv3 := hv2.setmv (by omega) y
    refine v_aload (n := 43) dX3_branch_41 rfl rfl ?_
    refine v_iload (n := 45) dX3_branch_43 rfl rfl ?_
    refine v_putI (n := 48) f_X3_50 rfl (Or.inl rfl) LT2.s dX3_branch_45 rfl ?_
    refine v_aload (n := 50) dX3_branch_48 rfl rfl ?_
    refine v_callV (n := 53) mc_X9_passDay l_X3_53 iv_X9_passDay se_X9_passDay (ci := 8) ⟨by decide, rfl⟩ LT2.s (k_X9_passDay LT2 hv3 hW (by omega) hyr.1 (by omega)) ⟨rfl, rfl⟩ (l8 rfl) ⟨l8 rfl, l8 rfl⟩ rfl rfl (l8 rfl) dX3_branch_50 rfl ?_
    rintro _ _ J4 ⟨rfl, hS9, hv4, hE4⟩
    replace hS9 := hS9.symm
    subst hS9
    obtain ⟨l4, e4, hW4⟩ := day_WX hW (by omega) y
    rw [e4] at hv4
    have hq4 : J4 q = J q := by rw [hE4 q (by unfold vfr blk stk; omega), setI_ne (by omega), hE2 q (by unfold blk; omega)]
    refine v_pop (n := 54) dX3_branch_53 rfl rfl ?_
    refine v_aload_n (n := 55) dX3_branch_54 rfl rfl rfl ?_
    refine v_aload (n := 57) dX3_branch_55 rfl rfl ?_
    refine v_iload_n (n := 58) dX3_branch_57 rfl rfl rfl ?_
    refine v_iload_n (n := 59) dX3_branch_58 rfl rfl rfl ?_
    refine v_iconst (n := 60) (v := 1) dX3_branch_59 c_1 rfl ?_
    refine v_iadd (n := 61) dX3_branch_60 rfl ?_
    rw [nI_1]
    refine v_iload (n := 63) dX3_branch_61 rfl rfl ?_
    refine v_iconst (n := 64) (v := 3) dX3_branch_63 c_3 rfl ?_
    refine v_imul (n := 65) dX3_branch_64 rfl ?_
    refine v_iload (n := 67) dX3_branch_65 rfl rfl ?_
    refine v_iadd (n := 68) dX3_branch_67 rfl ?_
    refine v_iconst (n := 69) (v := 1) dX3_branch_68 c_1 rfl ?_
    refine v_iadd (n := 70) dX3_branch_69 rfl ?_
    refine v_tp (mo_eq hy) ?_
    refine v_callS (n := 73) mc_X3_branch l_X3_42 sta_X3_branch (kb3_X3_branch (k := k + 1) P2 LT2 (by omega) hv4 hW4 (by rw [hq4]; exact hfJ) hvB (by omega) hD (by omega) (by omega) (by omega) (by omega)) ⟨rfl, rfl⟩ (l8 rfl) ⟨l8 rfl, l8 rfl⟩ rfl rfl (l8 rfl) dX3_branch_70 rfl ?_
    rintro _ S5 J5 ⟨rfl, hs5, hT5, hF5, hE5⟩
    refine v_iinc (n := 76) (v := y + 1) (al' := [.ref q, .ref w, .int (nI D), .int (nI k), .int (nI mo), .ref ((q + 2 + 11 * k)), .int (y + 1)]) dX3_branch_73 rfl (by rw [c_1]) rfl rfl rfl ?_
    refine v_goto (tgt := 29) dX3_branch_76 (by decide) ?_
    have hs15 : SGp (thP q k) S S5 := (hs1.tr hs2).tr (hs5.mono (fun a z => by obtain ⟨i, z1, z2, z3⟩ := z; exact ⟨i, by omega, z2, z3⟩))
    refine kk S5 J5 hs15 ?_ ?_ (Or.inr hF5)
    · refine ((((hE.tr (hE2.mono ?_)).set ?_).tr (hE4.mono ?_))).tr (hE5.mono ?_)
      · intro a z; unfold blk at z; unfold brP; omega
      · unfold brP; omega
      · intro a z; exact z.elim (fun z => by unfold blk at z; unfold brP; omega) (fun z => Or.inr (Or.inr z))
      · intro a z; exact z.elim Or.inl (fun z => z.elim (fun z => Or.inr (Or.inl ⟨by omega, by omega⟩)) (fun z => Or.inr (Or.inr z)))
    · have hln := hW.lnn
      rw [hT5, hln, ← hy, show sB J4 q = sB J q from by unfold sB; rw [hq4]]

set_option maxRecDepth 100000 in
set_option maxHeartbeats 1000000 in
theorem kb4_X3_branch {ro : Ro} {S : St} {I : In} {q w B T n l b k mo D : Nat} {X : Ar} {mv : Int32} {lw : Nat → Nat} (P : LayP S q) (L2 : LayV S w) (hd : w + 11 ≤ q ∨ q + 57 ≤ w ∨ (q + 2 ≤ w ∧ w + 11 ≤ q + 2 + 11 * k)) (h : VR S I w B X mv T n l lw) (hW : WX X T n l b) (hf : I q 1 = 0 ∨ I q 1 = 1) (hvB : q + 57 ≤ B) (hwB : w + 11 ≤ B) (hD : D ≤ 5) (hmo : mo ≤ 243) (hk : k + 4 = D) (hb : b + 999 * 4 < 2 ^ 30) (hmo2 : mo * 3 ^ 4 + 3 ^ 4 ≤ 243) : Ok mX3_branch ro 8 0 0 [.ref q, .ref w, .int (nI D), .int (nI k), .int (nI mo)] S I (fun r0 S' I' => r0 = none ∧ SGp (thP q k) S S' ∧ sB I' q = wbF T n 4 X mo (sB I q) ∧ I' q 1 = 1 ∧ Eqx (brP q k B) I I') := by
  refine ok_of (al := [.ref q, .ref w, .int (nI D), .int (nI k), .int (nI mo), JJ, JJ]) (by decide) (l8 rfl) rfl ?_
  refine v_iload_n (n := 1) dX3_branch_0 rfl rfl rfl ?_
  refine v_iload_n (n := 2) dX3_branch_1 rfl rfl rfl ?_
  refine v_icmp_ge (n := 5) (tgt := 10) dX3_branch_2 (by decide) rfl (fun hq2 => ?_) (fun hq2 => ?_)
  · exact absurd (le_out hq2 (by omega) (by omega)) (by omega)
  · refine v_iload_n (n := 6) dX3_branch_5 rfl rfl rfl ?_
    refine v_iconst (n := 7) (v := 5) dX3_branch_6 c_5 rfl ?_
    refine v_icmp_lt (n := 10) (tgt := 18) dX3_branch_7 (by decide) rfl (fun hq7 => ?_) (fun hq7 => ?_)
    · refine v_aload_n (n := 19) dX3_branch_18 rfl rfl rfl ?_
      refine v_getR (n := 22) f_X3_11 rfl P.s P.g0 dX3_branch_19 rfl ?_
      refine v_iload_n (n := 23) dX3_branch_22 rfl rfl rfl ?_
      refine v_aald (n := 24) (t := 3) (j := k) ⟨by decide, by decide⟩ P.c0 (ix_nI (by omega) (by decide)) (P.2.2.2 k (by omega)).1 dX3_branch_23 rfl ?_
      refine v_astore (n := 26) (al' := [.ref q, .ref w, .int (nI D), .int (nI k), .int (nI mo), .ref ((q + 2 + 11 * k)), JJ]) dX3_branch_24 rfl rfl rfl ?_
      refine v_iconst (n := 27) (v := (-1)) dX3_branch_26 c_m1 rfl ?_
      refine v_istore (n := 29) (al' := [.ref q, .ref w, .int (nI D), .int (nI k), .int (nI mo), .ref ((q + 2 + 11 * k)), .int (-1)]) dX3_branch_27 rfl rfl rfl ?_
      refine bi4_X3_branch P L2 hd h hW hf hvB hwB hD hmo hk hb hmo2 (m := 0) (y := -1) (by decide) (by decide) SGp.rf Eqx.rf hf (fun S1 J1 hs1 hE1 hT1 hF1 => ?_)
      refine bi4_X3_branch P L2 hd h hW hf hvB hwB hD hmo hk hb hmo2 (m := 1) (y := -1 + 1) (by decide) (by decide) hs1 hE1 hF1 (fun S2 J2 hs2 hE2 hT2 hF2 => ?_)
      refine bi4_X3_branch P L2 hd h hW hf hvB hwB hD hmo hk hb hmo2 (m := 2) (y := -1 + 1 + 1) (by decide) (by decide) hs2 hE2 hF2 (fun S3 J3 hs3 hE3 hT3 hF3 => ?_)
      refine v_iload (n := 31) dX3_branch_29 rfl rfl ?_
      refine v_iconst (n := 32) (v := 1) dX3_branch_31 c_1 rfl ?_
      refine v_icmp_gt (n := 35) (tgt := 79) dX3_branch_32 (by decide) rfl (fun hq32 => ?_) (fun hq32 => ?_)
      · refine v_vret rfl ⟨rfl, hs3, ?_, ?_, hE3⟩ ⟨l8 rfl, l8 rfl⟩ dX3_branch_79
        · rw [wbF, hT3, hT2, hT1]; rfl
        · exact wb_1 hT3 hF3
      · exact absurd (by decide) hq32
    · exact absurd (nI_lt (b := 5) (by omega) (by decide)) hq7

set_option maxRecDepth 100000 in
set_option maxHeartbeats 1000000 in
theorem bi5_X3_branch {ro : Ro} {S S1 : St} {I J : In} {Q : Option Value → St → In → Prop} {q w B T n l b k mo D : Nat} {X : Ar} {mv : Int32} {lw : Nat → Nat} (P : LayP S q) (L2 : LayV S w) (hd : w + 11 ≤ q ∨ q + 57 ≤ w ∨ (q + 2 ≤ w ∧ w + 11 ≤ q + 2 + 11 * k)) (h : VR S I w B X mv T n l lw) (hW : WX X T n l b) (hf : I q 1 = 0 ∨ I q 1 = 1) (hvB : q + 57 ≤ B) (hwB : w + 11 ≤ B) (hD : D ≤ 5) (hmo : mo ≤ 243) (hk : k + 5 = D) (hb : b + 999 * 5 < 2 ^ 30) (hmo2 : mo * 3 ^ 5 + 3 ^ 5 ≤ 243) {m : Nat} {y : Int32} (hm : m < 3) (hy : y = nI m - 1) (hs1 : SGp (thP q k) S S1) (hE : Eqx (brP q k B) I J) (hfJ : J q 1 = 0 ∨ J q 1 = 1) (kk : ∀ S5 J5, SGp (thP q k) S S5 → Eqx (brP q k B) I J5 → sB J5 q = wbF T n 4 (dayX X T n (ln X) (nI m - 1)) (3 * mo + m) (sB J q) → (J5 q 1 = 0 ∨ J5 q 1 = 1) → V RX3 cX3_branch 7 (none) "branch" ro (rmD 9 0 0) (QM 0 0 Q) 0 0 29 [.ref q, .ref w, .int (nI D), .int (nI k), .int (nI mo), .ref ((q + 2 + 11 * k)), .int (y + 1)] [] S5 J5) : V RX3 cX3_branch 7 (none) "branch" ro (rmD 9 0 0) (QM 0 0 Q) 0 0 29 [.ref q, .ref w, .int (nI D), .int (nI k), .int (nI mo), .ref ((q + 2 + 11 * k)), .int y] [] S1 J := by
  have hyr := y_rng hm hy
  have hT14 := hW.2.2.2.2.1.2.1
  have P1 := P.sp hs1
  have LT1 := P1.v (i := k) (by omega)
  have L21 : LayV S1 w := L2.sp hs1 (fun z => by have := z.lt; omega) (fun z => by have := z.lt; omega) (fun z => by have := z.lt; omega)
  have hw1 : VR S1 J w B X mv T n l lw := (h.eqx hE (fun a z => by rcases z with z | z | z; exact ⟨by omega, by omega⟩; exact ⟨by omega, by omega⟩; exact ⟨by unfold stk at z; omega, Or.inr z⟩)).sp hs1 (fun a z => by have := z.lt; omega) (fun z => by have := z.lt; omega)
  refine v_iload (n := 31) dX3_branch_29 rfl rfl ?_
  refine v_iconst (n := 32) (v := 1) dX3_branch_31 c_1 rfl ?_
  refine v_icmp_gt (n := 35) (tgt := 79) dX3_branch_32 (by decide) rfl (fun hq32 => ?_) (fun hq32 => ?_)
  · exact absurd hq32 hyr.2
  · refine v_aload (n := 37) dX3_branch_35 rfl rfl ?_
    refine v_aload_n (n := 38) dX3_branch_37 rfl rfl rfl ?_
    refine v_callV (n := 41) mc_X9_become l_X3_32 iv_X9_become se_X9_become (ci := 8) ⟨by decide, rfl⟩ LT1.s (k_X9_become LT1 L21 (by omega) hw1 hT14 hW.2.1 hW.2.2.2.1 (by omega)) ⟨rfl, rfl⟩ (l8 rfl) ⟨l8 rfl, l8 rfl⟩ rfl rfl (l8 rfl) dX3_branch_38 rfl ?_
    rintro _ S2 J2 ⟨rfl, hS2, hv2, hE2⟩
    have hs2 : SGp (thP q k) S1 S2 := by rw [hS2]; exact bc_th (by omega)
    have P2 := P1.sp hs2
    have LT2 := P2.v (i := k) (by omega)
    have hv3 := hv2.setmv (by omega) y
    refine v_aload (n := 43) dX3_branch_41 rfl rfl ?_
    refine v_iload (n := 45) dX3_branch_43 rfl rfl ?_
    refine v_putI (n := 48) f_X3_50 rfl (Or.inl rfl) LT2.s dX3_branch_45 rfl ?_
    refine v_aload (n := 50) dX3_branch_48 rfl rfl ?_
    refine v_callV (n := 53) mc_X9_passDay l_X3_53 iv_X9_passDay se_X9_passDay (ci := 8) ⟨by decide, rfl⟩ LT2.s (k_X9_passDay LT2 hv3 hW (by omega) hyr.1 (by omega)) ⟨rfl, rfl⟩ (l8 rfl) ⟨l8 rfl, l8 rfl⟩ rfl rfl (l8 rfl) dX3_branch_50 rfl ?_
    rintro _ _ J4 ⟨rfl, hS9, hv4, hE4⟩
    replace hS9 := hS9.symm
    subst hS9
    obtain ⟨l4, e4, hW4⟩ := day_WX hW (by omega) y
    rw [e4] at hv4
    have hq4 : J4 q = J q := by rw [hE4 q (by unfold vfr blk stk; omega), setI_ne (by omega), hE2 q (by unfold blk; omega)]
    refine v_pop (n := 54) dX3_branch_53 rfl rfl ?_
    refine v_aload_n (n := 55) dX3_branch_54 rfl rfl rfl ?_
    refine v_aload (n := 57) dX3_branch_55 rfl rfl ?_
    refine v_iload_n (n := 58) dX3_branch_57 rfl rfl rfl ?_
    refine v_iload_n (n := 59) dX3_branch_58 rfl rfl rfl ?_
    refine v_iconst (n := 60) (v := 1) dX3_branch_59 c_1 rfl ?_
    refine v_iadd (n := 61) dX3_branch_60 rfl ?_
    rw [nI_1]
    refine v_iload (n := 63) dX3_branch_61 rfl rfl ?_
    refine v_iconst (n := 64) (v := 3) dX3_branch_63 c_3 rfl ?_
    refine v_imul (n := 65) dX3_branch_64 rfl ?_
    refine v_iload (n := 67) dX3_branch_65 rfl rfl ?_
    refine v_iadd (n := 68) dX3_branch_67 rfl ?_
    refine v_iconst (n := 69) (v := 1) dX3_branch_68 c_1 rfl ?_
    refine v_iadd (n := 70) dX3_branch_69 rfl ?_
    refine v_tp (mo_eq hy) ?_
    refine v_callS (n := 73) mc_X3_branch l_X3_42 sta_X3_branch (kb4_X3_branch (k := k + 1) P2 LT2 (by omega) hv4 hW4 (by rw [hq4]; exact hfJ) hvB (by omega) hD (by omega) (by omega) (by omega) (by omega)) ⟨rfl, rfl⟩ (l8 rfl) ⟨l8 rfl, l8 rfl⟩ rfl rfl (l8 rfl) dX3_branch_70 rfl ?_
    rintro _ S5 J5 ⟨rfl, hs5, hT5, hF5, hE5⟩
    refine v_iinc (n := 76) (v := y + 1) (al' := [.ref q, .ref w, .int (nI D), .int (nI k), .int (nI mo), .ref ((q + 2 + 11 * k)), .int (y + 1)]) dX3_branch_73 rfl (by rw [c_1]) rfl rfl rfl ?_
    refine v_goto (tgt := 29) dX3_branch_76 (by decide) ?_
    have hs15 : SGp (thP q k) S S5 := (hs1.tr hs2).tr (hs5.mono (fun a z => by obtain ⟨i, z1, z2, z3⟩ := z; exact ⟨i, by omega, z2, z3⟩))
    refine kk S5 J5 hs15 ?_ ?_ (Or.inr hF5)
    · refine ((((hE.tr (hE2.mono ?_)).set ?_).tr (hE4.mono ?_))).tr (hE5.mono ?_)
      · intro a z; unfold blk at z; unfold brP; omega
      · unfold brP; omega
      · intro a z; exact z.elim (fun z => by unfold blk at z; unfold brP; omega) (fun z => Or.inr (Or.inr z))
      · intro a z; exact z.elim Or.inl (fun z => z.elim (fun z => Or.inr (Or.inl ⟨by omega, by omega⟩)) (fun z => Or.inr (Or.inr z)))
    · have hln := hW.lnn
      rw [hT5, hln, ← hy, show sB J4 q = sB J q from by unfold sB; rw [hq4]]

set_option maxRecDepth 100000 in
set_option maxHeartbeats 1000000 in
theorem kb5_X3_branch {ro : Ro} {S : St} {I : In} {q w B T n l b k mo D : Nat} {X : Ar} {mv : Int32} {lw : Nat → Nat} (P : LayP S q) (L2 : LayV S w) (hd : w + 11 ≤ q ∨ q + 57 ≤ w ∨ (q + 2 ≤ w ∧ w + 11 ≤ q + 2 + 11 * k)) (h : VR S I w B X mv T n l lw) (hW : WX X T n l b) (hf : I q 1 = 0 ∨ I q 1 = 1) (hvB : q + 57 ≤ B) (hwB : w + 11 ≤ B) (hD : D ≤ 5) (hmo : mo ≤ 243) (hk : k + 5 = D) (hb : b + 999 * 5 < 2 ^ 30) (hmo2 : mo * 3 ^ 5 + 3 ^ 5 ≤ 243) : Ok mX3_branch ro 9 0 0 [.ref q, .ref w, .int (nI D), .int (nI k), .int (nI mo)] S I (fun r0 S' I' => r0 = none ∧ SGp (thP q k) S S' ∧ sB I' q = wbF T n 5 X mo (sB I q) ∧ I' q 1 = 1 ∧ Eqx (brP q k B) I I') := by
  refine ok_of (al := [.ref q, .ref w, .int (nI D), .int (nI k), .int (nI mo), JJ, JJ]) (by decide) (l8 rfl) rfl ?_
  refine v_iload_n (n := 1) dX3_branch_0 rfl rfl rfl ?_
  refine v_iload_n (n := 2) dX3_branch_1 rfl rfl rfl ?_
  refine v_icmp_ge (n := 5) (tgt := 10) dX3_branch_2 (by decide) rfl (fun hq2 => ?_) (fun hq2 => ?_)
  · exact absurd (le_out hq2 (by omega) (by omega)) (by omega)
  · refine v_iload_n (n := 6) dX3_branch_5 rfl rfl rfl ?_
    refine v_iconst (n := 7) (v := 5) dX3_branch_6 c_5 rfl ?_
    refine v_icmp_lt (n := 10) (tgt := 18) dX3_branch_7 (by decide) rfl (fun hq7 => ?_) (fun hq7 => ?_)
    · refine v_aload_n (n := 19) dX3_branch_18 rfl rfl rfl ?_
      refine v_getR (n := 22) f_X3_11 rfl P.s P.g0 dX3_branch_19 rfl ?_
      refine v_iload_n (n := 23) dX3_branch_22 rfl rfl rfl ?_
      refine v_aald (n := 24) (t := 3) (j := k) ⟨by decide, by decide⟩ P.c0 (ix_nI (by omega) (by decide)) (P.2.2.2 k (by omega)).1 dX3_branch_23 rfl ?_
      refine v_astore (n := 26) (al' := [.ref q, .ref w, .int (nI D), .int (nI k), .int (nI mo), .ref ((q + 2 + 11 * k)), JJ]) dX3_branch_24 rfl rfl rfl ?_
      refine v_iconst (n := 27) (v := (-1)) dX3_branch_26 c_m1 rfl ?_
      refine v_istore (n := 29) (al' := [.ref q, .ref w, .int (nI D), .int (nI k), .int (nI mo), .ref ((q + 2 + 11 * k)), .int (-1)]) dX3_branch_27 rfl rfl rfl ?_
      refine bi5_X3_branch P L2 hd h hW hf hvB hwB hD hmo hk hb hmo2 (m := 0) (y := -1) (by decide) (by decide) SGp.rf Eqx.rf hf (fun S1 J1 hs1 hE1 hT1 hF1 => ?_)
      refine bi5_X3_branch P L2 hd h hW hf hvB hwB hD hmo hk hb hmo2 (m := 1) (y := -1 + 1) (by decide) (by decide) hs1 hE1 hF1 (fun S2 J2 hs2 hE2 hT2 hF2 => ?_)
      refine bi5_X3_branch P L2 hd h hW hf hvB hwB hD hmo hk hb hmo2 (m := 2) (y := -1 + 1 + 1) (by decide) (by decide) hs2 hE2 hF2 (fun S3 J3 hs3 hE3 hT3 hF3 => ?_)
      refine v_iload (n := 31) dX3_branch_29 rfl rfl ?_
      refine v_iconst (n := 32) (v := 1) dX3_branch_31 c_1 rfl ?_
      refine v_icmp_gt (n := 35) (tgt := 79) dX3_branch_32 (by decide) rfl (fun hq32 => ?_) (fun hq32 => ?_)
      · refine v_vret rfl ⟨rfl, hs3, ?_, ?_, hE3⟩ ⟨l8 rfl, l8 rfl⟩ dX3_branch_79
        · rw [wbF, hT3, hT2, hT1]; rfl
        · exact wb_1 hT3 hF3
      · exact absurd (by decide) hq32
    · exact absurd (nI_lt (b := 5) (by omega) (by decide)) hq7

set_option maxRecDepth 100000 in
set_option maxHeartbeats 1000000 in
theorem k1_X3_search {ro : Ro} {S : St} {I : In} {q w B T n l b : Nat} {X : Ar} {mv : Int32} {lw : Nat → Nat} (P : LayP S q) (L2 : LayV S w) (hd : w + 11 ≤ q ∨ q + 57 ≤ w) (h : VR S I w B X mv T n l lw) (hW : WX X T n l b) (hvB : q + 57 ≤ B) (hwB : w + 11 ≤ B) (hb : b + 999 * 5 < 2 ^ 30) : Ok mX3_search ro 10 0 0 [.ref q, .ref w, .int 1] S I (fun r0 S' I' => r0 = none ∧ SGp (thP q 0) S S' ∧ ((I' q 2, I' q 3, I' q 4) : Tri) = wfR X T n 1 (3 ^ 1) ∧ Eqx (brP q 0 B) I I') := by
  refine ok_of (al := [.ref q, .ref w, .int 1]) (by decide) (l8 rfl) rfl ?_
  refine v_aload_n (n := 1) dX3_search_0 rfl rfl rfl ?_
  refine v_iconst (n := 2) (v := 0) dX3_search_1 c_0 rfl ?_
  refine v_putZ (n := 5) f_X3_17 rfl (Or.inl rfl) P.s (by decide) dX3_search_2 rfl ?_
  refine v_aload_n (n := 6) dX3_search_5 rfl rfl rfl ?_
  refine v_aload_n (n := 7) dX3_search_6 rfl rfl rfl ?_
  refine v_iload_n (n := 8) dX3_search_7 rfl rfl rfl ?_
  refine v_iconst (n := 9) (v := 5) dX3_search_8 c_5 rfl ?_
  refine v_min (n := 12) l_X3_36 min_sta ini_J9 min_code ⟨rfl, rfl⟩ ⟨l8 rfl, l8 rfl⟩ (l8 rfl) dX3_search_9 rfl ?_
  refine v_tp (y := nI 1) (by decide) ?_
  refine v_iconst (n := 13) (v := 0) dX3_search_12 c_0 rfl ?_
  refine v_iconst (n := 14) (v := 0) dX3_search_13 c_0 rfl ?_
  refine v_callS (n := 17) mc_X3_branch l_X3_42 sta_X3_branch (kb1_X3_branch (k := 0) (mo := 0) (D := 1) P L2 (by omega) (h.eqx (P := fun a => a = q) (fun a ha => setI_ne ha) (fun a z => ⟨by omega, by omega⟩)) hW (Or.inl sI_s) hvB hwB (by decide) (by decide) rfl (by omega) (by decide)) ⟨rfl, rfl⟩ (l8 rfl) ⟨l8 rfl, l8 rfl⟩ rfl rfl (l8 rfl) dX3_search_14 rfl ?_
  rintro _ S1 J1 ⟨rfl, hs1, hT1, hF1, hE1⟩
  refine v_vret rfl ⟨rfl, hs1, ?_, fun a ha => ?_⟩ ⟨l8 rfl, l8 rfl⟩ dX3_search_17
  · have e := congrArg Prod.snd hT1
    rw [show sB (setI I q 1 0) q = (true, ((setI I q 1 0 q 2, setI I q 1 0 q 3, setI I q 1 0 q 4) : Tri)) from by rw [sB, sI_s]; rfl, wb_way] at e
    exact e
  · rw [hE1 a ha, setI_ne (fun z => ha (Or.inl z))]

set_option maxRecDepth 100000 in
set_option maxHeartbeats 1000000 in
theorem k2_X3_search {ro : Ro} {S : St} {I : In} {q w B T n l b : Nat} {X : Ar} {mv : Int32} {lw : Nat → Nat} (P : LayP S q) (L2 : LayV S w) (hd : w + 11 ≤ q ∨ q + 57 ≤ w) (h : VR S I w B X mv T n l lw) (hW : WX X T n l b) (hvB : q + 57 ≤ B) (hwB : w + 11 ≤ B) (hb : b + 999 * 5 < 2 ^ 30) : Ok mX3_search ro 10 0 0 [.ref q, .ref w, .int 2] S I (fun r0 S' I' => r0 = none ∧ SGp (thP q 0) S S' ∧ ((I' q 2, I' q 3, I' q 4) : Tri) = wfR X T n 2 (3 ^ 2) ∧ Eqx (brP q 0 B) I I') := by
  refine ok_of (al := [.ref q, .ref w, .int 2]) (by decide) (l8 rfl) rfl ?_
  refine v_aload_n (n := 1) dX3_search_0 rfl rfl rfl ?_
  refine v_iconst (n := 2) (v := 0) dX3_search_1 c_0 rfl ?_
  refine v_putZ (n := 5) f_X3_17 rfl (Or.inl rfl) P.s (by decide) dX3_search_2 rfl ?_
  refine v_aload_n (n := 6) dX3_search_5 rfl rfl rfl ?_
  refine v_aload_n (n := 7) dX3_search_6 rfl rfl rfl ?_
  refine v_iload_n (n := 8) dX3_search_7 rfl rfl rfl ?_
  refine v_iconst (n := 9) (v := 5) dX3_search_8 c_5 rfl ?_
  refine v_min (n := 12) l_X3_36 min_sta ini_J9 min_code ⟨rfl, rfl⟩ ⟨l8 rfl, l8 rfl⟩ (l8 rfl) dX3_search_9 rfl ?_
  refine v_tp (y := nI 2) (by decide) ?_
  refine v_iconst (n := 13) (v := 0) dX3_search_12 c_0 rfl ?_
  refine v_iconst (n := 14) (v := 0) dX3_search_13 c_0 rfl ?_
  refine v_callS (n := 17) mc_X3_branch l_X3_42 sta_X3_branch (kb2_X3_branch (k := 0) (mo := 0) (D := 2) P L2 (by omega) (h.eqx (P := fun a => a = q) (fun a ha => setI_ne ha) (fun a z => ⟨by omega, by omega⟩)) hW (Or.inl sI_s) hvB hwB (by decide) (by decide) rfl (by omega) (by decide)) ⟨rfl, rfl⟩ (l8 rfl) ⟨l8 rfl, l8 rfl⟩ rfl rfl (l8 rfl) dX3_search_14 rfl ?_
  rintro _ S1 J1 ⟨rfl, hs1, hT1, hF1, hE1⟩
  refine v_vret rfl ⟨rfl, hs1, ?_, fun a ha => ?_⟩ ⟨l8 rfl, l8 rfl⟩ dX3_search_17
  · have e := congrArg Prod.snd hT1
    rw [show sB (setI I q 1 0) q = (true, ((setI I q 1 0 q 2, setI I q 1 0 q 3, setI I q 1 0 q 4) : Tri)) from by rw [sB, sI_s]; rfl, wb_way] at e
    exact e
  · rw [hE1 a ha, setI_ne (fun z => ha (Or.inl z))]

set_option maxRecDepth 100000 in
set_option maxHeartbeats 1000000 in
theorem k3_X3_search {ro : Ro} {S : St} {I : In} {q w B T n l b : Nat} {X : Ar} {mv : Int32} {lw : Nat → Nat} (P : LayP S q) (L2 : LayV S w) (hd : w + 11 ≤ q ∨ q + 57 ≤ w) (h : VR S I w B X mv T n l lw) (hW : WX X T n l b) (hvB : q + 57 ≤ B) (hwB : w + 11 ≤ B) (hb : b + 999 * 5 < 2 ^ 30) : Ok mX3_search ro 10 0 0 [.ref q, .ref w, .int 3] S I (fun r0 S' I' => r0 = none ∧ SGp (thP q 0) S S' ∧ ((I' q 2, I' q 3, I' q 4) : Tri) = wfR X T n 3 (3 ^ 3) ∧ Eqx (brP q 0 B) I I') := by
  refine ok_of (al := [.ref q, .ref w, .int 3]) (by decide) (l8 rfl) rfl ?_
  refine v_aload_n (n := 1) dX3_search_0 rfl rfl rfl ?_
  refine v_iconst (n := 2) (v := 0) dX3_search_1 c_0 rfl ?_
  refine v_putZ (n := 5) f_X3_17 rfl (Or.inl rfl) P.s (by decide) dX3_search_2 rfl ?_
  refine v_aload_n (n := 6) dX3_search_5 rfl rfl rfl ?_
  refine v_aload_n (n := 7) dX3_search_6 rfl rfl rfl ?_
  refine v_iload_n (n := 8) dX3_search_7 rfl rfl rfl ?_
  refine v_iconst (n := 9) (v := 5) dX3_search_8 c_5 rfl ?_
  refine v_min (n := 12) l_X3_36 min_sta ini_J9 min_code ⟨rfl, rfl⟩ ⟨l8 rfl, l8 rfl⟩ (l8 rfl) dX3_search_9 rfl ?_
  refine v_tp (y := nI 3) (by decide) ?_
  refine v_iconst (n := 13) (v := 0) dX3_search_12 c_0 rfl ?_
  refine v_iconst (n := 14) (v := 0) dX3_search_13 c_0 rfl ?_
  refine v_callS (n := 17) mc_X3_branch l_X3_42 sta_X3_branch (kb3_X3_branch (k := 0) (mo := 0) (D := 3) P L2 (by omega) (h.eqx (P := fun a => a = q) (fun a ha => setI_ne ha) (fun a z => ⟨by omega, by omega⟩)) hW (Or.inl sI_s) hvB hwB (by decide) (by decide) rfl (by omega) (by decide)) ⟨rfl, rfl⟩ (l8 rfl) ⟨l8 rfl, l8 rfl⟩ rfl rfl (l8 rfl) dX3_search_14 rfl ?_
  rintro _ S1 J1 ⟨rfl, hs1, hT1, hF1, hE1⟩
  refine v_vret rfl ⟨rfl, hs1, ?_, fun a ha => ?_⟩ ⟨l8 rfl, l8 rfl⟩ dX3_search_17
  · have e := congrArg Prod.snd hT1
    rw [show sB (setI I q 1 0) q = (true, ((setI I q 1 0 q 2, setI I q 1 0 q 3, setI I q 1 0 q 4) : Tri)) from by rw [sB, sI_s]; rfl, wb_way] at e
    exact e
  · rw [hE1 a ha, setI_ne (fun z => ha (Or.inl z))]

set_option maxRecDepth 100000 in
set_option maxHeartbeats 1000000 in
theorem k4_X3_search {ro : Ro} {S : St} {I : In} {q w B T n l b : Nat} {X : Ar} {mv : Int32} {lw : Nat → Nat} (P : LayP S q) (L2 : LayV S w) (hd : w + 11 ≤ q ∨ q + 57 ≤ w) (h : VR S I w B X mv T n l lw) (hW : WX X T n l b) (hvB : q + 57 ≤ B) (hwB : w + 11 ≤ B) (hb : b + 999 * 5 < 2 ^ 30) : Ok mX3_search ro 10 0 0 [.ref q, .ref w, .int 4] S I (fun r0 S' I' => r0 = none ∧ SGp (thP q 0) S S' ∧ ((I' q 2, I' q 3, I' q 4) : Tri) = wfR X T n 4 (3 ^ 4) ∧ Eqx (brP q 0 B) I I') := by
  refine ok_of (al := [.ref q, .ref w, .int 4]) (by decide) (l8 rfl) rfl ?_
  refine v_aload_n (n := 1) dX3_search_0 rfl rfl rfl ?_
  refine v_iconst (n := 2) (v := 0) dX3_search_1 c_0 rfl ?_
  refine v_putZ (n := 5) f_X3_17 rfl (Or.inl rfl) P.s (by decide) dX3_search_2 rfl ?_
  refine v_aload_n (n := 6) dX3_search_5 rfl rfl rfl ?_
  refine v_aload_n (n := 7) dX3_search_6 rfl rfl rfl ?_
  refine v_iload_n (n := 8) dX3_search_7 rfl rfl rfl ?_
  refine v_iconst (n := 9) (v := 5) dX3_search_8 c_5 rfl ?_
  refine v_min (n := 12) l_X3_36 min_sta ini_J9 min_code ⟨rfl, rfl⟩ ⟨l8 rfl, l8 rfl⟩ (l8 rfl) dX3_search_9 rfl ?_
  refine v_tp (y := nI 4) (by decide) ?_
  refine v_iconst (n := 13) (v := 0) dX3_search_12 c_0 rfl ?_
  refine v_iconst (n := 14) (v := 0) dX3_search_13 c_0 rfl ?_
  refine v_callS (n := 17) mc_X3_branch l_X3_42 sta_X3_branch (kb4_X3_branch (k := 0) (mo := 0) (D := 4) P L2 (by omega) (h.eqx (P := fun a => a = q) (fun a ha => setI_ne ha) (fun a z => ⟨by omega, by omega⟩)) hW (Or.inl sI_s) hvB hwB (by decide) (by decide) rfl (by omega) (by decide)) ⟨rfl, rfl⟩ (l8 rfl) ⟨l8 rfl, l8 rfl⟩ rfl rfl (l8 rfl) dX3_search_14 rfl ?_
  rintro _ S1 J1 ⟨rfl, hs1, hT1, hF1, hE1⟩
  refine v_vret rfl ⟨rfl, hs1, ?_, fun a ha => ?_⟩ ⟨l8 rfl, l8 rfl⟩ dX3_search_17
  · have e := congrArg Prod.snd hT1
    rw [show sB (setI I q 1 0) q = (true, ((setI I q 1 0 q 2, setI I q 1 0 q 3, setI I q 1 0 q 4) : Tri)) from by rw [sB, sI_s]; rfl, wb_way] at e
    exact e
  · rw [hE1 a ha, setI_ne (fun z => ha (Or.inl z))]

set_option maxRecDepth 100000 in
set_option maxHeartbeats 1000000 in
theorem k5_X3_search {ro : Ro} {S : St} {I : In} {q w B T n l b : Nat} {X : Ar} {mv : Int32} {lw : Nat → Nat} (P : LayP S q) (L2 : LayV S w) (hd : w + 11 ≤ q ∨ q + 57 ≤ w) (h : VR S I w B X mv T n l lw) (hW : WX X T n l b) (hvB : q + 57 ≤ B) (hwB : w + 11 ≤ B) (hb : b + 999 * 5 < 2 ^ 30) : Ok mX3_search ro 10 0 0 [.ref q, .ref w, .int 5] S I (fun r0 S' I' => r0 = none ∧ SGp (thP q 0) S S' ∧ ((I' q 2, I' q 3, I' q 4) : Tri) = wfR X T n 5 (3 ^ 5) ∧ Eqx (brP q 0 B) I I') := by
  refine ok_of (al := [.ref q, .ref w, .int 5]) (by decide) (l8 rfl) rfl ?_
  refine v_aload_n (n := 1) dX3_search_0 rfl rfl rfl ?_
  refine v_iconst (n := 2) (v := 0) dX3_search_1 c_0 rfl ?_
  refine v_putZ (n := 5) f_X3_17 rfl (Or.inl rfl) P.s (by decide) dX3_search_2 rfl ?_
  refine v_aload_n (n := 6) dX3_search_5 rfl rfl rfl ?_
  refine v_aload_n (n := 7) dX3_search_6 rfl rfl rfl ?_
  refine v_iload_n (n := 8) dX3_search_7 rfl rfl rfl ?_
  refine v_iconst (n := 9) (v := 5) dX3_search_8 c_5 rfl ?_
  refine v_min (n := 12) l_X3_36 min_sta ini_J9 min_code ⟨rfl, rfl⟩ ⟨l8 rfl, l8 rfl⟩ (l8 rfl) dX3_search_9 rfl ?_
  refine v_tp (y := nI 5) (by decide) ?_
  refine v_iconst (n := 13) (v := 0) dX3_search_12 c_0 rfl ?_
  refine v_iconst (n := 14) (v := 0) dX3_search_13 c_0 rfl ?_
  refine v_callS (n := 17) mc_X3_branch l_X3_42 sta_X3_branch (kb5_X3_branch (k := 0) (mo := 0) (D := 5) P L2 (by omega) (h.eqx (P := fun a => a = q) (fun a ha => setI_ne ha) (fun a z => ⟨by omega, by omega⟩)) hW (Or.inl sI_s) hvB hwB (by decide) (by decide) rfl (by omega) (by decide)) ⟨rfl, rfl⟩ (l8 rfl) ⟨l8 rfl, l8 rfl⟩ rfl rfl (l8 rfl) dX3_search_14 rfl ?_
  rintro _ S1 J1 ⟨rfl, hs1, hT1, hF1, hE1⟩
  refine v_vret rfl ⟨rfl, hs1, ?_, fun a ha => ?_⟩ ⟨l8 rfl, l8 rfl⟩ dX3_search_17
  · have e := congrArg Prod.snd hT1
    rw [show sB (setI I q 1 0) q = (true, ((setI I q 1 0 q 2, setI I q 1 0 q 3, setI I q 1 0 q 4) : Tri)) from by rw [sB, sI_s]; rfl, wb_way] at e
    exact e
  · rw [hE1 a ha, setI_ne (fun z => ha (Or.inl z))]

theorem k_X3_search {ro : Ro} {S : St} {I : In} {q w B T n l b : Nat} {X : Ar} {mv : Int32} {lw : Nat → Nat} (P : LayP S q) (L2 : LayV S w) (hd : w + 11 ≤ q ∨ q + 57 ≤ w) (h : VR S I w B X mv T n l lw) (hW : WX X T n l b) (hvB : q + 57 ≤ B) (hwB : w + 11 ≤ B) (hb : b + 999 * 5 < 2 ^ 30) {D : Nat} (hD1 : 1 ≤ D) (hD : D ≤ 5) : Ok mX3_search ro 10 0 0 [.ref q, .ref w, .int (nI D)] S I (fun r0 S' I' => r0 = none ∧ SGp (thP q 0) S S' ∧ ((I' q 2, I' q 3, I' q 4) : Tri) = wfR X T n D (3 ^ D) ∧ Eqx (brP q 0 B) I I') := by
  have : D = 1 ∨ D = 2 ∨ D = 3 ∨ D = 4 ∨ D = 5 := by omega
  rcases this with rfl | rfl | rfl | rfl | rfl
  · exact k1_X3_search P L2 hd h hW hvB hwB hb
  · exact k2_X3_search P L2 hd h hW hvB hwB hb
  · exact k3_X3_search P L2 hd h hW hvB hwB hb
  · exact k4_X3_search P L2 hd h hW hvB hwB hb
  · exact k5_X3_search P L2 hd h hW hvB hwB hb

