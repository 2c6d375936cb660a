/-! ===== the villages that are thought ===== -/
/-- the same shapes; references are others in rows of P alone -/
def SGp (P : Nat → Prop) (S S' : St) : Prop := S'.1 = S.1 ∧ (∀ a, ¬ P a → S'.2.1 a = S.2.1 a) ∧ S'.2.2 = S.2.2
theorem SGp.rf {P : Nat → Prop} {S : St} : SGp P S S := ⟨rfl, fun _ _ => rfl, rfl⟩
theorem SGp.tr {P : Nat → Prop} {S S' S'' : St} (h : SGp P S S') (h2 : SGp P S' S'') : SGp P S S'' := ⟨h2.1.trans h.1, fun a ha => (h2.2.1 a ha).trans (h.2.1 a ha), h2.2.2.trans h.2.2⟩
theorem SGp.mono {P P' : Nat → Prop} {S S' : St} (h : SGp P S S') (hp : ∀ a, P a → P' a) : SGp P' S S' := ⟨h.1, fun a ha => h.2.1 a (fun q => ha (hp a q)), h.2.2⟩
theorem SG.p {g : Nat} {S S' : St} (h : SG g S S') : SGp (fun a => a = g) S S' := h
theorem LayR.sp {P : Nat → Prop} {S S' : St} {r : Nat} (h : LayR S r) (e : SGp P S S') (hg : ¬ P r) : LayR S' r := by
  unfold LayR; rw [e.1, e.2.1 r hg]; exact h
theorem LayB.sp {P : Nat → Prop} {S S' : St} {r : Nat} (h : LayB S r) (e : SGp P S S') (hg : ¬ P r) : LayB S' r := by
  unfold LayB; rw [e.1, e.2.1 r hg]; exact h
theorem LayV.sp {P : Nat → Prop} {S S' : St} {v : Nat} (h : LayV S v) (e : SGp P S S') (h0 : ¬ P v) (h1 : ¬ P (v + 1)) (h6 : ¬ P (v + 6)) : LayV S' v := by
  obtain ⟨a1, a2, a3, a4, a5⟩ := h
  refine ⟨by rw [e.1]; exact a1, ?_, a3.sp e h1, a4.sp e h6, by rw [e.1]; exact a5⟩
  rw [e.2.1 v h0]; exact a2
theorem LayL.sp {P : Nat → Prop} {S S' : St} {c n na : Nat} (h : LayL S c n na) (e : SGp P S S') (hg : ¬ P (c + 1)) : LayL S' c n na := by
  unfold LayL; rw [e.1, e.2.1 (c + 1) hg]; exact h
theorem LwR.sp {P : Nat → Prop} {S S' : St} {I : In} {B T : Nat} {X : Ar} {lw : Nat → Nat} (h : LwR S I B X T lw) (e : SGp P S S') (hg : ∀ a, P a → a < B) : LwR S' I B X T lw := by
  intro t ht
  obtain ⟨key, n, na, i, a1, a2, a3, a4⟩ := h t ht
  exact ⟨key, n, na, i, a1, a2, a3.sp e (fun q => by have := hg _ q; omega), a4⟩
theorem VR.sp {P : Nat → Prop} {S S' : St} {I : In} {v B T n l : Nat} {X : Ar} {mv : Int32} {lw : Nat → Nat} (h : VR S I v B X mv T n l lw) (e : SGp P S S') (hg : ∀ a, P a → a < B) (hv : ¬ P (v + 10)) : VR S' I v B X mv T n l lw :=
  ⟨h.1, h.2.1, h.2.2.1, fun k hk => by rw [e.2.1 _ hv]; exact h.2.2.2.1 k hk, h.2.2.2.2.sp e hg⟩
/-- the rows of the places 'counting' of the thoughts from k on -/
def thP (q k a : Nat) : Prop := ∃ i, k ≤ i ∧ i < 5 ∧ a = q + 2 + 11 * i + 10
theorem thP.lt {q k a : Nat} (h : thP q k a) : q + 2 + 11 * k + 10 ≤ a ∧ a < q + 57 ∧ (a - q) % 11 = 1 := by
  obtain ⟨i, h1, h2, h3⟩ := h
  omega
theorem LayP.sp {S S' : St} {q k : Nat} (h : LayP S q) (e : SGp (thP q k) S S') : LayP S' q := by
  obtain ⟨h1, h2, h3, h4⟩ := h
  refine ⟨by rw [e.1]; exact h1, by rw [e.2.1 q (fun z => by have := z.lt; omega)]; exact h2, by rw [e.1]; exact h3, fun i hi => ?_⟩
  rw [e.2.1 (q + 1) (fun z => by have := z.lt; omega)]
  exact ⟨(h4 i hi).1, (h4 i hi).2.sp e (fun z => by have := z.lt; omega) (fun z => by have := z.lt; omega) (fun z => by have := z.lt; omega)⟩
theorem bc_th {S : St} {q k w : Nat} (h : k < 5) : SGp (thP q k) S (bcS S (q + 2 + 11 * k) w 3) := ⟨rfl, fun a ha => bcG_o (fun z => ha ⟨k, Nat.le_refl _, h, z⟩) 3, rfl⟩

set_option maxRecDepth 100000 in
set_option maxHeartbeats 1000000 in
theorem k_X3_thoughtOf {ro : Ro} {S : St} {I : In} {q w B T n l : Nat} {X : Ar} {mv : Int32} {lw : Nat → Nat} (P : LayP S q) (L2 : LayV S w) (hd : q + 57 ≤ w ∨ w + 11 ≤ q) (h : VR S I w B X mv T n l lw) (hT : T ≤ 14) (hn10 : n ≤ 10) (hl30 : l ≤ 30) (hvB : q + 57 ≤ B) : Ok mX3_thoughtOf ro 3 0 0 [.ref q, .ref w] S I (fun r S' I' => r = some (.ref (q + 2)) ∧ S' = bcS S (q + 2) w 3 ∧ VR S' I' (q + 2) B X mv T n l lw ∧ Eqx (blk (q + 2) 11) I I') := by
  refine ok_of (al := [.ref q, .ref w]) (by decide) (l8 rfl) rfl ?_
  refine v_aload_n (n := 1) dX3_thoughtOf_0 rfl rfl rfl ?_
  refine v_getR (n := 4) f_X3_11 rfl P.s P.g0 dX3_thoughtOf_1 rfl ?_
  refine v_iconst (n := 5) (v := 0) dX3_thoughtOf_4 c_0 rfl ?_
  refine v_aald (n := 6) (t := 3) (j := 0) ⟨by decide, by decide⟩ P.c0 (ix_lit rfl rfl rfl) (P.2.2.2 0 (by decide)).1 dX3_thoughtOf_5 rfl ?_
  refine v_aload_n (n := 7) dX3_thoughtOf_6 rfl rfl rfl ?_
  refine v_callV (n := 10) mc_X9_become l_X3_32 iv_X9_become se_X9_become (ci := 8) ⟨by decide, rfl⟩ (P.v (i := 0) (by decide)).s (k_X9_become (P.v (i := 0) (by decide)) L2 (by omega) h hT hn10 hl30 (by omega)) ⟨rfl, rfl⟩ (l8 rfl) ⟨l8 rfl, l8 rfl⟩ rfl rfl (l8 rfl) dX3_thoughtOf_7 rfl ?_
  rintro _ S1 J1 ⟨rfl, hS9, hv1, hE1⟩
  have P2 : LayP S1 q := by rw [hS9]; exact P.sp (bc_th (k := 0) (by decide))
  refine v_aload_n (n := 11) dX3_thoughtOf_10 rfl rfl rfl ?_
  refine v_getR (n := 14) f_X3_11 rfl P2.s P2.g0 dX3_thoughtOf_11 rfl ?_
  refine v_iconst (n := 15) (v := 0) dX3_thoughtOf_14 c_0 rfl ?_
  refine v_aald (n := 16) (t := 3) (j := 0) ⟨by decide, by decide⟩ P2.c0 (ix_lit rfl rfl rfl) (P2.2.2.2 0 (by decide)).1 dX3_thoughtOf_15 rfl ?_
  exact v_aret rfl ⟨rfl, hS9, hv1, hE1⟩ ⟨l8 rfl, l8 rfl⟩ dX3_thoughtOf_16

theorem brk_sum {I : In} {r n : Nat} {X : Ar} (h : RgR I r X n) : sm (I (r + 4)) n = sumX X 3 n := by
  unfold sumX
  have : ∀ k, k ≤ n → sm (I (r + 4)) k = sm (fun i => X (76 + 4 * i + 3)) k := by
    intro k
    induction k with
    | zero => intro _; rfl
    | succ k ih => intro hk; show sm _ k + _ = sm _ k + _; rw [ih (by omega), (h.2 k (by omega)).2.2.2]
  exact this n (Nat.le_refl _)
theorem snw_sum {I : In} {r n : Nat} {X : Ar} (h : RgR I r X n) : sm (I (r + 2)) n = sumX X 1 n := by
  unfold sumX
  have : ∀ k, k ≤ n → sm (I (r + 2)) k = sm (fun i => X (76 + 4 * i + 1)) k := by
    intro k
    induction k with
    | zero => intro _; rfl
    | succ k ih => intro hk; show sm _ k + _ = sm _ k + _; rw [ih (by omega), (h.2 k (by omega)).2.1]
  exact this n (Nat.le_refl _)

set_option maxRecDepth 100000 in
set_option maxHeartbeats 1000000 in
theorem k_X3_weigh {ro : Ro} {S : St} {I : In} {q w B T n l : Nat} {X : Ar} {mv mo : Int32} {lw : Nat → Nat} (P : LayP S q) (L2 : LayV S w) (h : VR S I w B X mv T n l lw) (hn10 : n ≤ 10) (hf : I q 1 = 0 ∨ I q 1 = 1) : Ok mX3_weigh ro 1 0 0 [.ref q, .ref w, .int mo] S I (fun r S' I' => r = none ∧ S' = S ∧ ((I' q 2, I' q 3, I' q 4) : Tri) = stp (decide (I q 1 = 0)) ((I q 2, I q 3, I q 4) : Tri) ((sumX X 3 n), (wS X l), mo) ∧ I' q 1 = 1 ∧ Eqx (fun a => a = q) I I') := by
  refine ok_of (al := [.ref q, .ref w, .int mo, JJ, JJ, JJ]) (by decide) (l8 rfl) rfl ?_
  refine v_aload_n (n := 1) dX3_weigh_0 rfl rfl rfl ?_
  refine v_getR (n := 4) f_X3_57 rfl L2.s L2.g0 dX3_weigh_1 rfl ?_
  refine v_cVi (n := 7) (x := (sm (I (w + 1 + 4)) n)) mc_X5_brokenOfAll l_X3_61 iv_X5_brokenOfAll se_X5_brokenOfAll (ci := 4) ⟨by decide, rfl⟩ L2.c0.s (k_X5_brokenOfAll (n := n) L2.c0 h.1.1 hn10) ⟨rfl, rfl⟩ (l8 rfl) ⟨l8 rfl, l8 rfl⟩ rfl rfl (l8 rfl) dX3_weigh_4 rfl ?_
  rw [brk_sum h.1]
  refine v_istore_n (n := 8) (al' := [.ref q, .ref w, .int mo, .int (sumX X 3 n), JJ, JJ]) dX3_weigh_7 rfl rfl rfl rfl ?_
  refine v_aload_n (n := 9) dX3_weigh_8 rfl rfl rfl ?_
  refine v_getR (n := 12) f_X3_66 rfl L2.s L2.g1 dX3_weigh_9 rfl ?_
  refine v_getI (n := 15) f_X3_70 rfl L2.c1.s dX3_weigh_12 rfl ?_
  rw [h.2.1.1.2.1]
  refine v_istore (n := 17) (al' := [.ref q, .ref w, .int mo, .int (sumX X 3 n), .int (wS X l), JJ]) dX3_weigh_15 rfl rfl rfl ?_
  refine v_iload_n (n := 18) dX3_weigh_17 rfl rfl rfl ?_
  refine v_aload_n (n := 19) dX3_weigh_18 rfl rfl rfl ?_
  refine v_getI (n := 22) f_X3_21 rfl P.s dX3_weigh_19 rfl ?_
  refine v_icmp_lt (n := 25) (tgt := 42) dX3_weigh_22 (by decide) rfl (fun hq22 => ?_) (fun hq22 => ?_)
  · refine v_iconst (n := 43) (v := 1) dX3_weigh_42 c_1 rfl ?_
    refine v_goto (tgt := 47) dX3_weigh_43 (by decide) ?_
    refine v_istore (n := 49) (al' := [.ref q, .ref w, .int mo, .int (sumX X 3 n), .int (wS X l), .int 1]) dX3_weigh_47 rfl rfl rfl ?_
    refine v_aload_n (n := 50) dX3_weigh_49 rfl rfl rfl ?_
    refine v_getI (n := 53) f_X3_17 rfl P.s dX3_weigh_50 rfl ?_
    refine v_if_eq (n := 56) (tgt := 61) dX3_weigh_53 (by decide) rfl (fun hq53 => ?_) (fun hq53 => ?_)
    · refine v_aload_n (n := 62) dX3_weigh_61 rfl rfl rfl ?_
      refine v_iconst (n := 63) (v := 1) dX3_weigh_62 c_1 rfl ?_
      refine v_putZ (n := 66) f_X3_17 rfl (Or.inl rfl) P.s (by decide) dX3_weigh_63 rfl ?_
      refine v_aload_n (n := 67) dX3_weigh_66 rfl rfl rfl ?_
      refine v_iload_n (n := 68) dX3_weigh_67 rfl rfl rfl ?_
      refine v_putI (n := 71) f_X3_21 rfl (Or.inl rfl) P.s dX3_weigh_68 rfl ?_
      refine v_aload_n (n := 72) dX3_weigh_71 rfl rfl rfl ?_
      refine v_iload (n := 74) dX3_weigh_72 rfl rfl ?_
      refine v_putI (n := 77) f_X3_25 rfl (Or.inl rfl) P.s dX3_weigh_74 rfl ?_
      refine v_aload_n (n := 78) dX3_weigh_77 rfl rfl rfl ?_
      refine v_iload_n (n := 79) dX3_weigh_78 rfl rfl rfl ?_
      refine v_putI (n := 82) f_X3_28 rfl (Or.inl rfl) P.s dX3_weigh_79 rfl ?_
      refine v_vret rfl ⟨rfl, rfl, ?_, by rw [sI_k (by decide), sI_k (by decide), sI_k (by decide), sI_s], fun a ha => by rw [setI_ne ha, setI_ne ha, setI_ne ha, setI_ne ha]⟩ ⟨l8 rfl, l8 rfl⟩ dX3_weigh_82
      rw [stp, if_pos (Or.inl (by simpa using hq53)), sI_k (by decide), sI_k (by decide), sI_s, sI_k (by decide), sI_s, sI_s]
    · refine v_iload (n := 58) dX3_weigh_56 rfl rfl ?_
      refine v_if_eq (n := 61) (tgt := 82) dX3_weigh_58 (by decide) rfl (fun hq58 => ?_) (fun hq58 => ?_)
      · refine v_vret rfl ⟨rfl, rfl, ?_, (hf.resolve_left hq53), Eqx.rf⟩ ⟨l8 rfl, l8 rfl⟩ dX3_weigh_82
        exact absurd hq58 (by decide)
      · refine v_aload_n (n := 62) dX3_weigh_61 rfl rfl rfl ?_
        refine v_iconst (n := 63) (v := 1) dX3_weigh_62 c_1 rfl ?_
        refine v_putZ (n := 66) f_X3_17 rfl (Or.inl rfl) P.s (by decide) dX3_weigh_63 rfl ?_
        refine v_aload_n (n := 67) dX3_weigh_66 rfl rfl rfl ?_
        refine v_iload_n (n := 68) dX3_weigh_67 rfl rfl rfl ?_
        refine v_putI (n := 71) f_X3_21 rfl (Or.inl rfl) P.s dX3_weigh_68 rfl ?_
        refine v_aload_n (n := 72) dX3_weigh_71 rfl rfl rfl ?_
        refine v_iload (n := 74) dX3_weigh_72 rfl rfl ?_
        refine v_putI (n := 77) f_X3_25 rfl (Or.inl rfl) P.s dX3_weigh_74 rfl ?_
        refine v_aload_n (n := 78) dX3_weigh_77 rfl rfl rfl ?_
        refine v_iload_n (n := 79) dX3_weigh_78 rfl rfl rfl ?_
        refine v_putI (n := 82) f_X3_28 rfl (Or.inl rfl) P.s dX3_weigh_79 rfl ?_
        refine v_vret rfl ⟨rfl, rfl, ?_, by rw [sI_k (by decide), sI_k (by decide), sI_k (by decide), sI_s], fun a ha => by rw [setI_ne ha, setI_ne ha, setI_ne ha, setI_ne ha]⟩ ⟨l8 rfl, l8 rfl⟩ dX3_weigh_82
        rw [stp, if_pos (Or.inr (Or.inl hq22)), sI_k (by decide), sI_k (by decide), sI_s, sI_k (by decide), sI_s, sI_s]
  · refine v_iload_n (n := 26) dX3_weigh_25 rfl rfl rfl ?_
    refine v_aload_n (n := 27) dX3_weigh_26 rfl rfl rfl ?_
    refine v_getI (n := 30) f_X3_21 rfl P.s dX3_weigh_27 rfl ?_
    refine v_icmp_ne (n := 33) (tgt := 46) dX3_weigh_30 (by decide) rfl (fun hq30 => ?_) (fun hq30 => ?_)
    · refine v_iconst (n := 47) (v := 0) dX3_weigh_46 c_0 rfl ?_
      refine v_istore (n := 49) (al' := [.ref q, .ref w, .int mo, .int (sumX X 3 n), .int (wS X l), .int 0]) dX3_weigh_47 rfl rfl rfl ?_
      refine v_aload_n (n := 50) dX3_weigh_49 rfl rfl rfl ?_
      refine v_getI (n := 53) f_X3_17 rfl P.s dX3_weigh_50 rfl ?_
      refine v_if_eq (n := 56) (tgt := 61) dX3_weigh_53 (by decide) rfl (fun hq53 => ?_) (fun hq53 => ?_)
      · refine v_aload_n (n := 62) dX3_weigh_61 rfl rfl rfl ?_
        refine v_iconst (n := 63) (v := 1) dX3_weigh_62 c_1 rfl ?_
        refine v_putZ (n := 66) f_X3_17 rfl (Or.inl rfl) P.s (by decide) dX3_weigh_63 rfl ?_
        refine v_aload_n (n := 67) dX3_weigh_66 rfl rfl rfl ?_
        refine v_iload_n (n := 68) dX3_weigh_67 rfl rfl rfl ?_
        refine v_putI (n := 71) f_X3_21 rfl (Or.inl rfl) P.s dX3_weigh_68 rfl ?_
        refine v_aload_n (n := 72) dX3_weigh_71 rfl rfl rfl ?_
        refine v_iload (n := 74) dX3_weigh_72 rfl rfl ?_
        refine v_putI (n := 77) f_X3_25 rfl (Or.inl rfl) P.s dX3_weigh_74 rfl ?_
        refine v_aload_n (n := 78) dX3_weigh_77 rfl rfl rfl ?_
        refine v_iload_n (n := 79) dX3_weigh_78 rfl rfl rfl ?_
        refine v_putI (n := 82) f_X3_28 rfl (Or.inl rfl) P.s dX3_weigh_79 rfl ?_
        refine v_vret rfl ⟨rfl, rfl, ?_, by rw [sI_k (by decide), sI_k (by decide), sI_k (by decide), sI_s], fun a ha => by rw [setI_ne ha, setI_ne ha, setI_ne ha, setI_ne ha]⟩ ⟨l8 rfl, l8 rfl⟩ dX3_weigh_82
        rw [stp, if_pos (Or.inl (by simpa using hq53)), sI_k (by decide), sI_k (by decide), sI_s, sI_k (by decide), sI_s, sI_s]
      · refine v_iload (n := 58) dX3_weigh_56 rfl rfl ?_
        refine v_if_eq (n := 61) (tgt := 82) dX3_weigh_58 (by decide) rfl (fun hq58 => ?_) (fun hq58 => ?_)
        · refine v_vret rfl ⟨rfl, rfl, ?_, (hf.resolve_left hq53), Eqx.rf⟩ ⟨l8 rfl, l8 rfl⟩ dX3_weigh_82
          rw [stp, if_neg (fun z => z.elim (fun z => hq53 (by simpa using z)) (fun z => z.elim (fun z => hq22 z) (fun z => hq30 z.1)))]
        · refine v_aload_n (n := 62) dX3_weigh_61 rfl rfl rfl ?_
          refine v_iconst (n := 63) (v := 1) dX3_weigh_62 c_1 rfl ?_
          refine v_putZ (n := 66) f_X3_17 rfl (Or.inl rfl) P.s (by decide) dX3_weigh_63 rfl ?_
          refine v_aload_n (n := 67) dX3_weigh_66 rfl rfl rfl ?_
          refine v_iload_n (n := 68) dX3_weigh_67 rfl rfl rfl ?_
          refine v_putI (n := 71) f_X3_21 rfl (Or.inl rfl) P.s dX3_weigh_68 rfl ?_
          refine v_aload_n (n := 72) dX3_weigh_71 rfl rfl rfl ?_
          refine v_iload (n := 74) dX3_weigh_72 rfl rfl ?_
          refine v_putI (n := 77) f_X3_25 rfl (Or.inl rfl) P.s dX3_weigh_74 rfl ?_
          refine v_aload_n (n := 78) dX3_weigh_77 rfl rfl rfl ?_
          refine v_iload_n (n := 79) dX3_weigh_78 rfl rfl rfl ?_
          refine v_putI (n := 82) f_X3_28 rfl (Or.inl rfl) P.s dX3_weigh_79 rfl ?_
          refine v_vret rfl ⟨rfl, rfl, ?_, by rw [sI_k (by decide), sI_k (by decide), sI_k (by decide), sI_s], fun a ha => by rw [setI_ne ha, setI_ne ha, setI_ne ha, setI_ne ha]⟩ ⟨l8 rfl, l8 rfl⟩ dX3_weigh_82
          exact absurd rfl hq58
    · refine v_iload (n := 35) dX3_weigh_33 rfl rfl ?_
      refine v_aload_n (n := 36) dX3_weigh_35 rfl rfl rfl ?_
      refine v_getI (n := 39) f_X3_25 rfl P.s dX3_weigh_36 rfl ?_
      refine v_icmp_le (n := 42) (tgt := 46) dX3_weigh_39 (by decide) rfl (fun hq39 => ?_) (fun hq39 => ?_)
      · refine v_iconst (n := 47) (v := 0) dX3_weigh_46 c_0 rfl ?_
        refine v_istore (n := 49) (al' := [.ref q, .ref w, .int mo, .int (sumX X 3 n), .int (wS X l), .int 0]) dX3_weigh_47 rfl rfl rfl ?_
        refine v_aload_n (n := 50) dX3_weigh_49 rfl rfl rfl ?_
        refine v_getI (n := 53) f_X3_17 rfl P.s dX3_weigh_50 rfl ?_
        refine v_if_eq (n := 56) (tgt := 61) dX3_weigh_53 (by decide) rfl (fun hq53 => ?_) (fun hq53 => ?_)
        · refine v_aload_n (n := 62) dX3_weigh_61 rfl rfl rfl ?_
          refine v_iconst (n := 63) (v := 1) dX3_weigh_62 c_1 rfl ?_
          refine v_putZ (n := 66) f_X3_17 rfl (Or.inl rfl) P.s (by decide) dX3_weigh_63 rfl ?_
          refine v_aload_n (n := 67) dX3_weigh_66 rfl rfl rfl ?_
          refine v_iload_n (n := 68) dX3_weigh_67 rfl rfl rfl ?_
          refine v_putI (n := 71) f_X3_21 rfl (Or.inl rfl) P.s dX3_weigh_68 rfl ?_
          refine v_aload_n (n := 72) dX3_weigh_71 rfl rfl rfl ?_
          refine v_iload (n := 74) dX3_weigh_72 rfl rfl ?_
          refine v_putI (n := 77) f_X3_25 rfl (Or.inl rfl) P.s dX3_weigh_74 rfl ?_
          refine v_aload_n (n := 78) dX3_weigh_77 rfl rfl rfl ?_
          refine v_iload_n (n := 79) dX3_weigh_78 rfl rfl rfl ?_
          refine v_putI (n := 82) f_X3_28 rfl (Or.inl rfl) P.s dX3_weigh_79 rfl ?_
          refine v_vret rfl ⟨rfl, rfl, ?_, by rw [sI_k (by decide), sI_k (by decide), sI_k (by decide), sI_s], fun a ha => by rw [setI_ne ha, setI_ne ha, setI_ne ha, setI_ne ha]⟩ ⟨l8 rfl, l8 rfl⟩ dX3_weigh_82
          rw [stp, if_pos (Or.inl (by simpa using hq53)), sI_k (by decide), sI_k (by decide), sI_s, sI_k (by decide), sI_s, sI_s]
        · refine v_iload (n := 58) dX3_weigh_56 rfl rfl ?_
          refine v_if_eq (n := 61) (tgt := 82) dX3_weigh_58 (by decide) rfl (fun hq58 => ?_) (fun hq58 => ?_)
          · refine v_vret rfl ⟨rfl, rfl, ?_, (hf.resolve_left hq53), Eqx.rf⟩ ⟨l8 rfl, l8 rfl⟩ dX3_weigh_82
            rw [stp, if_neg (fun z => z.elim (fun z => hq53 (by simpa using z)) (fun z => z.elim (fun z => hq22 z) (fun z => Int32.not_lt.mpr hq39 z.2)))]
          · refine v_aload_n (n := 62) dX3_weigh_61 rfl rfl rfl ?_
            refine v_iconst (n := 63) (v := 1) dX3_weigh_62 c_1 rfl ?_
            refine v_putZ (n := 66) f_X3_17 rfl (Or.inl rfl) P.s (by decide) dX3_weigh_63 rfl ?_
            refine v_aload_n (n := 67) dX3_weigh_66 rfl rfl rfl ?_
            refine v_iload_n (n := 68) dX3_weigh_67 rfl rfl rfl ?_
            refine v_putI (n := 71) f_X3_21 rfl (Or.inl rfl) P.s dX3_weigh_68 rfl ?_
            refine v_aload_n (n := 72) dX3_weigh_71 rfl rfl rfl ?_
            refine v_iload (n := 74) dX3_weigh_72 rfl rfl ?_
            refine v_putI (n := 77) f_X3_25 rfl (Or.inl rfl) P.s dX3_weigh_74 rfl ?_
            refine v_aload_n (n := 78) dX3_weigh_77 rfl rfl rfl ?_
            refine v_iload_n (n := 79) dX3_weigh_78 rfl rfl rfl ?_
            refine v_putI (n := 82) f_X3_28 rfl (Or.inl rfl) P.s dX3_weigh_79 rfl ?_
            refine v_vret rfl ⟨rfl, rfl, ?_, by rw [sI_k (by decide), sI_k (by decide), sI_k (by decide), sI_s], fun a ha => by rw [setI_ne ha, setI_ne ha, setI_ne ha, setI_ne ha]⟩ ⟨l8 rfl, l8 rfl⟩ dX3_weigh_82
            exact absurd rfl hq58
      · refine v_iconst (n := 43) (v := 1) dX3_weigh_42 c_1 rfl ?_
        refine v_goto (tgt := 47) dX3_weigh_43 (by decide) ?_
        refine v_istore (n := 49) (al' := [.ref q, .ref w, .int mo, .int (sumX X 3 n), .int (wS X l), .int 1]) dX3_weigh_47 rfl rfl rfl ?_
        refine v_aload_n (n := 50) dX3_weigh_49 rfl rfl rfl ?_
        refine v_getI (n := 53) f_X3_17 rfl P.s dX3_weigh_50 rfl ?_
        refine v_if_eq (n := 56) (tgt := 61) dX3_weigh_53 (by decide) rfl (fun hq53 => ?_) (fun hq53 => ?_)
        · refine v_aload_n (n := 62) dX3_weigh_61 rfl rfl rfl ?_
          refine v_iconst (n := 63) (v := 1) dX3_weigh_62 c_1 rfl ?_
          refine v_putZ (n := 66) f_X3_17 rfl (Or.inl rfl) P.s (by decide) dX3_weigh_63 rfl ?_
          refine v_aload_n (n := 67) dX3_weigh_66 rfl rfl rfl ?_
          refine v_iload_n (n := 68) dX3_weigh_67 rfl rfl rfl ?_
          refine v_putI (n := 71) f_X3_21 rfl (Or.inl rfl) P.s dX3_weigh_68 rfl ?_
          refine v_aload_n (n := 72) dX3_weigh_71 rfl rfl rfl ?_
          refine v_iload (n := 74) dX3_weigh_72 rfl rfl ?_
          refine v_putI (n := 77) f_X3_25 rfl (Or.inl rfl) P.s dX3_weigh_74 rfl ?_
          refine v_aload_n (n := 78) dX3_weigh_77 rfl rfl rfl ?_
          refine v_iload_n (n := 79) dX3_weigh_78 rfl rfl rfl ?_
          refine v_putI (n := 82) f_X3_28 rfl (Or.inl rfl) P.s dX3_weigh_79 rfl ?_
          refine v_vret rfl ⟨rfl, rfl, ?_, by rw [sI_k (by decide), sI_k (by decide), sI_k (by decide), sI_s], fun a ha => by rw [setI_ne ha, setI_ne ha, setI_ne ha, setI_ne ha]⟩ ⟨l8 rfl, l8 rfl⟩ dX3_weigh_82
          rw [stp, if_pos (Or.inl (by simpa using hq53)), sI_k (by decide), sI_k (by decide), sI_s, sI_k (by decide), sI_s, sI_s]
        · refine v_iload (n := 58) dX3_weigh_56 rfl rfl ?_
          refine v_if_eq (n := 61) (tgt := 82) dX3_weigh_58 (by decide) rfl (fun hq58 => ?_) (fun hq58 => ?_)
          · refine v_vret rfl ⟨rfl, rfl, ?_, (hf.resolve_left hq53), Eqx.rf⟩ ⟨l8 rfl, l8 rfl⟩ dX3_weigh_82
            exact absurd hq58 (by decide)
          · refine v_aload_n (n := 62) dX3_weigh_61 rfl rfl rfl ?_
            refine v_iconst (n := 63) (v := 1) dX3_weigh_62 c_1 rfl ?_
            refine v_putZ (n := 66) f_X3_17 rfl (Or.inl rfl) P.s (by decide) dX3_weigh_63 rfl ?_
            refine v_aload_n (n := 67) dX3_weigh_66 rfl rfl rfl ?_
            refine v_iload_n (n := 68) dX3_weigh_67 rfl rfl rfl ?_
            refine v_putI (n := 71) f_X3_21 rfl (Or.inl rfl) P.s dX3_weigh_68 rfl ?_
            refine v_aload_n (n := 72) dX3_weigh_71 rfl rfl rfl ?_
            refine v_iload (n := 74) dX3_weigh_72 rfl rfl ?_
            refine v_putI (n := 77) f_X3_25 rfl (Or.inl rfl) P.s dX3_weigh_74 rfl ?_
            refine v_aload_n (n := 78) dX3_weigh_77 rfl rfl rfl ?_
            refine v_iload_n (n := 79) dX3_weigh_78 rfl rfl rfl ?_
            refine v_putI (n := 82) f_X3_28 rfl (Or.inl rfl) P.s dX3_weigh_79 rfl ?_
            refine v_vret rfl ⟨rfl, rfl, ?_, by rw [sI_k (by decide), sI_k (by decide), sI_k (by decide), sI_s], fun a ha => by rw [setI_ne ha, setI_ne ha, setI_ne ha, setI_ne ha]⟩ ⟨l8 rfl, l8 rfl⟩ dX3_weigh_82
            rw [stp, if_pos (Or.inr (Or.inr ⟨hq30, Int32.not_le.mp hq39⟩)), sI_k (by decide), sI_k (by decide), sI_s, sI_k (by decide), sI_s, sI_s]

/-! the tree of ways, and their rows -/
def wbF (T n : Nat) : Nat → Ar → Nat → Bool × Tri → Bool × Tri
  | 0, X, mo, s => (false, stp s.1 s.2 (wvX X n mo))
  | r + 1, X, mo, s => wbF T n r (dayX X T n (ln X) (nI 2 - 1)) (3 * mo + 2) (wbF T n r (dayX X T n (ln X) (nI 1 - 1)) (3 * mo + 1) (wbF T n r (dayX X T n (ln X) (nI 0 - 1)) (3 * mo) s))
def wfG (X : Ar) (T n d base : Nat) : Nat → Bool × Tri → Bool × Tri
  | 0, s => s
  | r + 1, s => (false, stp (wfG X T n d base r s).1 (wfG X T n d base r s).2 (wvX (enX T n r d X) n (base + r)))
theorem en_mod {T n m d : Nat} : ∀ j r (X : Ar), j ≤ d → enX T n (m * 3 ^ d + r) j X = enX T n r j X
  | 0, _, _, _ => rfl
  | j + 1, r, X, h => by
    rw [enX, enX, en_mod j r _ (by omega)]
    have e : (m * 3 ^ d + r) / 3 ^ j % 3 = r / 3 ^ j % 3 := by
      have h3 : m * 3 ^ d = 3 ^ j * (3 * (m * 3 ^ (d - j - 1))) := by
        rw [show d = j + 1 + (d - j - 1) by omega, Nat.pow_add, Nat.pow_add]
        rw [show j + 1 + (d - j - 1) - j - 1 = d - j - 1 by omega]
        simp [Nat.mul_comm, Nat.mul_left_comm, Nat.mul_assoc]
      rw [h3, Nat.mul_add_div (Nat.pow_pos (by decide)), Nat.mul_add_mod]
    rw [e]
theorem wg_split {X Y : Ar} {T n d base a : Nat} {s : Bool × Tri} : ∀ c, (∀ r, r < c → enX T n (a + r) (d + 1) X = enX T n r d Y) → wfG X T n (d + 1) base (a + c) s = wfG Y T n d (base + a) c (wfG X T n (d + 1) base a s)
  | 0, _ => rfl
  | c + 1, h => by
    show wfG X T n (d + 1) base (a + c + 1) s = _
    rw [wfG, wg_split c (fun r hr => h r (by omega)), h c (by omega), wfG, Nat.add_assoc]
theorem en_dig {X : Ar} {T n d m r : Nat} (hr : r < 3 ^ d) (hm : m < 3) : enX T n (m * 3 ^ d + r) (d + 1) X = enX T n r d (dayX X T n (ln X) (nI m - 1)) := by
  rw [enX, en_mod d r _ (Nat.le_refl _), Nat.mul_comm m, Nat.mul_add_div (Nat.pow_pos (by decide)), Nat.div_eq_of_lt hr, Nat.add_zero, Nat.mod_eq_of_lt hm]
theorem wb_wg {T n : Nat} : ∀ d (X : Ar) mo s, wbF T n d X mo s = wfG X T n d (mo * 3 ^ d) (3 ^ d) s
  | 0, X, mo, s => by
    show _ = wfG X T n 0 (mo * 1) (0 + 1) s
    rw [wbF, wfG, wfG, Nat.mul_one]; rfl
  | d + 1, X, mo, s => by
    have e : 3 ^ (d + 1) = 0 + 3 ^ d + 3 ^ d + 3 ^ d := by rw [Nat.pow_succ]; omega
    rw [wbF, wb_wg d, wb_wg d, wb_wg d]
    have z0 : wfG X T n (d + 1) (mo * 3 ^ (d + 1)) (0 + 3 ^ d) s = wfG (dayX X T n (ln X) (nI 0 - 1)) T n d (mo * 3 ^ (d + 1) + 0) (3 ^ d) s := wg_split (a := 0) (3 ^ d) (fun r hr => by
      have := en_dig (X := X) (T := T) (n := n) (m := 0) hr (by decide)
      rw [Nat.zero_mul] at this; exact this)
    have z1 := wg_split (X := X) (Y := dayX X T n (ln X) (nI 1 - 1)) (T := T) (n := n) (d := d) (base := mo * 3 ^ (d + 1)) (a := 0 + 3 ^ d) (s := s) (3 ^ d) (fun r hr => by
      have := en_dig (X := X) (T := T) (n := n) (m := 1) hr (by decide)
      rw [Nat.one_mul] at this; rw [Nat.zero_add]; exact this)
    have z2 := wg_split (X := X) (Y := dayX X T n (ln X) (nI 2 - 1)) (T := T) (n := n) (d := d) (base := mo * 3 ^ (d + 1)) (a := 0 + 3 ^ d + 3 ^ d) (s := s) (3 ^ d) (fun r hr => by
      have := en_dig (X := X) (T := T) (n := n) (m := 2) hr (by decide)
      rw [show 0 + 3 ^ d + 3 ^ d = 2 * 3 ^ d by omega]; exact this)
    rw [e, ← e, show wfG X T n (d + 1) (mo * 3 ^ (d + 1)) (3 ^ (d + 1)) s = wfG X T n (d + 1) (mo * 3 ^ (d + 1)) (0 + 3 ^ d + 3 ^ d + 3 ^ d) s from by rw [← e], z2, z1, z0]
    have b0 : 3 * mo * 3 ^ d = mo * 3 ^ (d + 1) + 0 := by rw [Nat.pow_succ, Nat.mul_comm (3 ^ d), ← Nat.mul_assoc, Nat.mul_comm mo 3]; rfl
    have b1 : (3 * mo + 1) * 3 ^ d = mo * 3 ^ (d + 1) + (0 + 3 ^ d) := by rw [Nat.add_mul, b0]; omega
    have b2 : (3 * mo + 2) * 3 ^ d = mo * 3 ^ (d + 1) + (0 + 3 ^ d + 3 ^ d) := by rw [Nat.add_mul, b0]; omega
    rw [b0, b1, b2]
theorem wg_wf {X : Ar} {T n d : Nat} {t : Tri} : ∀ r, (wfG X T n d 0 r (true, t)).1 = (r == 0) ∧ (0 < r → (wfG X T n d 0 r (true, t)).2 = wfR X T n d r)
  | 0 => ⟨rfl, fun h => absurd h (by decide)⟩
  | r + 1 => by
    obtain ⟨h1, h2⟩ := wg_wf (X := X) (T := T) (n := n) (d := d) (t := t) r
    refine ⟨rfl, fun _ => ?_⟩
    rw [wfG, wfR, h1, Nat.zero_add]
    rcases Nat.eq_zero_or_pos r with q | q
    · subst q; rfl
    · rw [h2 q]
theorem wb_way {X : Ar} {T n d : Nat} {t : Tri} : (wbF T n d X 0 (true, t)).2 = wfR X T n d (3 ^ d) := by
  rw [wb_wg, Nat.zero_mul]
  exact (wg_wf (3 ^ d)).2 (Nat.pow_pos (by decide))

