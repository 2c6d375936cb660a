/-! ===== Ball, Ring: grow and become ===== -/
theorem wS_last {X : Ar} {k : Int32} : ∀ l i, i < l → wS (upd X (17 + 2 * i) (X (17 + 2 * i) + k)) l = wS X l + k
  | 0, i, h => absurd h (by omega)
  | l + 1, i, h => by
    show wS _ l + upd X (17 + 2 * i) (X (17 + 2 * i) + k) (17 + 2 * l) = wS X l + X (17 + 2 * l) + k
    by_cases q : i = l
    · subst q
      rw [pk_us, wS_cong (X := X) i (fun j hj => pk_un (by omega)), Int32.add_assoc]
    · rw [wS_last l i (by omega), pk_un (by omega), Int32.add_assoc, Int32.add_comm k, ← Int32.add_assoc]
theorem bg_new {I J : In} {b l : Nat} {X : Ar} {y k : Int32} (h : BlR I b X l) (hl : l < 30) (e1 : J (b + 1) = upd (I (b + 1)) l y) (e2 : J (b + 2) = upd (I (b + 2)) l k) (e3 : J (b + 3) = I (b + 3)) (f3 : J b 3 = nI (l + 1)) (f4 : J b 4 = I b 4 + k) (f5 : J b 5 = I b 5) (f6 : J b 6 = I b 6) : BlR J b (upd (upd (upd X (16 + 2 * l) y) (17 + 2 * l) k) 7 (nI (l + 1))) (l + 1) := by
  refine ⟨⟨f3, ?_, ?_, ?_⟩, fun i hi => ?_, fun t ht => ?_⟩
  · rw [f4, h.1.2.1]
    show _ = wS _ l + upd (upd (upd X (16 + 2 * l) y) (17 + 2 * l) k) 7 (nI (l + 1)) (17 + 2 * l)
    rw [pk_un (by omega), pk_us, wS_cong (X := X) (Y := upd (upd (upd X (16 + 2 * l) y) (17 + 2 * l) k) 7 (nI (l + 1))) l (fun j hj => by rw [pk_un (by omega), pk_un (by omega), pk_un (by omega)])]
  · rw [f5, pk_un (by decide), pk_un (by omega), pk_un (by omega)]; exact h.1.2.2.1
  · rw [f6, pk_un (by decide), pk_un (by omega), pk_un (by omega)]; exact h.1.2.2.2
  · rw [e1, e2, pk_un (show 16 + 2 * i ≠ 7 by omega), pk_un (show 17 + 2 * i ≠ 7 by omega), pk_un (show 16 + 2 * i ≠ 17 + 2 * l by omega)]
    by_cases q : i = l
    · subst q; exact ⟨by rw [pk_us, pk_us], by rw [pk_us, pk_us]⟩
    · rw [pk_un q, pk_un q, pk_un (by omega), pk_un (by omega), pk_un (by omega)]; exact h.2.1 i (by omega)
  · rw [e3, pk_un (by omega), pk_un (by omega), pk_un (by omega)]; exact h.2.2 t ht
theorem bg_old {I J : In} {b l : Nat} {X : Ar} {k : Int32} (h : BlR I b X l) (hl : 1 ≤ l) (e1 : J (b + 1) = I (b + 1)) (e2 : J (b + 2) = upd (I (b + 2)) (l - 1) (I (b + 2) (l - 1) + k)) (e3 : J (b + 3) = I (b + 3)) (f3 : J b 3 = I b 3) (f4 : J b 4 = I b 4 + k) (f5 : J b 5 = I b 5) (f6 : J b 6 = I b 6) : BlR J b (upd X (17 + 2 * (l - 1)) (X (17 + 2 * (l - 1)) + k)) l := by
  refine ⟨⟨f3.trans h.1.1, ?_, ?_, ?_⟩, fun i hi => ?_, fun t ht => ?_⟩
  · rw [f4, h.1.2.1, wS_last l (l - 1) (by omega)]
  · rw [f5, pk_un (by omega)]; exact h.1.2.2.1
  · rw [f6, pk_un (by omega)]; exact h.1.2.2.2
  · rw [e1, e2, pk_un (show 16 + 2 * i ≠ 17 + 2 * (l - 1) by omega)]
    refine ⟨(h.2.1 i hi).1, ?_⟩
    by_cases q : i = l - 1
    · rw [q, pk_us, pk_us, (h.2.1 (l - 1) (by omega)).2]
    · rw [pk_un q, pk_un (by omega)]; exact (h.2.1 i hi).2
  · rw [e3, pk_un (by omega)]; exact h.2.2 t ht
theorem si_row {I : In} {a k : Nat} {x : Int32} : setI I a k x a = upd (I a) k x := by rw [row_set, row_s]

set_option maxRecDepth 100000 in
set_option maxHeartbeats 1000000 in
theorem k_X0_grow {ro : Ro} {S : St} {I : In} {b l k : Nat} {y : Int32} {X : Ar} (L : LayB S b) (h : BlR I b X l) (h7 : X 7 = nI l) (hl30 : l ≤ 30) : Ok mX0_grow ro 0 0 0 [.ref b, .int y, .int (nI k)] S I (fun r S' I' => r = none ∧ S' = S ∧ ∃ l', l' ≤ 30 ∧ (if 0 < nI k then packX X l y (nI k) else X) 7 = nI l' ∧ BlR I' b (if 0 < nI k then packX X l y (nI k) else X) l' ∧ Eqx (blk b 3) I I') := by
  refine ok_of (al := [.ref b, .int y, .int (nI k), JJ]) (by decide) (l8 rfl) rfl ?_
  refine v_iload_n (n := 1) dX0_grow_0 rfl rfl rfl ?_
  refine v_if_gt (n := 4) (tgt := 5) dX0_grow_1 (by decide) rfl (fun hq1 => ?_) (fun hq1 => ?_)
  · refine v_aload_n (n := 6) dX0_grow_5 rfl rfl rfl ?_
    refine v_getI (n := 9) f_X0_21 rfl L.s dX0_grow_6 rfl ?_
    rw [h.1.1]
    refine v_iconst (n := 10) (v := 1) dX0_grow_9 c_1 rfl ?_
    refine v_isub (n := 11) dX0_grow_10 rfl ?_
    refine v_istore_n (n := 12) (al' := [.ref b, .int y, .int (nI k), .int ((nI l) - 1)]) dX0_grow_11 rfl rfl rfl rfl ?_
    refine v_iload_n (n := 13) dX0_grow_12 rfl rfl rfl ?_
    refine v_if_lt (n := 16) (tgt := 48) dX0_grow_13 (by decide) rfl (fun hq13 => ?_) (fun hq13 => ?_)
    · have hl0 : l = 0 := by
        rcases Nat.eq_zero_or_pos l with q | q
        · exact q
        · exact absurd hq13 (by rw [nI_p1 q]; exact nI_nlt0 (by omega))
      refine v_aload_n (n := 49) dX0_grow_48 rfl rfl rfl ?_
      refine v_getR (n := 52) f_X0_9 rfl L.s L.g0 dX0_grow_49 rfl ?_
      refine v_aload_n (n := 53) dX0_grow_52 rfl rfl rfl ?_
      refine v_getI (n := 56) f_X0_21 rfl L.s dX0_grow_53 rfl ?_
      rw [h.1.1]
      refine v_iload_n (n := 57) dX0_grow_56 rfl rfl rfl ?_
      refine v_iast (n := 58) (j := l) L.c0 (ix_nI (by omega) (by decide)) dX0_grow_57 rfl ?_
      refine v_aload_n (n := 59) dX0_grow_58 rfl rfl rfl ?_
      refine v_getR (n := 62) f_X0_15 rfl L.s L.g1 dX0_grow_59 rfl ?_
      refine v_aload_n (n := 63) dX0_grow_62 rfl rfl rfl ?_
      refine v_getI (n := 66) f_X0_21 rfl L.s dX0_grow_63 rfl ?_
      rw [sI_o (by omega), h.1.1]
      refine v_iload_n (n := 67) dX0_grow_66 rfl rfl rfl ?_
      refine v_iast (n := 68) (j := l) L.c1 (ix_nI (by omega) (by decide)) dX0_grow_67 rfl ?_
      refine v_aload_n (n := 69) dX0_grow_68 rfl rfl rfl ?_
      refine v_dup (n := 70) dX0_grow_69 rfl rfl ?_
      refine v_getI (n := 73) f_X0_21 rfl L.s dX0_grow_70 rfl ?_
      rw [sI_o (by omega), sI_o (by omega), h.1.1]
      refine v_iconst (n := 74) (v := 1) dX0_grow_73 c_1 rfl ?_
      refine v_iadd (n := 75) dX0_grow_74 rfl ?_
      refine v_putI (n := 78) f_X0_21 rfl (Or.inl rfl) L.s dX0_grow_75 rfl ?_
      refine v_aload_n (n := 79) dX0_grow_78 rfl rfl rfl ?_
      refine v_dup (n := 80) dX0_grow_79 rfl rfl ?_
      refine v_getI (n := 83) f_X0_25 rfl L.s dX0_grow_80 rfl ?_
      refine v_iload_n (n := 84) dX0_grow_83 rfl rfl rfl ?_
      refine v_iadd (n := 85) dX0_grow_84 rfl ?_
      refine v_putI (n := 88) f_X0_25 rfl (Or.inl rfl) L.s dX0_grow_85 rfl ?_
      refine v_vret rfl ⟨rfl, rfl, l + 1, by omega, ?_, ?_, ?_⟩ ⟨l8 rfl, l8 rfl⟩ dX0_grow_88
      · rw [if_pos hq1, packX, if_pos (Or.inl hl0), pk_us]
      · rw [if_pos hq1, packX, if_pos (Or.inl hl0)]
        exact bg_new h (by omega) (by rw [setI_ne (by omega), setI_ne (by omega), setI_ne (by omega), si_row]) (by rw [setI_ne (by omega), setI_ne (by omega), si_row, setI_ne (by omega)]) (by rw [setI_ne (by omega), setI_ne (by omega), setI_ne (by omega), setI_ne (by omega)]) (by rw [sI_k (by decide), sI_s, nI_1]) (by rw [sI_s, sI_k (by decide), sI_o (by omega), sI_o (by omega)]) (by rw [sI_k (by decide), sI_k (by decide), sI_o (by omega), sI_o (by omega)]) (by rw [sI_k (by decide), sI_k (by decide), sI_o (by omega), sI_o (by omega)])
      · exact (((Eqx.rf.set (by unfold blk; omega)).set (by unfold blk; omega)).set (by unfold blk; omega)).set (by unfold blk; omega)
    · have hl0 : 1 ≤ l := by
        rcases Nat.eq_zero_or_pos l with q | q
        · subst q; exact absurd (by decide) hq13
        · exact q
      rw [nI_p1 hl0]
      refine v_aload_n (n := 17) dX0_grow_16 rfl rfl rfl ?_
      refine v_getI (n := 20) f_X0_21 rfl L.s dX0_grow_17 rfl ?_
      rw [h.1.1]
      refine v_bipush (n := 22) (v := 30) dX0_grow_20 b_30 rfl ?_
      refine v_icmp_ge (n := 25) (tgt := 35) dX0_grow_22 (by decide) rfl (fun hq22 => ?_) (fun hq22 => ?_)
      · rw [lit_nI 30] at hq22
        have hq22 := le_out hq22 (by omega) (by omega)
        refine v_aload_n (n := 36) dX0_grow_35 rfl rfl rfl ?_
        refine v_getR (n := 39) f_X0_15 rfl L.s L.g1 dX0_grow_36 rfl ?_
        refine v_iload_n (n := 40) dX0_grow_39 rfl rfl rfl ?_
        refine v_dup2 (n := 41) dX0_grow_40 ⟨rfl, rfl⟩ rfl ?_
        refine v_iald (n := 42) (j := l - 1) L.c1 (ix_nI (by omega) (by decide)) dX0_grow_41 rfl ?_
        refine v_iload_n (n := 43) dX0_grow_42 rfl rfl rfl ?_
        refine v_iadd (n := 44) dX0_grow_43 rfl ?_
        refine v_iast (n := 45) (j := l - 1) L.c1 (ix_nI (by omega) (by decide)) dX0_grow_44 rfl ?_
        refine v_goto (tgt := 78) dX0_grow_45 (by decide) ?_
        refine v_aload_n (n := 79) dX0_grow_78 rfl rfl rfl ?_
        refine v_dup (n := 80) dX0_grow_79 rfl rfl ?_
        refine v_getI (n := 83) f_X0_25 rfl L.s dX0_grow_80 rfl ?_
        refine v_iload_n (n := 84) dX0_grow_83 rfl rfl rfl ?_
        refine v_iadd (n := 85) dX0_grow_84 rfl ?_
        refine v_putI (n := 88) f_X0_25 rfl (Or.inl rfl) L.s dX0_grow_85 rfl ?_
        refine v_vret rfl ⟨rfl, rfl, l, by omega, ?_, ?_, ?_⟩ ⟨l8 rfl, l8 rfl⟩ dX0_grow_88
        · rw [if_pos hq1, packX, if_neg (fun q => q.elim (fun q => absurd q (by omega)) (fun q => absurd q.1 (by omega))), pk_un (by omega)]; exact h7
        · rw [if_pos hq1, packX, if_neg (fun q => q.elim (fun q => absurd q (by omega)) (fun q => absurd q.1 (by omega)))]
          exact bg_old h (by omega) (by rw [setI_ne (by omega), setI_ne (by omega)]) (by rw [setI_ne (by omega), si_row]) (by rw [setI_ne (by omega), setI_ne (by omega)]) (by rw [sI_k (by decide), sI_o (by omega)]) (by rw [sI_s, sI_o (by omega)]) (by rw [sI_k (by decide), sI_o (by omega)]) (by rw [sI_k (by decide), sI_o (by omega)])
        · exact (Eqx.rf.set (by unfold blk; omega)).set (by unfold blk; omega)
      · rw [lit_nI 30] at hq22
        have hq22 := nle_in hq22 (by omega) (by omega)
        refine v_aload_n (n := 26) dX0_grow_25 rfl rfl rfl ?_
        refine v_getR (n := 29) f_X0_9 rfl L.s L.g0 dX0_grow_26 rfl ?_
        refine v_iload_n (n := 30) dX0_grow_29 rfl rfl rfl ?_
        refine v_iald (n := 31) (j := l - 1) L.c0 (ix_nI (by omega) (by decide)) dX0_grow_30 rfl ?_
        refine v_iload_n (n := 32) dX0_grow_31 rfl rfl rfl ?_
        refine v_icmp_ne (n := 35) (tgt := 48) dX0_grow_32 (by decide) rfl (fun hq32 => ?_) (fun hq32 => ?_)
        · rw [(h.2.1 (l - 1) (by omega)).1] at hq32
          refine v_aload_n (n := 49) dX0_grow_48 rfl rfl rfl ?_
          refine v_getR (n := 52) f_X0_9 rfl L.s L.g0 dX0_grow_49 rfl ?_
          refine v_aload_n (n := 53) dX0_grow_52 rfl rfl rfl ?_
          refine v_getI (n := 56) f_X0_21 rfl L.s dX0_grow_53 rfl ?_
          rw [h.1.1]
          refine v_iload_n (n := 57) dX0_grow_56 rfl rfl rfl ?_
          refine v_iast (n := 58) (j := l) L.c0 (ix_nI (by omega) (by decide)) dX0_grow_57 rfl ?_
          refine v_aload_n (n := 59) dX0_grow_58 rfl rfl rfl ?_
          refine v_getR (n := 62) f_X0_15 rfl L.s L.g1 dX0_grow_59 rfl ?_
          refine v_aload_n (n := 63) dX0_grow_62 rfl rfl rfl ?_
          refine v_getI (n := 66) f_X0_21 rfl L.s dX0_grow_63 rfl ?_
          rw [sI_o (by omega), h.1.1]
          refine v_iload_n (n := 67) dX0_grow_66 rfl rfl rfl ?_
          refine v_iast (n := 68) (j := l) L.c1 (ix_nI (by omega) (by decide)) dX0_grow_67 rfl ?_
          refine v_aload_n (n := 69) dX0_grow_68 rfl rfl rfl ?_
          refine v_dup (n := 70) dX0_grow_69 rfl rfl ?_
          refine v_getI (n := 73) f_X0_21 rfl L.s dX0_grow_70 rfl ?_
          rw [sI_o (by omega), sI_o (by omega), h.1.1]
          refine v_iconst (n := 74) (v := 1) dX0_grow_73 c_1 rfl ?_
          refine v_iadd (n := 75) dX0_grow_74 rfl ?_
          refine v_putI (n := 78) f_X0_21 rfl (Or.inl rfl) L.s dX0_grow_75 rfl ?_
          refine v_aload_n (n := 79) dX0_grow_78 rfl rfl rfl ?_
          refine v_dup (n := 80) dX0_grow_79 rfl rfl ?_
          refine v_getI (n := 83) f_X0_25 rfl L.s dX0_grow_80 rfl ?_
          refine v_iload_n (n := 84) dX0_grow_83 rfl rfl rfl ?_
          refine v_iadd (n := 85) dX0_grow_84 rfl ?_
          refine v_putI (n := 88) f_X0_25 rfl (Or.inl rfl) L.s dX0_grow_85 rfl ?_
          refine v_vret rfl ⟨rfl, rfl, l + 1, by omega, ?_, ?_, ?_⟩ ⟨l8 rfl, l8 rfl⟩ dX0_grow_88
          · rw [if_pos hq1, packX, if_pos (Or.inr ⟨hq22, hq32⟩), pk_us]
          · rw [if_pos hq1, packX, if_pos (Or.inr ⟨hq22, hq32⟩)]
            exact bg_new h (by omega) (by rw [setI_ne (by omega), setI_ne (by omega), setI_ne (by omega), si_row]) (by rw [setI_ne (by omega), setI_ne (by omega), si_row, setI_ne (by omega)]) (by rw [setI_ne (by omega), setI_ne (by omega), setI_ne (by omega), setI_ne (by omega)]) (by rw [sI_k (by decide), sI_s, nI_1]) (by rw [sI_s, sI_k (by decide), sI_o (by omega), sI_o (by omega)]) (by rw [sI_k (by decide), sI_k (by decide), sI_o (by omega), sI_o (by omega)]) (by rw [sI_k (by decide), sI_k (by decide), sI_o (by omega), sI_o (by omega)])
          · exact (((Eqx.rf.set (by unfold blk; omega)).set (by unfold blk; omega)).set (by unfold blk; omega)).set (by unfold blk; omega)
        · rw [(h.2.1 (l - 1) (by omega)).1] at hq32
          refine v_aload_n (n := 36) dX0_grow_35 rfl rfl rfl ?_
          refine v_getR (n := 39) f_X0_15 rfl L.s L.g1 dX0_grow_36 rfl ?_
          refine v_iload_n (n := 40) dX0_grow_39 rfl rfl rfl ?_
          refine v_dup2 (n := 41) dX0_grow_40 ⟨rfl, rfl⟩ rfl ?_
          refine v_iald (n := 42) (j := l - 1) L.c1 (ix_nI (by omega) (by decide)) dX0_grow_41 rfl ?_
          refine v_iload_n (n := 43) dX0_grow_42 rfl rfl rfl ?_
          refine v_iadd (n := 44) dX0_grow_43 rfl ?_
          refine v_iast (n := 45) (j := l - 1) L.c1 (ix_nI (by omega) (by decide)) dX0_grow_44 rfl ?_
          refine v_goto (tgt := 78) dX0_grow_45 (by decide) ?_
          refine v_aload_n (n := 79) dX0_grow_78 rfl rfl rfl ?_
          refine v_dup (n := 80) dX0_grow_79 rfl rfl ?_
          refine v_getI (n := 83) f_X0_25 rfl L.s dX0_grow_80 rfl ?_
          refine v_iload_n (n := 84) dX0_grow_83 rfl rfl rfl ?_
          refine v_iadd (n := 85) dX0_grow_84 rfl ?_
          refine v_putI (n := 88) f_X0_25 rfl (Or.inl rfl) L.s dX0_grow_85 rfl ?_
          refine v_vret rfl ⟨rfl, rfl, l, by omega, ?_, ?_, ?_⟩ ⟨l8 rfl, l8 rfl⟩ dX0_grow_88
          · rw [if_pos hq1, packX, if_neg (fun q => q.elim (fun q => absurd q (by omega)) (fun q => q.2 hq32)), pk_un (by omega)]; exact h7
          · rw [if_pos hq1, packX, if_neg (fun q => q.elim (fun q => absurd q (by omega)) (fun q => q.2 hq32))]
            exact bg_old h (by omega) (by rw [setI_ne (by omega), setI_ne (by omega)]) (by rw [setI_ne (by omega), si_row]) (by rw [setI_ne (by omega), setI_ne (by omega)]) (by rw [sI_k (by decide), sI_o (by omega)]) (by rw [sI_s, sI_o (by omega)]) (by rw [sI_k (by decide), sI_o (by omega)]) (by rw [sI_k (by decide), sI_o (by omega)])
          · exact (Eqx.rf.set (by unfold blk; omega)).set (by unfold blk; omega)
  · exact v_vret rfl ⟨rfl, rfl, l, hl30, by rw [if_neg hq1]; exact h7, by rw [if_neg hq1]; exact h, Eqx.rf⟩ ⟨l8 rfl, l8 rfl⟩ dX0_grow_4

set_option maxRecDepth 100000 in
set_option maxHeartbeats 1000000 in
theorem k_X5_become {ro : Ro} {S : St} {I : In} {r q n : Nat} {X : Ar} (L : LayR S r) (L2 : LayR S q) (hd : r + 5 ≤ q ∨ q + 5 ≤ r) (h : RgR I q X n) (hn10 : n ≤ 10) : Ok mX5_become ro 1 0 0 [.ref r, .ref q] S I (fun r0 S' I' => r0 = none ∧ S' = S ∧ RgR I' r X n ∧ Eqx (blk r 5) I I') := by
  refine ok_of (al := [.ref r, .ref q]) (by decide) (l8 rfl) rfl ?_
  refine v_aload_n (n := 1) dX5_become_0 rfl rfl rfl ?_
  refine v_aload_n (n := 2) dX5_become_1 rfl rfl rfl ?_
  refine v_getI (n := 5) f_X5_24 rfl L2.s dX5_become_2 rfl ?_
  rw [h.1]
  refine v_putI (n := 8) f_X5_24 rfl (Or.inl rfl) L.s dX5_become_5 rfl ?_
  refine v_aload_n (n := 9) dX5_become_8 rfl rfl rfl ?_
  refine v_getR (n := 12) f_X5_9 rfl L2.s L2.g0 dX5_become_9 rfl ?_
  refine v_iconst (n := 13) (v := 0) dX5_become_12 c_0 rfl ?_
  refine v_aload_n (n := 14) dX5_become_13 rfl rfl rfl ?_
  refine v_getR (n := 17) f_X5_9 rfl L.s L.g0 dX5_become_14 rfl ?_
  refine v_iconst (n := 18) (v := 0) dX5_become_17 c_0 rfl ?_
  refine v_aload_n (n := 19) dX5_become_18 rfl rfl rfl ?_
  refine v_getI (n := 22) f_X5_24 rfl L.s dX5_become_19 rfl ?_
  rw [sI_s]
  refine v_copy (n := 25) (sp := 0) (dp := 0) (k := n) l_X5_39 ac_nat ac_sta ini_J10 L2.c0 L.c0 ⟨by decide, rfl⟩ ⟨by decide, rfl⟩ ⟨nI_nlt0 (by omega), nI_clamp (by omega)⟩ ⟨by omega, by omega⟩ ⟨rfl, rfl⟩ (l8 rfl) dX5_become_22 rfl ?_
  refine v_aload_n (n := 26) dX5_become_25 rfl rfl rfl ?_
  refine v_getR (n := 29) f_X5_15 rfl L2.s L2.g1 dX5_become_26 rfl ?_
  refine v_iconst (n := 30) (v := 0) dX5_become_29 c_0 rfl ?_
  refine v_aload_n (n := 31) dX5_become_30 rfl rfl rfl ?_
  refine v_getR (n := 34) f_X5_15 rfl L.s L.g1 dX5_become_31 rfl ?_
  refine v_iconst (n := 35) (v := 0) dX5_become_34 c_0 rfl ?_
  refine v_aload_n (n := 36) dX5_become_35 rfl rfl rfl ?_
  refine v_getI (n := 39) f_X5_24 rfl L.s dX5_become_36 rfl ?_
  rw [cpyI_ne (by omega), sI_s]
  refine v_copy (n := 42) (sp := 0) (dp := 0) (k := n) l_X5_39 ac_nat ac_sta ini_J10 L2.c1 L.c1 ⟨by decide, rfl⟩ ⟨by decide, rfl⟩ ⟨nI_nlt0 (by omega), nI_clamp (by omega)⟩ ⟨by omega, by omega⟩ ⟨rfl, rfl⟩ (l8 rfl) dX5_become_39 rfl ?_
  refine v_aload_n (n := 43) dX5_become_42 rfl rfl rfl ?_
  refine v_getR (n := 46) f_X5_18 rfl L2.s L2.g2 dX5_become_43 rfl ?_
  refine v_iconst (n := 47) (v := 0) dX5_become_46 c_0 rfl ?_
  refine v_aload_n (n := 48) dX5_become_47 rfl rfl rfl ?_
  refine v_getR (n := 51) f_X5_18 rfl L.s L.g2 dX5_become_48 rfl ?_
  refine v_iconst (n := 52) (v := 0) dX5_become_51 c_0 rfl ?_
  refine v_aload_n (n := 53) dX5_become_52 rfl rfl rfl ?_
  refine v_getI (n := 56) f_X5_24 rfl L.s dX5_become_53 rfl ?_
  rw [cpyI_ne (by omega), cpyI_ne (by omega), sI_s]
  refine v_copy (n := 59) (sp := 0) (dp := 0) (k := n) l_X5_39 ac_nat ac_sta ini_J10 L2.c2 L.c2 ⟨by decide, rfl⟩ ⟨by decide, rfl⟩ ⟨nI_nlt0 (by omega), nI_clamp (by omega)⟩ ⟨by omega, by omega⟩ ⟨rfl, rfl⟩ (l8 rfl) dX5_become_56 rfl ?_
  refine v_aload_n (n := 60) dX5_become_59 rfl rfl rfl ?_
  refine v_getR (n := 63) f_X5_21 rfl L2.s L2.g3 dX5_become_60 rfl ?_
  refine v_iconst (n := 64) (v := 0) dX5_become_63 c_0 rfl ?_
  refine v_aload_n (n := 65) dX5_become_64 rfl rfl rfl ?_
  refine v_getR (n := 68) f_X5_21 rfl L.s L.g3 dX5_become_65 rfl ?_
  refine v_iconst (n := 69) (v := 0) dX5_become_68 c_0 rfl ?_
  refine v_aload_n (n := 70) dX5_become_69 rfl rfl rfl ?_
  refine v_getI (n := 73) f_X5_24 rfl L.s dX5_become_70 rfl ?_
  rw [cpyI_ne (by omega), cpyI_ne (by omega), cpyI_ne (by omega), sI_s]
  refine v_copy (n := 76) (sp := 0) (dp := 0) (k := n) l_X5_39 ac_nat ac_sta ini_J10 L2.c3 L.c3 ⟨by decide, rfl⟩ ⟨by decide, rfl⟩ ⟨nI_nlt0 (by omega), nI_clamp (by omega)⟩ ⟨by omega, by omega⟩ ⟨rfl, rfl⟩ (l8 rfl) dX5_become_73 rfl ?_
  refine v_vret rfl ⟨rfl, rfl, ⟨by rw [cpyI_ne (by omega), cpyI_ne (by omega), cpyI_ne (by omega), cpyI_ne (by omega), sI_s], fun y hy => ?_⟩, fun a ha => ?_⟩ ⟨l8 rfl, l8 rfl⟩ dX5_become_76
  · have e := h.2 y hy
    refine ⟨?_, ?_, ?_, ?_⟩
    · rw [cpyI_ne (by omega), cpyI_ne (by omega), cpyI_ne (by omega), cpy_0 hy, sI_o (by omega)]; exact e.1
    · rw [cpyI_ne (by omega), cpyI_ne (by omega), cpy_0 hy, cpyI_ne (by omega), sI_o (by omega)]; exact e.2.1
    · rw [cpyI_ne (by omega), cpy_0 hy, cpyI_ne (by omega), cpyI_ne (by omega), sI_o (by omega)]; exact e.2.2.1
    · rw [cpy_0 hy, cpyI_ne (by omega), cpyI_ne (by omega), cpyI_ne (by omega), sI_o (by omega)]; exact e.2.2.2
  · unfold blk at ha; rw [cpyI_ne (by omega), cpyI_ne (by omega), cpyI_ne (by omega), cpyI_ne (by omega), setI_ne (by omega)]

set_option maxRecDepth 100000 in
set_option maxHeartbeats 1000000 in
theorem k_X0_become {ro : Ro} {S : St} {I : In} {b q l : Nat} {X : Ar} (L : LayB S b) (L2 : LayB S q) (hd : b + 4 ≤ q ∨ q + 4 ≤ b) (h : BlR I q X l) (hl30 : l ≤ 30) : Ok mX0_become ro 1 0 0 [.ref b, .ref q] S I (fun r0 S' I' => r0 = none ∧ S' = S ∧ BlR I' b X l ∧ Eqx (blk b 4) I I') := by
  refine ok_of (al := [.ref b, .ref q]) (by decide) (l8 rfl) rfl ?_
  refine v_aload_n (n := 1) dX0_become_0 rfl rfl rfl ?_
  refine v_aload_n (n := 2) dX0_become_1 rfl rfl rfl ?_
  refine v_getI (n := 5) f_X0_21 rfl L2.s dX0_become_2 rfl ?_
  rw [h.1.1]
  refine v_putI (n := 8) f_X0_21 rfl (Or.inl rfl) L.s dX0_become_5 rfl ?_
  refine v_aload_n (n := 9) dX0_become_8 rfl rfl rfl ?_
  refine v_aload_n (n := 10) dX0_become_9 rfl rfl rfl ?_
  refine v_getI (n := 13) f_X0_25 rfl L2.s dX0_become_10 rfl ?_
  rw [sI_o (by omega), h.1.2.1]
  refine v_putI (n := 16) f_X0_25 rfl (Or.inl rfl) L.s dX0_become_13 rfl ?_
  refine v_aload_n (n := 17) dX0_become_16 rfl rfl rfl ?_
  refine v_aload_n (n := 18) dX0_become_17 rfl rfl rfl ?_
  refine v_getI (n := 21) f_X0_28 rfl L2.s dX0_become_18 rfl ?_
  rw [sI_o (by omega), sI_o (by omega), h.1.2.2.1]
  refine v_putI (n := 24) f_X0_28 rfl (Or.inl rfl) L.s dX0_become_21 rfl ?_
  refine v_aload_n (n := 25) dX0_become_24 rfl rfl rfl ?_
  refine v_aload_n (n := 26) dX0_become_25 rfl rfl rfl ?_
  refine v_getI (n := 29) f_X0_31 rfl L2.s dX0_become_26 rfl ?_
  rw [sI_o (by omega), sI_o (by omega), sI_o (by omega), h.1.2.2.2]
  refine v_putI (n := 32) f_X0_31 rfl (Or.inl rfl) L.s dX0_become_29 rfl ?_
  refine v_aload_n (n := 33) dX0_become_32 rfl rfl rfl ?_
  refine v_getR (n := 36) f_X0_9 rfl L2.s L2.g0 dX0_become_33 rfl ?_
  refine v_iconst (n := 37) (v := 0) dX0_become_36 c_0 rfl ?_
  refine v_aload_n (n := 38) dX0_become_37 rfl rfl rfl ?_
  refine v_getR (n := 41) f_X0_9 rfl L.s L.g0 dX0_become_38 rfl ?_
  refine v_iconst (n := 42) (v := 0) dX0_become_41 c_0 rfl ?_
  refine v_aload_n (n := 43) dX0_become_42 rfl rfl rfl ?_
  refine v_getI (n := 46) f_X0_21 rfl L.s dX0_become_43 rfl ?_
  rw [sI_k (by decide), sI_k (by decide), sI_k (by decide), sI_s]
  refine v_copy (n := 49) (sp := 0) (dp := 0) (k := l) l_X0_45 ac_nat ac_sta ini_J10 L2.c0 L.c0 ⟨by decide, rfl⟩ ⟨by decide, rfl⟩ ⟨nI_nlt0 (by omega), nI_clamp (by omega)⟩ ⟨by omega, by omega⟩ ⟨rfl, rfl⟩ (l8 rfl) dX0_become_46 rfl ?_
  refine v_aload_n (n := 50) dX0_become_49 rfl rfl rfl ?_
  refine v_getR (n := 53) f_X0_15 rfl L2.s L2.g1 dX0_become_50 rfl ?_
  refine v_iconst (n := 54) (v := 0) dX0_become_53 c_0 rfl ?_
  refine v_aload_n (n := 55) dX0_become_54 rfl rfl rfl ?_
  refine v_getR (n := 58) f_X0_15 rfl L.s L.g1 dX0_become_55 rfl ?_
  refine v_iconst (n := 59) (v := 0) dX0_become_58 c_0 rfl ?_
  refine v_aload_n (n := 60) dX0_become_59 rfl rfl rfl ?_
  refine v_getI (n := 63) f_X0_21 rfl L.s dX0_become_60 rfl ?_
  rw [cpyI_ne (by omega), sI_k (by decide), sI_k (by decide), sI_k (by decide), sI_s]
  refine v_copy (n := 66) (sp := 0) (dp := 0) (k := l) l_X0_45 ac_nat ac_sta ini_J10 L2.c1 L.c1 ⟨by decide, rfl⟩ ⟨by decide, rfl⟩ ⟨nI_nlt0 (by omega), nI_clamp (by omega)⟩ ⟨by omega, by omega⟩ ⟨rfl, rfl⟩ (l8 rfl) dX0_become_63 rfl ?_
  refine v_aload_n (n := 67) dX0_become_66 rfl rfl rfl ?_
  refine v_getR (n := 70) f_X0_18 rfl L2.s L2.g2 dX0_become_67 rfl ?_
  refine v_iconst (n := 71) (v := 0) dX0_become_70 c_0 rfl ?_
  refine v_aload_n (n := 72) dX0_become_71 rfl rfl rfl ?_
  refine v_getR (n := 75) f_X0_18 rfl L.s L.g2 dX0_become_72 rfl ?_
  refine v_iconst (n := 76) (v := 0) dX0_become_75 c_0 rfl ?_
  refine v_bipush (n := 78) (v := 6) dX0_become_76 b_6 rfl ?_
  refine v_copy (n := 81) (sp := 0) (dp := 0) (k := 6) l_X0_45 ac_nat ac_sta ini_J10 L2.c2 L.c2 ⟨by decide, rfl⟩ ⟨by decide, rfl⟩ ⟨by decide, rfl⟩ ⟨by omega, by omega⟩ ⟨rfl, rfl⟩ (l8 rfl) dX0_become_78 rfl ?_
  refine v_vret rfl ⟨rfl, rfl, ⟨⟨?_, ?_, ?_, ?_⟩, fun i hi => ⟨?_, ?_⟩, fun t ht => ?_⟩, fun a ha => ?_⟩ ⟨l8 rfl, l8 rfl⟩ dX0_become_81
  · rw [cpyI_ne (by omega), cpyI_ne (by omega), cpyI_ne (by omega), sI_k (by decide), sI_k (by decide), sI_k (by decide), sI_s]
  · rw [cpyI_ne (by omega), cpyI_ne (by omega), cpyI_ne (by omega), sI_k (by decide), sI_k (by decide), sI_s]
  · rw [cpyI_ne (by omega), cpyI_ne (by omega), cpyI_ne (by omega), sI_k (by decide), sI_s]
  · rw [cpyI_ne (by omega), cpyI_ne (by omega), cpyI_ne (by omega), sI_s]
  · rw [cpyI_ne (by omega), cpyI_ne (by omega), cpy_0 hi, sI_o (by omega), sI_o (by omega), sI_o (by omega), sI_o (by omega)]; exact (h.2.1 i hi).1
  · rw [cpyI_ne (by omega), cpy_0 hi, cpyI_ne (by omega), sI_o (by omega), sI_o (by omega), sI_o (by omega), sI_o (by omega)]; exact (h.2.1 i hi).2
  · rw [cpy_0 ht, cpyI_ne (by omega), cpyI_ne (by omega), sI_o (by omega), sI_o (by omega), sI_o (by omega), sI_o (by omega)]; exact h.2.2 t ht
  · unfold blk at ha; rw [cpyI_ne (by omega), cpyI_ne (by omega), cpyI_ne (by omega), setI_ne (by omega), setI_ne (by omega), setI_ne (by omega), setI_ne (by omega)]

