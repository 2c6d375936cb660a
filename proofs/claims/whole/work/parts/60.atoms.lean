/-! ===== the class's Reader: the key, the atoms ===== -/
def keI (t : Ar) (s : TS) : Int32 := if keyF t s < 3 then nI (keyF t s) else -1
theorem key_no {t : Ar} {s : TS} (h : ¬ (s.1 = 1 ∧ s.2.2 - s.2.1 = 4)) : keI t s = -1 := by
  have : keyF t s = 3 := if_neg h
  rw [keI, this]; rfl

set_option maxRecDepth 100000 in
set_option maxHeartbeats 1000000 in
theorem l_X4_keyAtHand {ro : Ro} {S : St} {I : In} {a b n w : Nat} {t : Ar} {s : TS} {Q : Option Value → St → In → Prop} (L : LayQ S a b) (h5 : I a 5 = nI n) (hn : n ≤ 96) (ht : I b = t) (hT : TkC I a s) (hw : TW t n s) (h4 : s.2.2 - s.2.1 = 4) (hw3 : w < 3) (kk : V RX4 cX4_keyAtHand 4 (some .int) "keyAtHand" ro (rmD 4 0 0) (QM 0 0 Q) 0 0 79 [.ref a, .int (nI w), .int (bi (mtF t s.2.1 w 4)), JJ] [] S I) : ∀ j k, k ≤ 4 → 4 < k + j → V RX4 cX4_keyAtHand 4 (some .int) "keyAtHand" ro (rmD 4 0 0) (QM 0 0 Q) 0 0 34 [.ref a, .int (nI w), .int (bi (mtF t s.2.1 w k)), .int (nI k)] [] S I := by
  intro j
  induction j with
  | zero => intro k hk hj; exact absurd hj (by omega)
  | succ j ih =>
    intro k hk hj
    refine v_iload_n (n := 35) dX4_keyAtHand_34 rfl rfl rfl ?_
    refine v_iconst (n := 36) (v := 4) dX4_keyAtHand_35 c_4 rfl ?_
    refine v_icmp_ge (n := 39) (tgt := 79) dX4_keyAtHand_36 (by decide) rfl (fun hq36 => ?_) (fun hq36 => ?_)
    · have hk4 : k = 4 := Nat.le_antisymm hk (nI_4 hq36 (by omega))
      refine v_drop 3 (al' := [.ref a, .int (nI w), .int (bi (mtF t s.2.1 w k)), JJ]) rfl ?_
      rw [hk4]
      exact kk
    · have hlt := nI_n4 hq36 (by omega)
      refine v_iload_n (n := 40) dX4_keyAtHand_39 rfl rfl rfl ?_
      refine v_if_eq (n := 43) (tgt := 71) dX4_keyAtHand_40 (by decide) rfl (fun hq40 => ?_) (fun hq40 => ?_)
      · refine v_iconst (n := 72) (v := 0) dX4_keyAtHand_71 c_0 rfl ?_
        refine v_istore_n (n := 73) (al' := [.ref a, .int (nI w), .int 0, .int (nI k)]) dX4_keyAtHand_72 rfl rfl rfl rfl ?_
        refine v_iinc (n := 76) (v := (nI k) + 1) (al' := [.ref a, .int (nI w), .int 0, .int ((nI k) + 1)]) dX4_keyAtHand_73 rfl (by rw [c_1]) rfl rfl rfl ?_
        refine v_goto (tgt := 34) dX4_keyAtHand_76 (by decide) ?_
        rw [nI_1, show Value.int 0 = Value.int (bi (mtF t s.2.1 w (k + 1))) from by rw [mtF, bi_0.mp hq40]; rfl]
        exact ih (k + 1) hlt (by omega)
      · refine v_aload_n (n := 44) dX4_keyAtHand_43 rfl rfl rfl ?_
        refine v_getR (n := 47) f_X4_25 rfl L.s L.g4 dX4_keyAtHand_44 rfl ?_
        refine v_aload_n (n := 48) dX4_keyAtHand_47 rfl rfl rfl ?_
        refine v_getI (n := 51) f_X4_34 rfl L.s dX4_keyAtHand_48 rfl ?_
        rw [hT.2.1]
        refine v_iload_n (n := 52) dX4_keyAtHand_51 rfl rfl rfl ?_
        refine v_iadd (n := 53) dX4_keyAtHand_52 rfl ?_
        refine v_iald (n := 54) (j := s.2.1 + k) L.c4 (ix_of (nI_add _ _) (by have := hw.2.1; omega) (by decide)) dX4_keyAtHand_53 rfl ?_
        rw [ht]
        refine v_ldcS (n := 56) (i := 0) (by decide) ⟨rfl, rfl⟩ dX4_keyAtHand_54 rfl ?_
        refine v_iconst (n := 57) (v := 4) dX4_keyAtHand_56 c_4 rfl ?_
        refine v_iload_n (n := 58) dX4_keyAtHand_57 rfl rfl rfl ?_
        refine v_imul (n := 59) dX4_keyAtHand_58 rfl ?_
        refine v_iload_n (n := 60) dX4_keyAtHand_59 rfl rfl rfl ?_
        refine v_iadd (n := 61) dX4_keyAtHand_60 rfl ?_
        refine v_tp (y := nI (4 * w + k)) (by rw [show (4 : Int32) = nI 4 from rfl, pk_mul, nI_add]) ?_
        refine v_callT (n := 64) (i := 0) mc_J0_charAt_5068e l_X4_81 iv_J0_charAt_5068e se_J0_charAt_5068e (by decide) rfl (k_charAt (by omega)) ⟨rfl, rfl⟩ (l8 rfl) ⟨l8 rfl, l8 rfl⟩ rfl rfl (l8 rfl) dX4_keyAtHand_61 rfl ?_
        rintro _ _ _ ⟨rfl, hS9, hI9⟩
        replace hS9 := hS9.symm
        subst hS9
        replace hI9 := hI9.symm
        subst hI9
        refine v_icmp_ne (n := 67) (tgt := 71) dX4_keyAtHand_64 (by decide) rfl (fun hq64 => ?_) (fun hq64 => ?_)
        · refine v_iconst (n := 72) (v := 0) dX4_keyAtHand_71 c_0 rfl ?_
          refine v_istore_n (n := 73) (al' := [.ref a, .int (nI w), .int 0, .int (nI k)]) dX4_keyAtHand_72 rfl rfl rfl rfl ?_
          refine v_iinc (n := 76) (v := (nI k) + 1) (al' := [.ref a, .int (nI w), .int 0, .int ((nI k) + 1)]) dX4_keyAtHand_73 rfl (by rw [c_1]) rfl rfl rfl ?_
          refine v_goto (tgt := 34) dX4_keyAtHand_76 (by decide) ?_
          rw [nI_1, show Value.int 0 = Value.int (bi (mtF t s.2.1 w (k + 1))) from by rw [mtF, bi_n0.mp hq40, decide_eq_false hq64]; rfl]
          exact ih (k + 1) hlt (by omega)
        · refine v_iconst (n := 68) (v := 1) dX4_keyAtHand_67 c_1 rfl ?_
          refine v_goto (tgt := 72) dX4_keyAtHand_68 (by decide) ?_
          refine v_istore_n (n := 73) (al' := [.ref a, .int (nI w), .int 1, .int (nI k)]) dX4_keyAtHand_72 rfl rfl rfl rfl ?_
          refine v_iinc (n := 76) (v := (nI k) + 1) (al' := [.ref a, .int (nI w), .int 1, .int ((nI k) + 1)]) dX4_keyAtHand_73 rfl (by rw [c_1]) rfl rfl rfl ?_
          refine v_goto (tgt := 34) dX4_keyAtHand_76 (by decide) ?_
          rw [nI_1, show Value.int 1 = Value.int (bi (mtF t s.2.1 w (k + 1))) from by rw [mtF, bi_n0.mp hq40, decide_eq_true hq64]; rfl]
          exact ih (k + 1) hlt (by omega)

set_option maxRecDepth 100000 in
set_option maxHeartbeats 1000000 in
theorem s_X4_keyAtHand {ro : Ro} {S : St} {I : In} {a b n w : Nat} {t : Ar} {s : TS} {Q : Option Value → St → In → Prop} (L : LayQ S a b) (h5 : I a 5 = nI n) (hn : n ≤ 96) (ht : I b = t) (hT : TkC I a s) (hw : TW t n s) (h4 : s.2.2 - s.2.1 = 4) (hw3 : w < 3) (kk : V RX4 cX4_keyAtHand 4 (some .int) "keyAtHand" ro (rmD 4 0 0) (QM 0 0 Q) 0 0 79 [.ref a, .int (nI w), .int (bi (mtF t s.2.1 w 4)), JJ] [] S I) : V RX4 cX4_keyAtHand 4 (some .int) "keyAtHand" ro (rmD 4 0 0) (QM 0 0 Q) 0 0 25 [.ref a, .int (nI w), JJ, JJ] [] S I := by
  refine v_iload_n (n := 26) dX4_keyAtHand_25 rfl rfl rfl ?_
  refine v_iconst (n := 27) (v := 3) dX4_keyAtHand_26 c_3 rfl ?_
  refine v_icmp_ge (n := 30) (tgt := 91) dX4_keyAtHand_27 (by decide) rfl (fun hq27 => ?_) (fun hq27 => ?_)
  · exact absurd (le_out (a := 3) hq27 (by decide) (by omega)) (by omega)
  · refine v_iconst (n := 31) (v := 1) dX4_keyAtHand_30 c_1 rfl ?_
    refine v_istore_n (n := 32) (al' := [.ref a, .int (nI w), .int 1, JJ]) dX4_keyAtHand_31 rfl rfl rfl rfl ?_
    refine v_iconst (n := 33) (v := 0) dX4_keyAtHand_32 c_0 rfl ?_
    refine v_istore_n (n := 34) (al' := [.ref a, .int (nI w), .int 1, .int 0]) dX4_keyAtHand_33 rfl rfl rfl rfl ?_
    exact l_X4_keyAtHand L h5 hn ht hT hw h4 hw3 kk 5 0 (by decide) (by decide)

set_option maxRecDepth 100000 in
set_option maxHeartbeats 1000000 in
theorem b_X4_keyAtHand {ro : Ro} {S : St} {I : In} {a w : Nat} {t : Ar} {s : TS} {c : Bool} (hw3 : w < 3) (kt : c = true → keyF t s = w) (kf : c = false → V RX4 cX4_keyAtHand 4 (some .int) "keyAtHand" ro (rmD 4 0 0) (QM 0 0 (RI (keI t s) S I)) 0 0 25 [.ref a, .int (nI (w + 1)), JJ, JJ] [] S I) : V RX4 cX4_keyAtHand 4 (some .int) "keyAtHand" ro (rmD 4 0 0) (QM 0 0 (RI (keI t s) S I)) 0 0 79 [.ref a, .int (nI w), .int (bi c), JJ] [] S I := by
  refine v_iload_n (n := 80) dX4_keyAtHand_79 rfl rfl rfl ?_
  refine v_if_eq (n := 83) (tgt := 85) dX4_keyAtHand_80 (by decide) rfl (fun hq80 => ?_) (fun hq80 => ?_)
  · refine v_iinc (n := 88) (v := (nI w) + 1) (al' := [.ref a, .int ((nI w) + 1), .int (bi c), JJ]) dX4_keyAtHand_85 rfl (by rw [c_1]) rfl rfl rfl ?_
    refine v_goto (tgt := 25) dX4_keyAtHand_88 (by decide) ?_
    refine v_drop 2 (al' := [.ref a, .int ((nI w) + 1), JJ, JJ]) rfl ?_
    rw [nI_1]
    exact kf (bi_0.mp hq80)
  · refine v_iload_n (n := 84) dX4_keyAtHand_83 rfl rfl rfl ?_
    exact v_rI rfl (by rw [keI, kt (bi_n0.mp hq80), if_pos hw3]) rfl rfl ⟨l8 rfl, l8 rfl⟩ dX4_keyAtHand_84

set_option maxRecDepth 100000 in
set_option maxHeartbeats 1000000 in
theorem k_X4_keyAtHand {ro : Ro} {S : St} {I : In} {a b n : Nat} {t : Ar} {s : TS} (L : LayQ S a b) (h5 : I a 5 = nI n) (hn : n ≤ 96) (ht : I b = t) (hT : TkC I a s) (hw : TW t n s) : Ok mX4_keyAtHand ro 4 0 0 [.ref a] S I (RI (keI t s) S I) := by
  refine ok_of (al := [.ref a, JJ, JJ, JJ]) (by decide) (l8 rfl) rfl ?_
  refine v_aload_n (n := 1) dX4_keyAtHand_0 rfl rfl rfl ?_
  refine v_getI (n := 4) f_X4_31 rfl L.s dX4_keyAtHand_1 rfl ?_
  rw [hT.1]
  refine v_iconst (n := 5) (v := 1) dX4_keyAtHand_4 c_1 rfl ?_
  refine v_icmp_ne (n := 8) (tgt := 21) dX4_keyAtHand_5 (by decide) rfl (fun hq5 => ?_) (fun hq5 => ?_)
  · refine v_iconst (n := 22) (v := (-1)) dX4_keyAtHand_21 c_m1 rfl ?_
    exact v_rI rfl (by rw [key_no (fun z => hq5 (by rw [z.1]; rfl))]) rfl rfl ⟨l8 rfl, l8 rfl⟩ dX4_keyAtHand_22
  · refine v_aload_n (n := 9) dX4_keyAtHand_8 rfl rfl rfl ?_
    refine v_getI (n := 12) f_X4_37 rfl L.s dX4_keyAtHand_9 rfl ?_
    rw [hT.2.2]
    refine v_aload_n (n := 13) dX4_keyAtHand_12 rfl rfl rfl ?_
    refine v_getI (n := 16) f_X4_34 rfl L.s dX4_keyAtHand_13 rfl ?_
    rw [hT.2.1]
    refine v_isub (n := 17) dX4_keyAtHand_16 rfl ?_
    rw [pk_sub hw.1]
    refine v_iconst (n := 18) (v := 4) dX4_keyAtHand_17 c_4 rfl ?_
    refine v_icmp_eq (n := 21) (tgt := 23) dX4_keyAtHand_18 (by decide) rfl (fun hq18 => ?_) (fun hq18 => ?_)
    · refine v_iconst (n := 24) (v := 0) dX4_keyAtHand_23 c_0 rfl ?_
      refine v_istore_n (n := 25) (al' := [.ref a, .int 0, JJ, JJ]) dX4_keyAtHand_24 rfl rfl rfl rfl ?_
      have hs4 := hw.2.2.1
      have h1 := (nI_eq (b := 1) (by omega) (by decide)).mp hq5
      have h4 := (nI_eq (b := 4) (by have := hw.2.1; omega) (by decide)).mp hq18
      refine s_X4_keyAtHand (w := 0) L h5 hn ht hT hw h4 (by decide) (b_X4_keyAtHand (w := 0) (by decide) (fun q => ?_) (fun e0 => ?_))
      · rw [keyF, if_pos ⟨h1, h4⟩, if_pos q]
      refine s_X4_keyAtHand (w := 1) L h5 hn ht hT hw h4 (by decide) (b_X4_keyAtHand (w := 1) (by decide) (fun q => ?_) (fun e1 => ?_))
      · rw [keyF, if_pos ⟨h1, h4⟩, if_neg (by rw [e0]; decide), if_pos q]
      refine s_X4_keyAtHand (w := 2) L h5 hn ht hT hw h4 (by decide) (b_X4_keyAtHand (w := 2) (by decide) (fun q => ?_) (fun e2 => ?_))
      · rw [keyF, if_pos ⟨h1, h4⟩, if_neg (by rw [e0]; decide), if_neg (by rw [e1]; decide), if_pos q]
      have k3 : keyF t s = 3 := by rw [keyF, if_pos ⟨h1, h4⟩, if_neg (by rw [e0]; decide), if_neg (by rw [e1]; decide), if_neg (by rw [e2]; decide)]
      refine v_iload_n (n := 26) dX4_keyAtHand_25 rfl rfl rfl ?_
      refine v_iconst (n := 27) (v := 3) dX4_keyAtHand_26 c_3 rfl ?_
      refine v_icmp_ge (n := 30) (tgt := 91) dX4_keyAtHand_27 (by decide) rfl (fun hq27 => ?_) (fun hq27 => ?_)
      · refine v_iconst (n := 92) (v := (-1)) dX4_keyAtHand_91 c_m1 rfl ?_
        exact v_rI rfl (by rw [keI, if_neg (by omega)]) rfl rfl ⟨l8 rfl, l8 rfl⟩ dX4_keyAtHand_92
      · exact absurd (by decide) hq27
    · refine v_iconst (n := 22) (v := (-1)) dX4_keyAtHand_21 c_m1 rfl ?_
      exact v_rI rfl (by rw [key_no (fun z => hq18 (by rw [z.2]; rfl))]) rfl rfl ⟨l8 rfl, l8 rfl⟩ dX4_keyAtHand_22

def atC (t : Ar) (key : Nat) (s : TS) : Int32 := if 0 ≤ atF t key s then trC key (atF t key s) else -1
theorem tr_numA {key v : Nat} (h : v < 10000) : trC key (nI v) = nI v := by
  have h1 : ¬ nI v = 10000 := fun z => absurd ((nI_eq (b := 10000) (by omega) (by decide)).mp z) (by omega)
  have h2 : ¬ nI v = 10001 := fun z => absurd ((nI_eq (b := 10001) (by omega) (by decide)).mp z) (by omega)
  rw [trC, if_neg (nI_nlt0 (by omega)), if_neg (fun z => h1 z.2), if_neg (fun z => h2 z.2)]
theorem at_num {t : Ar} {n key : Nat} {s : TS} (hw : TW t n s) (h : s.1 = 2 ∧ s.2.2 - s.2.1 ≤ 4) : atC t key s = numV t s.2.1 (s.2.2 - s.2.1) := by
  rw [atC, if_pos (at_2p hw h), at_2 h]
  obtain ⟨v, hv, e⟩ := num_nI (t := t) (p := s.2.1) (n := s.2.2 - s.2.1) (fun j h1 h2 => hw.2.2.2.2 h.1 j h1 (by omega)) (s.2.2 - s.2.1) (Nat.le_refl _) h.2
  have := pow_le h.2
  rw [e, tr_numA (by omega)]
theorem ix_2 {c x y : Int32} : ixB c [x, y] 0 = if x = c then 0 else if y = c then 1 else -1 := rfl
theorem ix_3 {c x y z : Int32} : ixB c [x, y, z] 0 = if x = c then 0 else if y = c then 1 else if z = c then 2 else -1 := rfl
theorem nm_tr {key : Nat} (hk : key < 3) (c : Int32) : (ixB c (strBy.getD (key + 1) []) 0 < 0 ↔ ¬ 0 ≤ nmK key c) ∧ (0 ≤ nmK key c → 10000 + ixB c (strBy.getD (key + 1) []) 0 = trC key (10000 + nmK key c)) := by
  rcases (show key = 0 ∨ key = 1 ∨ key = 2 by omega) with rfl | rfl | rfl
  · rw [show strBy.getD (0 + 1) [] = [119, 108] from rfl, ix_2]
    by_cases h1 : c = 119
    · subst h1; decide
    · by_cases h2 : c = 108
      · subst h2; decide
      · rw [show nmK 0 c = -1 from by simp [nmK, h1, h2], if_neg (Ne.symm h1), if_neg (Ne.symm h2)]; decide
  · rw [show strBy.getD (1 + 1) [] = [119, 115, 100] from rfl, ix_3]
    by_cases h1 : c = 119
    · subst h1; decide
    · by_cases h2 : c = 115
      · subst h2; decide
      · by_cases h3 : c = 100
        · subst h3; decide
        · rw [show nmK 1 c = -1 from by simp [nmK, h1, h2, h3], if_neg (Ne.symm h1), if_neg (Ne.symm h2), if_neg (Ne.symm h3)]; decide
  · rw [show strBy.getD (2 + 1) [] = [119, 98] from rfl, ix_2]
    by_cases h1 : c = 119
    · subst h1; decide
    · by_cases h2 : c = 98
      · subst h2; decide
      · rw [show nmK 2 c = -1 from by simp [nmK, h1, h2], if_neg (Ne.symm h1), if_neg (Ne.symm h2)]; decide
theorem at_nm {t : Ar} {key : Nat} {s : TS} (hk : key < 3) (h1 : s.1 = 1) (h2 : s.2.2 - s.2.1 = 1) : atC t key s = if ixB (t s.2.1) (strBy.getD (key + 1) []) 0 < 0 then -1 else 10000 + ixB (t s.2.1) (strBy.getD (key + 1) []) 0 := by
  obtain ⟨q1, q2⟩ := nm_tr hk (t s.2.1)
  by_cases c : 0 ≤ nmK key (t s.2.1)
  · rw [if_neg (fun z => q1.mp z c), q2 c, atC, if_pos (at_1p ⟨h1, h2, c⟩), at_1 ⟨h1, h2, c⟩]
  · rw [if_pos (q1.mpr c), atC, if_neg (at_no (by omega) (fun z => c z.2.2))]
theorem at_none {t : Ar} {key : Nat} {s : TS} (h : ¬ (s.1 = 2 ∧ s.2.2 - s.2.1 ≤ 4)) (h2 : ¬ (s.1 = 1 ∧ s.2.2 - s.2.1 = 1)) : atC t key s = -1 := by
  rw [atC, if_neg (at_no h (fun z => h2 ⟨z.1, z.2.1⟩))]
set_option maxRecDepth 100000 in
set_option maxHeartbeats 1000000 in
theorem l_X4_atomAtHand {ro : Ro} {S : St} {I : In} {a b n key : Nat} {t : Ar} {s : TS} (L : LayQ S a b) (h5 : I a 5 = nI n) (hn : n ≤ 96) (ht : I b = t) (hT : TkC I a s) (hw : TW t n s) (hl : TL t s) (hk : I a 3 = nI key) (hkey : key < 3) (h24 : s.1 = 2 ∧ s.2.2 - s.2.1 ≤ 4) : ∀ j k, k ≤ s.2.2 - s.2.1 → s.2.2 - s.2.1 < k + j → V RX4 cX4_atomAtHand 4 (some .int) "atomAtHand" ro (rmD 4 0 0) (QM 0 0 (RI (atC t key s) S I)) 0 0 30 [.ref a, .int (nI (s.2.2 - s.2.1)), .int (numV t s.2.1 k), .int (nI (s.2.1 + k))] [] S I := by
  intro j
  induction j with
  | zero => intro k hk hj; exact absurd hj (by omega)
  | succ j ih =>
    intro k hk9 hj
    refine v_iload_n (n := 31) dX4_atomAtHand_30 rfl rfl rfl ?_
    refine v_aload_n (n := 32) dX4_atomAtHand_31 rfl rfl rfl ?_
    refine v_getI (n := 35) f_X4_37 rfl L.s dX4_atomAtHand_32 rfl ?_
    rw [hT.2.2]
    refine v_icmp_ge (n := 38) (tgt := 59) dX4_atomAtHand_35 (by decide) rfl (fun hq35 => ?_) (fun hq35 => ?_)
    · have hke : k = s.2.2 - s.2.1 := by have := le_out hq35 (by have := hw.2.1; have := hw.1; omega) (by have := hw.2.1; have := hw.1; omega); omega
      refine v_iload_n (n := 60) dX4_atomAtHand_59 rfl rfl rfl ?_
      exact v_rI rfl (by rw [at_num hw h24, hke]) rfl rfl ⟨l8 rfl, l8 rfl⟩ dX4_atomAtHand_60
    · have hlt := nle_in hq35 (by have := hw.2.1; have := hw.1; omega) (by have := hw.2.1; have := hw.1; omega)
      refine v_iload_n (n := 39) dX4_atomAtHand_38 rfl rfl rfl ?_
      refine v_bipush (n := 41) (v := 10) dX4_atomAtHand_39 b_10 rfl ?_
      refine v_imul (n := 42) dX4_atomAtHand_41 rfl ?_
      refine v_aload_n (n := 43) dX4_atomAtHand_42 rfl rfl rfl ?_
      refine v_getR (n := 46) f_X4_25 rfl L.s L.g4 dX4_atomAtHand_43 rfl ?_
      refine v_iload_n (n := 47) dX4_atomAtHand_46 rfl rfl rfl ?_
      refine v_iald (n := 48) (j := s.2.1 + k) L.c4 (ix_nI (by have := hw.2.1; omega) (by decide)) dX4_atomAtHand_47 rfl ?_
      rw [ht]
      refine v_iadd (n := 49) dX4_atomAtHand_48 rfl ?_
      refine v_bipush (n := 51) (v := 48) dX4_atomAtHand_49 b_48 rfl ?_
      refine v_isub (n := 52) dX4_atomAtHand_51 rfl ?_
      refine v_istore_n (n := 53) (al' := [.ref a, .int (nI (s.2.2 - s.2.1)), .int ((((numV t s.2.1 k) * 10) + (t (s.2.1 + k))) - 48), .int (nI (s.2.1 + k))]) dX4_atomAtHand_52 rfl rfl rfl rfl ?_
      refine v_iinc (n := 56) (v := (nI (s.2.1 + k)) + 1) (al' := [.ref a, .int (nI (s.2.2 - s.2.1)), .int ((((numV t s.2.1 k) * 10) + (t (s.2.1 + k))) - 48), .int ((nI (s.2.1 + k)) + 1)]) dX4_atomAtHand_53 rfl (by rw [c_1]) rfl rfl rfl ?_
      refine v_goto (tgt := 30) dX4_atomAtHand_56 (by decide) ?_
      rw [nI_1]
      exact ih (k + 1) (by omega) (by omega)

set_option maxRecDepth 100000 in
set_option maxHeartbeats 1000000 in
theorem k_X4_atomAtHand {ro : Ro} {S : St} {I : In} {a b n key : Nat} {t : Ar} {s : TS} (L : LayQ S a b) (h5 : I a 5 = nI n) (hn : n ≤ 96) (ht : I b = t) (hT : TkC I a s) (hw : TW t n s) (hl : TL t s) (hk : I a 3 = nI key) (hkey : key < 3) : Ok mX4_atomAtHand ro 4 0 0 [.ref a] S I (RI (atC t key s) S I) := by
  have hs4 := hw.2.2.1
  have hsn := hw.2.1
  have hsf := hw.1
  refine ok_of (al := [.ref a, JJ, JJ, JJ]) (by decide) (l8 rfl) rfl ?_
  refine v_aload_n (n := 1) dX4_atomAtHand_0 rfl rfl rfl ?_
  refine v_getI (n := 4) f_X4_37 rfl L.s dX4_atomAtHand_1 rfl ?_
  rw [hT.2.2]
  refine v_aload_n (n := 5) dX4_atomAtHand_4 rfl rfl rfl ?_
  refine v_getI (n := 8) f_X4_34 rfl L.s dX4_atomAtHand_5 rfl ?_
  rw [hT.2.1]
  refine v_isub (n := 9) dX4_atomAtHand_8 rfl ?_
  rw [pk_sub hw.1]
  refine v_istore_n (n := 10) (al' := [.ref a, .int (nI (s.2.2 - s.2.1)), JJ, JJ]) dX4_atomAtHand_9 rfl rfl rfl rfl ?_
  refine v_aload_n (n := 11) dX4_atomAtHand_10 rfl rfl rfl ?_
  refine v_getI (n := 14) f_X4_31 rfl L.s dX4_atomAtHand_11 rfl ?_
  rw [hT.1]
  refine v_iconst (n := 15) (v := 2) dX4_atomAtHand_14 c_2 rfl ?_
  refine v_icmp_ne (n := 18) (tgt := 61) dX4_atomAtHand_15 (by decide) rfl (fun hq15 => ?_) (fun hq15 => ?_)
  · refine v_aload_n (n := 62) dX4_atomAtHand_61 rfl rfl rfl ?_
    refine v_getI (n := 65) f_X4_31 rfl L.s dX4_atomAtHand_62 rfl ?_
    rw [hT.1]
    refine v_iconst (n := 66) (v := 1) dX4_atomAtHand_65 c_1 rfl ?_
    refine v_icmp_ne (n := 69) (tgt := 104) dX4_atomAtHand_66 (by decide) rfl (fun hq66 => ?_) (fun hq66 => ?_)
    · refine v_iconst (n := 105) (v := (-1)) dX4_atomAtHand_104 c_m1 rfl ?_
      exact v_rI rfl (by rw [at_none (fun z => hq15 (by rw [z.1]; rfl)) (fun z => hq66 (by rw [z.1]; rfl))]) rfl rfl ⟨l8 rfl, l8 rfl⟩ dX4_atomAtHand_105
    · refine v_iload_n (n := 70) dX4_atomAtHand_69 rfl rfl rfl ?_
      refine v_iconst (n := 71) (v := 1) dX4_atomAtHand_70 c_1 rfl ?_
      refine v_icmp_ne (n := 74) (tgt := 104) dX4_atomAtHand_71 (by decide) rfl (fun hq71 => ?_) (fun hq71 => ?_)
      · refine v_iconst (n := 105) (v := (-1)) dX4_atomAtHand_104 c_m1 rfl ?_
        exact v_rI rfl (by rw [at_none (fun z => hq15 (by rw [z.1]; rfl)) (fun z => hq71 (by rw [z.2]; rfl))]) rfl rfl ⟨l8 rfl, l8 rfl⟩ dX4_atomAtHand_105
      · have h1 := (nI_eq (b := 1) (by omega) (by decide)).mp hq66
        have h2 := (nI_eq (b := 1) (by omega) (by decide)).mp hq71
        have hlo : lowL (t s.2.1) := srt_1.mp (hl h1)
        refine v_aload_n (n := 75) dX4_atomAtHand_74 rfl rfl rfl ?_
        refine v_getI (n := 78) f_X4_22 rfl L.s dX4_atomAtHand_75 rfl ?_
        rw [hk]
        refine v_cSr (n := 81) mc_X4_names l_X4_111 sta_X4_names (k_X4_names hkey) ⟨rfl, rfl⟩ (l8 rfl) ⟨l8 rfl, l8 rfl⟩ rfl rfl (l8 rfl) dX4_atomAtHand_78 rfl ?_
        refine v_aload_n (n := 82) dX4_atomAtHand_81 rfl rfl rfl ?_
        refine v_cVi (n := 85) (x := (if s.2.1 < n then t s.2.1 else 0)) mc_X4_byteAtHand l_X4_76 iv_X4_byteAtHand se_X4_byteAtHand (ci := 3) ⟨by decide, rfl⟩ L.s (k_X4_byteAtHand L h5 hn ht hT hw) ⟨rfl, rfl⟩ (l8 rfl) ⟨l8 rfl, l8 rfl⟩ rfl rfl (l8 rfl) dX4_atomAtHand_82 rfl ?_
        refine v_i2c (n := 86) dX4_atomAtHand_85 rfl ?_
        rw [if_pos (hw.fL (by omega)), (low_b hlo).2.2.2]
        refine v_callT (n := 89) (i := (key + 1)) mc_J0_indexOf_0f7a4 l_X4_115 iv_J0_indexOf_0f7a4 se_J0_indexOf_0f7a4 (by omega) rfl (k_indexOf (by omega) hlo) ⟨rfl, rfl⟩ (l8 rfl) ⟨l8 rfl, l8 rfl⟩ rfl rfl (l8 rfl) dX4_atomAtHand_86 rfl ?_
        rintro _ _ _ ⟨rfl, hS9, hI9⟩
        replace hS9 := hS9.symm
        subst hS9
        replace hI9 := hI9.symm
        subst hI9
        refine v_istore_n (n := 90) (al' := [.ref a, .int (nI (s.2.2 - s.2.1)), .int (ixB (t s.2.1) (strBy.getD (key + 1) []) 0), JJ]) dX4_atomAtHand_89 rfl rfl rfl rfl ?_
        refine v_iload_n (n := 91) dX4_atomAtHand_90 rfl rfl rfl ?_
        refine v_if_ge (n := 94) (tgt := 98) dX4_atomAtHand_91 (by decide) rfl (fun hq91 => ?_) (fun hq91 => ?_)
        · refine v_sipush (n := 101) (v := 10000) dX4_atomAtHand_98 s_10000 rfl ?_
          refine v_iload_n (n := 102) dX4_atomAtHand_101 rfl rfl rfl ?_
          refine v_iadd (n := 103) dX4_atomAtHand_102 rfl ?_
          exact v_rI rfl (by rw [at_nm hkey h1 h2, if_neg (Int32.not_lt.mpr hq91)]) rfl rfl ⟨l8 rfl, l8 rfl⟩ dX4_atomAtHand_103
        · refine v_iconst (n := 95) (v := (-1)) dX4_atomAtHand_94 c_m1 rfl ?_
          refine v_goto (tgt := 103) dX4_atomAtHand_95 (by decide) ?_
          exact v_rI rfl (by rw [at_nm hkey h1 h2, if_pos (Int32.not_le.mp hq91)]) rfl rfl ⟨l8 rfl, l8 rfl⟩ dX4_atomAtHand_103
  · refine v_iload_n (n := 19) dX4_atomAtHand_18 rfl rfl rfl ?_
    refine v_iconst (n := 20) (v := 4) dX4_atomAtHand_19 c_4 rfl ?_
    refine v_icmp_gt (n := 23) (tgt := 61) dX4_atomAtHand_20 (by decide) rfl (fun hq20 => ?_) (fun hq20 => ?_)
    · refine v_aload_n (n := 62) dX4_atomAtHand_61 rfl rfl rfl ?_
      refine v_getI (n := 65) f_X4_31 rfl L.s dX4_atomAtHand_62 rfl ?_
      rw [hT.1]
      refine v_iconst (n := 66) (v := 1) dX4_atomAtHand_65 c_1 rfl ?_
      refine v_icmp_ne (n := 69) (tgt := 104) dX4_atomAtHand_66 (by decide) rfl (fun hq66 => ?_) (fun hq66 => ?_)
      · refine v_iconst (n := 105) (v := (-1)) dX4_atomAtHand_104 c_m1 rfl ?_
        exact v_rI rfl (by rw [at_none (fun z => absurd (nI_gt4 (Int32.not_le.mpr hq20) (by omega)) (by omega)) (fun z => hq66 (by rw [z.1]; rfl))]) rfl rfl ⟨l8 rfl, l8 rfl⟩ dX4_atomAtHand_105
      · refine v_iload_n (n := 70) dX4_atomAtHand_69 rfl rfl rfl ?_
        refine v_iconst (n := 71) (v := 1) dX4_atomAtHand_70 c_1 rfl ?_
        refine v_icmp_ne (n := 74) (tgt := 104) dX4_atomAtHand_71 (by decide) rfl (fun hq71 => ?_) (fun hq71 => ?_)
        · refine v_iconst (n := 105) (v := (-1)) dX4_atomAtHand_104 c_m1 rfl ?_
          exact v_rI rfl (by rw [at_none (fun z => absurd (nI_gt4 (Int32.not_le.mpr hq20) (by omega)) (by omega)) (fun z => hq71 (by rw [z.2]; rfl))]) rfl rfl ⟨l8 rfl, l8 rfl⟩ dX4_atomAtHand_105
        · have h1 := (nI_eq (b := 1) (by omega) (by decide)).mp hq66
          have h2 := (nI_eq (b := 1) (by omega) (by decide)).mp hq71
          have hlo : lowL (t s.2.1) := srt_1.mp (hl h1)
          refine v_aload_n (n := 75) dX4_atomAtHand_74 rfl rfl rfl ?_
          refine v_getI (n := 78) f_X4_22 rfl L.s dX4_atomAtHand_75 rfl ?_
          rw [hk]
          refine v_cSr (n := 81) mc_X4_names l_X4_111 sta_X4_names (k_X4_names hkey) ⟨rfl, rfl⟩ (l8 rfl) ⟨l8 rfl, l8 rfl⟩ rfl rfl (l8 rfl) dX4_atomAtHand_78 rfl ?_
          refine v_aload_n (n := 82) dX4_atomAtHand_81 rfl rfl rfl ?_
          refine v_cVi (n := 85) (x := (if s.2.1 < n then t s.2.1 else 0)) mc_X4_byteAtHand l_X4_76 iv_X4_byteAtHand se_X4_byteAtHand (ci := 3) ⟨by decide, rfl⟩ L.s (k_X4_byteAtHand L h5 hn ht hT hw) ⟨rfl, rfl⟩ (l8 rfl) ⟨l8 rfl, l8 rfl⟩ rfl rfl (l8 rfl) dX4_atomAtHand_82 rfl ?_
          refine v_i2c (n := 86) dX4_atomAtHand_85 rfl ?_
          rw [if_pos (hw.fL (by omega)), (low_b hlo).2.2.2]
          refine v_callT (n := 89) (i := (key + 1)) mc_J0_indexOf_0f7a4 l_X4_115 iv_J0_indexOf_0f7a4 se_J0_indexOf_0f7a4 (by omega) rfl (k_indexOf (by omega) hlo) ⟨rfl, rfl⟩ (l8 rfl) ⟨l8 rfl, l8 rfl⟩ rfl rfl (l8 rfl) dX4_atomAtHand_86 rfl ?_
          rintro _ _ _ ⟨rfl, hS9, hI9⟩
          replace hS9 := hS9.symm
          subst hS9
          replace hI9 := hI9.symm
          subst hI9
          refine v_istore_n (n := 90) (al' := [.ref a, .int (nI (s.2.2 - s.2.1)), .int (ixB (t s.2.1) (strBy.getD (key + 1) []) 0), JJ]) dX4_atomAtHand_89 rfl rfl rfl rfl ?_
          refine v_iload_n (n := 91) dX4_atomAtHand_90 rfl rfl rfl ?_
          refine v_if_ge (n := 94) (tgt := 98) dX4_atomAtHand_91 (by decide) rfl (fun hq91 => ?_) (fun hq91 => ?_)
          · refine v_sipush (n := 101) (v := 10000) dX4_atomAtHand_98 s_10000 rfl ?_
            refine v_iload_n (n := 102) dX4_atomAtHand_101 rfl rfl rfl ?_
            refine v_iadd (n := 103) dX4_atomAtHand_102 rfl ?_
            exact v_rI rfl (by rw [at_nm hkey h1 h2, if_neg (Int32.not_lt.mpr hq91)]) rfl rfl ⟨l8 rfl, l8 rfl⟩ dX4_atomAtHand_103
          · refine v_iconst (n := 95) (v := (-1)) dX4_atomAtHand_94 c_m1 rfl ?_
            refine v_goto (tgt := 103) dX4_atomAtHand_95 (by decide) ?_
            exact v_rI rfl (by rw [at_nm hkey h1 h2, if_pos (Int32.not_le.mp hq91)]) rfl rfl ⟨l8 rfl, l8 rfl⟩ dX4_atomAtHand_103
    · have h24 : s.1 = 2 ∧ s.2.2 - s.2.1 ≤ 4 := ⟨(nI_eq (b := 2) (by omega) (by decide)).mp hq15, nI_le4 (Int32.not_lt.mp hq20) (by omega)⟩
      refine v_iconst (n := 24) (v := 0) dX4_atomAtHand_23 c_0 rfl ?_
      refine v_istore_n (n := 25) (al' := [.ref a, .int (nI (s.2.2 - s.2.1)), .int 0, JJ]) dX4_atomAtHand_24 rfl rfl rfl rfl ?_
      refine v_aload_n (n := 26) dX4_atomAtHand_25 rfl rfl rfl ?_
      refine v_getI (n := 29) f_X4_34 rfl L.s dX4_atomAtHand_26 rfl ?_
      rw [hT.2.1]
      refine v_istore_n (n := 30) (al' := [.ref a, .int (nI (s.2.2 - s.2.1)), .int 0, .int (nI s.2.1)]) dX4_atomAtHand_29 rfl rfl rfl rfl ?_
      exact l_X4_atomAtHand L h5 hn ht hT hw hl hk hkey h24 (s.2.2 - s.2.1 + 1) 0 (Nat.zero_le _) (by omega)

