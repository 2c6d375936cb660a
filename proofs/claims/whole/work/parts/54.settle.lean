/-! ===== the reference: names, ranks, signs that wait ===== -/
theorem sI_row {I : In} {a k : Nat} {x : Int32} : setI I a k x a = upd (I a) k x := by
  funext j
  unfold setI upd
  by_cases h : j = k
  · rw [if_pos ⟨rfl, h⟩, if_pos h]
  · rw [if_neg (fun z => h z.2), if_neg h]
theorem nk_e {key k : Nat} (hk : key < 3) (hk3 : k < 3) (h : nI key = nI k) : key = k := (nI_eq (by omega) (by omega)).mp h
def StM (I : In) (m : Nat) (ws cs : List Int32) : Prop := Stk (I (m + 10)) ws ∧ I m 20 = nI ws.length ∧ Stk (I (m + 9)) cs ∧ I m 17 = nI cs.length
def FrS (m : Nat) (I J : In) : Prop := (∀ k, k ≠ 17 → k ≠ 20 → J m k = I m k) ∧ ∀ a, a ≠ m → a ≠ m + 9 → J a = I a

set_option maxRecDepth 100000 in
set_option maxHeartbeats 1000000 in
theorem k_X11_nameOf {ro : Ro} {S : St} {I : In} {m key : Nat} {c : Int32} (L : LayM S m) (hk : I m 13 = nI key) (hkey : key < 3) : Ok mX11_nameOf ro 0 0 0 [.ref m, .int c] S I (RI (nmK key c) S I) := by
  refine ok_of (al := [.ref m, .int c]) (by decide) (l8 rfl) rfl ?_
  refine v_aload_n (n := 1) dX11_nameOf_0 rfl rfl rfl ?_
  refine v_getI (n := 4) f_X11_211 rfl L.s dX11_nameOf_1 rfl ?_
  rw [hk]
  by_cases hw4_0 : (nI key) = 0
  · refine v_lookup (tgt := 32) (off := 28) dX11_nameOf_4 (by decide) (by rw [hw4_0, t_0]; decide) (by decide) ?_
    refine v_iload_n (n := 33) dX11_nameOf_32 rfl rfl rfl ?_
    refine v_bipush (n := 35) (v := 119) dX11_nameOf_33 b_119 rfl ?_
    refine v_icmp_ne (n := 38) (tgt := 42) dX11_nameOf_35 (by decide) rfl (fun hq35 => ?_) (fun hq35 => ?_)
    · refine v_iload_n (n := 43) dX11_nameOf_42 rfl rfl rfl ?_
      refine v_bipush (n := 45) (v := 108) dX11_nameOf_43 b_108 rfl ?_
      refine v_icmp_ne (n := 48) (tgt := 52) dX11_nameOf_45 (by decide) rfl (fun hq45 => ?_) (fun hq45 => ?_)
      · refine v_iconst (n := 53) (v := (-1)) dX11_nameOf_52 c_m1 rfl ?_
        exact v_rI rfl (by rw [nmK, if_pos (nk_e (k := 0) hkey (by decide) hw4_0)]; rw [if_neg hq35, if_neg hq45]) rfl rfl ⟨l8 rfl, l8 rfl⟩ dX11_nameOf_53
      · refine v_iconst (n := 49) (v := 1) dX11_nameOf_48 c_1 rfl ?_
        refine v_goto (tgt := 53) dX11_nameOf_49 (by decide) ?_
        exact v_rI rfl (by rw [nmK, if_pos (nk_e (k := 0) hkey (by decide) hw4_0)]; rw [if_neg hq35, if_pos hq45]) rfl rfl ⟨l8 rfl, l8 rfl⟩ dX11_nameOf_53
    · refine v_iconst (n := 39) (v := 0) dX11_nameOf_38 c_0 rfl ?_
      refine v_goto (tgt := 53) dX11_nameOf_39 (by decide) ?_
      exact v_rI rfl (by rw [nmK, if_pos (nk_e (k := 0) hkey (by decide) hw4_0)]; rw [if_pos hq35]) rfl rfl ⟨l8 rfl, l8 rfl⟩ dX11_nameOf_53
  by_cases hw4_1 : (nI key) = 1
  · refine v_lookup (tgt := 54) (off := 50) dX11_nameOf_4 (by decide) (by rw [hw4_1, t_1]; decide) (by decide) ?_
    refine v_iload_n (n := 55) dX11_nameOf_54 rfl rfl rfl ?_
    refine v_bipush (n := 57) (v := 115) dX11_nameOf_55 b_115 rfl ?_
    refine v_icmp_ne (n := 60) (tgt := 64) dX11_nameOf_57 (by decide) rfl (fun hq57 => ?_) (fun hq57 => ?_)
    · refine v_iload_n (n := 65) dX11_nameOf_64 rfl rfl rfl ?_
      refine v_bipush (n := 67) (v := 119) dX11_nameOf_65 b_119 rfl ?_
      refine v_icmp_ne (n := 70) (tgt := 74) dX11_nameOf_67 (by decide) rfl (fun hq67 => ?_) (fun hq67 => ?_)
      · refine v_iload_n (n := 75) dX11_nameOf_74 rfl rfl rfl ?_
        refine v_bipush (n := 77) (v := 100) dX11_nameOf_75 b_100 rfl ?_
        refine v_icmp_ne (n := 80) (tgt := 84) dX11_nameOf_77 (by decide) rfl (fun hq77 => ?_) (fun hq77 => ?_)
        · refine v_iconst (n := 85) (v := (-1)) dX11_nameOf_84 c_m1 rfl ?_
          exact v_rI rfl (by rw [nmK, if_neg (fun z => hw4_0 (by rw [z]; rfl)), if_pos (nk_e (k := 1) hkey (by decide) hw4_1)]; rw [if_neg hq57, if_neg hq67, if_neg hq77]) rfl rfl ⟨l8 rfl, l8 rfl⟩ dX11_nameOf_85
        · refine v_iconst (n := 81) (v := 2) dX11_nameOf_80 c_2 rfl ?_
          refine v_goto (tgt := 85) dX11_nameOf_81 (by decide) ?_
          exact v_rI rfl (by rw [nmK, if_neg (fun z => hw4_0 (by rw [z]; rfl)), if_pos (nk_e (k := 1) hkey (by decide) hw4_1)]; rw [if_neg hq57, if_neg hq67, if_pos hq77]) rfl rfl ⟨l8 rfl, l8 rfl⟩ dX11_nameOf_85
      · refine v_iconst (n := 71) (v := 1) dX11_nameOf_70 c_1 rfl ?_
        refine v_goto (tgt := 85) dX11_nameOf_71 (by decide) ?_
        exact v_rI rfl (by rw [nmK, if_neg (fun z => hw4_0 (by rw [z]; rfl)), if_pos (nk_e (k := 1) hkey (by decide) hw4_1)]; rw [if_neg hq57, if_pos hq67]) rfl rfl ⟨l8 rfl, l8 rfl⟩ dX11_nameOf_85
    · refine v_iconst (n := 61) (v := 0) dX11_nameOf_60 c_0 rfl ?_
      refine v_goto (tgt := 85) dX11_nameOf_61 (by decide) ?_
      exact v_rI rfl (by rw [nmK, if_neg (fun z => hw4_0 (by rw [z]; rfl)), if_pos (nk_e (k := 1) hkey (by decide) hw4_1)]; rw [if_pos hq57]) rfl rfl ⟨l8 rfl, l8 rfl⟩ dX11_nameOf_85
  refine v_lookup (tgt := 86) (off := 82) dX11_nameOf_4 (by decide) (by simp only [Op.lookupswitch.offset_cons, if_neg (lk_ne hw4_0 t_0), if_neg (lk_ne hw4_1 t_1)]; rfl) (by decide) ?_
  refine v_iload_n (n := 87) dX11_nameOf_86 rfl rfl rfl ?_
  refine v_bipush (n := 89) (v := 119) dX11_nameOf_87 b_119 rfl ?_
  refine v_icmp_ne (n := 92) (tgt := 96) dX11_nameOf_89 (by decide) rfl (fun hq89 => ?_) (fun hq89 => ?_)
  · refine v_iload_n (n := 97) dX11_nameOf_96 rfl rfl rfl ?_
    refine v_bipush (n := 99) (v := 98) dX11_nameOf_97 b_98 rfl ?_
    refine v_icmp_ne (n := 102) (tgt := 106) dX11_nameOf_99 (by decide) rfl (fun hq99 => ?_) (fun hq99 => ?_)
    · refine v_iconst (n := 107) (v := (-1)) dX11_nameOf_106 c_m1 rfl ?_
      exact v_rI rfl (by rw [nmK, if_neg (fun z => hw4_0 (by rw [z]; rfl)), if_neg (fun z => hw4_1 (by rw [z]; rfl))]; rw [if_neg hq89, if_neg hq99]) rfl rfl ⟨l8 rfl, l8 rfl⟩ dX11_nameOf_107
    · refine v_iconst (n := 103) (v := 1) dX11_nameOf_102 c_1 rfl ?_
      refine v_goto (tgt := 107) dX11_nameOf_103 (by decide) ?_
      exact v_rI rfl (by rw [nmK, if_neg (fun z => hw4_0 (by rw [z]; rfl)), if_neg (fun z => hw4_1 (by rw [z]; rfl))]; rw [if_neg hq89, if_pos hq99]) rfl rfl ⟨l8 rfl, l8 rfl⟩ dX11_nameOf_107
  · refine v_iconst (n := 93) (v := 0) dX11_nameOf_92 c_0 rfl ?_
    refine v_goto (tgt := 107) dX11_nameOf_93 (by decide) ?_
    exact v_rI rfl (by rw [nmK, if_neg (fun z => hw4_0 (by rw [z]; rfl)), if_neg (fun z => hw4_1 (by rw [z]; rfl))]; rw [if_pos hq89]) rfl rfl ⟨l8 rfl, l8 rfl⟩ dX11_nameOf_107

set_option maxRecDepth 100000 in
set_option maxHeartbeats 1000000 in
theorem k_X11_rank {ro : Ro} {S : St} {I : In} {c : Int32} : Ok mX11_rank ro 0 0 0 [.int c] S I (RI (nI (rk c)) S I) := by
  refine ok_of (al := [.int c]) (by decide) (l8 rfl) rfl ?_
  refine v_iload_n (n := 1) dX11_rank_0 rfl rfl rfl ?_
  refine v_iconst (n := 2) (v := (-1)) dX11_rank_1 c_m1 rfl ?_
  refine v_icmp_ne (n := 5) (tgt := 9) dX11_rank_2 (by decide) rfl (fun hq2 => ?_) (fun hq2 => ?_)
  · refine v_iload_n (n := 10) dX11_rank_9 rfl rfl rfl ?_
    refine v_bipush (n := 12) (v := (-2)) dX11_rank_10 b_m2 rfl ?_
    refine v_icmp_ne (n := 15) (tgt := 19) dX11_rank_12 (by decide) rfl (fun hq12 => ?_) (fun hq12 => ?_)
    · refine v_iload_n (n := 20) dX11_rank_19 rfl rfl rfl ?_
      refine v_bipush (n := 22) (v := (-5)) dX11_rank_20 b_m5 rfl ?_
      refine v_icmp_lt (n := 25) (tgt := 29) dX11_rank_22 (by decide) rfl (fun hq22 => ?_) (fun hq22 => ?_)
      · refine v_iload_n (n := 30) dX11_rank_29 rfl rfl rfl ?_
        refine v_bipush (n := 32) (v := (-7)) dX11_rank_30 b_m7 rfl ?_
        refine v_icmp_lt (n := 35) (tgt := 39) dX11_rank_32 (by decide) rfl (fun hq32 => ?_) (fun hq32 => ?_)
        · refine v_iload_n (n := 40) dX11_rank_39 rfl rfl rfl ?_
          refine v_bipush (n := 42) (v := (-9)) dX11_rank_40 b_m9 rfl ?_
          refine v_icmp_lt (n := 45) (tgt := 49) dX11_rank_42 (by decide) rfl (fun hq42 => ?_) (fun hq42 => ?_)
          · refine v_bipush (n := 51) (v := 6) dX11_rank_49 b_6 rfl ?_
            exact v_rI rfl (by rw [rk, if_neg hq2, if_neg hq12, if_neg (Int32.not_le.mpr hq22), if_neg (Int32.not_le.mpr hq32), if_neg (Int32.not_le.mpr hq42)]; rfl) rfl rfl ⟨l8 rfl, l8 rfl⟩ dX11_rank_51
          · refine v_iconst (n := 46) (v := 5) dX11_rank_45 c_5 rfl ?_
            refine v_goto (tgt := 51) dX11_rank_46 (by decide) ?_
            exact v_rI rfl (by rw [rk, if_neg hq2, if_neg hq12, if_neg (Int32.not_le.mpr hq22), if_neg (Int32.not_le.mpr hq32), if_pos (Int32.not_lt.mp hq42)]; rfl) rfl rfl ⟨l8 rfl, l8 rfl⟩ dX11_rank_51
        · refine v_iconst (n := 36) (v := 4) dX11_rank_35 c_4 rfl ?_
          refine v_goto (tgt := 51) dX11_rank_36 (by decide) ?_
          exact v_rI rfl (by rw [rk, if_neg hq2, if_neg hq12, if_neg (Int32.not_le.mpr hq22), if_pos (Int32.not_lt.mp hq32)]; rfl) rfl rfl ⟨l8 rfl, l8 rfl⟩ dX11_rank_51
      · refine v_iconst (n := 26) (v := 3) dX11_rank_25 c_3 rfl ?_
        refine v_goto (tgt := 51) dX11_rank_26 (by decide) ?_
        exact v_rI rfl (by rw [rk, if_neg hq2, if_neg hq12, if_pos (Int32.not_lt.mp hq22)]; rfl) rfl rfl ⟨l8 rfl, l8 rfl⟩ dX11_rank_51
    · refine v_iconst (n := 16) (v := 2) dX11_rank_15 c_2 rfl ?_
      refine v_goto (tgt := 51) dX11_rank_16 (by decide) ?_
      exact v_rI rfl (by rw [rk, if_neg hq2, if_pos hq12]; rfl) rfl rfl ⟨l8 rfl, l8 rfl⟩ dX11_rank_51
  · refine v_iconst (n := 6) (v := 1) dX11_rank_5 c_1 rfl ?_
    refine v_goto (tgt := 51) dX11_rank_6 (by decide) ?_
    exact v_rI rfl (by rw [rk, if_pos hq2]; rfl) rfl rfl ⟨l8 rfl, l8 rfl⟩ dX11_rank_51

set_option maxRecDepth 100000 in
set_option maxHeartbeats 1000000 in
theorem k_X11_signHere {ro : Ro} {S : St} {I : In} {m : Nat} (L : LayM S m) : Ok mX11_signHere ro 0 0 0 [.ref m] S I (RI (if I m 10 = 3 then sgB (I m 11) else 0) S I) := by
  refine ok_of (al := [.ref m]) (by decide) (l8 rfl) rfl ?_
  refine v_aload_n (n := 1) dX11_signHere_0 rfl rfl rfl ?_
  refine v_getI (n := 4) f_X11_199 rfl L.s dX11_signHere_1 rfl ?_
  refine v_iconst (n := 5) (v := 3) dX11_signHere_4 c_3 rfl ?_
  refine v_icmp_eq (n := 8) (tgt := 10) dX11_signHere_5 (by decide) rfl (fun hq5 => ?_) (fun hq5 => ?_)
  · refine v_aload_n (n := 11) dX11_signHere_10 rfl rfl rfl ?_
    refine v_getI (n := 14) f_X11_205 rfl L.s dX11_signHere_11 rfl ?_
    by_cases hw14_0 : (I m 11) = 38
    · refine v_lookup (tgt := 98) (off := 84) dX11_signHere_14 (by decide) (by rw [hw14_0, t_38]; decide) (by decide) ?_
      refine v_bipush (n := 100) (v := (-2)) dX11_signHere_98 b_m2 rfl ?_
      exact v_rI rfl (by rw [if_pos hq5]; simp [sgB, *]) rfl rfl ⟨l8 rfl, l8 rfl⟩ dX11_signHere_100
    by_cases hw14_1 : (I m 11) = 42
    · refine v_lookup (tgt := 116) (off := 102) dX11_signHere_14 (by decide) (by rw [hw14_1, t_42]; decide) (by decide) ?_
      refine v_bipush (n := 118) (v := (-8)) dX11_signHere_116 b_m8 rfl ?_
      exact v_rI rfl (by rw [if_pos hq5]; simp [sgB, *]) rfl rfl ⟨l8 rfl, l8 rfl⟩ dX11_signHere_118
    by_cases hw14_2 : (I m 11) = 43
    · refine v_lookup (tgt := 110) (off := 96) dX11_signHere_14 (by decide) (by rw [hw14_2, t_43]; decide) (by decide) ?_
      refine v_bipush (n := 112) (v := (-6)) dX11_signHere_110 b_m6 rfl ?_
      exact v_rI rfl (by rw [if_pos hq5]; simp [sgB, *]) rfl rfl ⟨l8 rfl, l8 rfl⟩ dX11_signHere_112
    by_cases hw14_3 : (I m 11) = 45
    · refine v_lookup (tgt := 113) (off := 99) dX11_signHere_14 (by decide) (by rw [hw14_3, t_45]; decide) (by decide) ?_
      refine v_bipush (n := 115) (v := (-7)) dX11_signHere_113 b_m7 rfl ?_
      exact v_rI rfl (by rw [if_pos hq5]; simp [sgB, *]) rfl rfl ⟨l8 rfl, l8 rfl⟩ dX11_signHere_115
    by_cases hw14_4 : (I m 11) = 47
    · refine v_lookup (tgt := 119) (off := 105) dX11_signHere_14 (by decide) (by rw [hw14_4, t_47]; decide) (by decide) ?_
      refine v_bipush (n := 121) (v := (-9)) dX11_signHere_119 b_m9 rfl ?_
      exact v_rI rfl (by rw [if_pos hq5]; simp [sgB, *]) rfl rfl ⟨l8 rfl, l8 rfl⟩ dX11_signHere_121
    by_cases hw14_5 : (I m 11) = 60
    · refine v_lookup (tgt := 101) (off := 87) dX11_signHere_14 (by decide) (by rw [hw14_5, t_60]; decide) (by decide) ?_
      refine v_bipush (n := 103) (v := (-3)) dX11_signHere_101 b_m3 rfl ?_
      exact v_rI rfl (by rw [if_pos hq5]; simp [sgB, *]) rfl rfl ⟨l8 rfl, l8 rfl⟩ dX11_signHere_103
    by_cases hw14_6 : (I m 11) = 61
    · refine v_lookup (tgt := 104) (off := 90) dX11_signHere_14 (by decide) (by rw [hw14_6, t_61]; decide) (by decide) ?_
      refine v_bipush (n := 106) (v := (-4)) dX11_signHere_104 b_m4 rfl ?_
      exact v_rI rfl (by rw [if_pos hq5]; simp [sgB, *]) rfl rfl ⟨l8 rfl, l8 rfl⟩ dX11_signHere_106
    by_cases hw14_7 : (I m 11) = 62
    · refine v_lookup (tgt := 107) (off := 93) dX11_signHere_14 (by decide) (by rw [hw14_7, t_62]; decide) (by decide) ?_
      refine v_bipush (n := 109) (v := (-5)) dX11_signHere_107 b_m5 rfl ?_
      exact v_rI rfl (by rw [if_pos hq5]; simp [sgB, *]) rfl rfl ⟨l8 rfl, l8 rfl⟩ dX11_signHere_109
    by_cases hw14_8 : (I m 11) = 124
    · refine v_lookup (tgt := 96) (off := 82) dX11_signHere_14 (by decide) (by rw [hw14_8, t_124]; decide) (by decide) ?_
      refine v_iconst (n := 97) (v := (-1)) dX11_signHere_96 c_m1 rfl ?_
      exact v_rI rfl (by rw [if_pos hq5]; simp [sgB, *]) rfl rfl ⟨l8 rfl, l8 rfl⟩ dX11_signHere_97
    refine v_lookup (tgt := 122) (off := 108) dX11_signHere_14 (by decide) (by simp only [Op.lookupswitch.offset_cons, if_neg (lk_ne hw14_0 t_38), if_neg (lk_ne hw14_1 t_42), if_neg (lk_ne hw14_2 t_43), if_neg (lk_ne hw14_3 t_45), if_neg (lk_ne hw14_4 t_47), if_neg (lk_ne hw14_5 t_60), if_neg (lk_ne hw14_6 t_61), if_neg (lk_ne hw14_7 t_62), if_neg (lk_ne hw14_8 t_124)]; rfl) (by decide) ?_
    refine v_iconst (n := 123) (v := 0) dX11_signHere_122 c_0 rfl ?_
    exact v_rI rfl (by rw [if_pos hq5]; simp [sgB, *]) rfl rfl ⟨l8 rfl, l8 rfl⟩ dX11_signHere_123
  · refine v_iconst (n := 9) (v := 0) dX11_signHere_8 c_0 rfl ?_
    exact v_rI rfl (by rw [if_neg hq5]) rfl rfl ⟨l8 rfl, l8 rfl⟩ dX11_signHere_9

theorem rk_6 (c : Int32) : rk c ≤ 6 := by
  unfold rk
  repeat' split
  all_goals decide
theorem nI_rk {l : Nat} {w : Int32} (hl : l ≤ 6) (h : ¬ nI (rk w) < nI l) : l ≤ rk w := by
  have := rk_6 w
  rcases Nat.lt_or_ge (rk w) l with z | z
  · exact absurd (nI_lt z (by omega)) h
  · exact z
theorem rk_nI {l : Nat} {w : Int32} (hl : l ≤ 6) (h : nI (rk w) < nI l) : rk w < l := (nI_ltI (by have := rk_6 w; omega) (by omega)).mp h
set_option maxRecDepth 100000 in
set_option maxHeartbeats 1000000 in
theorem l_X11_settle {ro : Ro} {S : St} {I : In} {m l : Nat} (L : LayM S m) (hl : l ≤ 6) : ∀ (ws cs : List Int32) J, StM J m ws cs → ws.length + cs.length ≤ 96 → FrS m I J → V RX11 cX11_settle 2 (none) "settle" ro (rmD 1 0 0) (QM 0 0 (fun r S' I' => r = none ∧ S' = S ∧ StM I' m (stl l ws cs).1 (stl l ws cs).2 ∧ FrS m I I')) 0 0 0 [.ref m, .int (nI l)] [] S J := by
  intro ws
  induction ws with
  | nil =>
    intro cs J hs hlen hF
    obtain ⟨s1, s2, s3, s4⟩ := hs
    refine v_aload_n (n := 1) dX11_settle_0 rfl rfl rfl ?_
    refine v_getI (n := 4) f_X11_217 rfl L.s dX11_settle_1 rfl ?_
    rw [s2]
    refine v_if_le (n := 7) (tgt := 82) dX11_settle_4 (by decide) rfl (fun hq4 => ?_) (fun hq4 => ?_)
    · exact v_vret rfl ⟨rfl, rfl, ⟨s1, s2, s3, s4⟩, hF⟩ ⟨l8 rfl, l8 rfl⟩ dX11_settle_82
    · exact absurd (by decide) hq4
  | cons w ws ih =>
    intro cs J hs hlen hF
    obtain ⟨s1, s2, s3, s4⟩ := hs
    have h20 : J m 20 = nI (ws.length + 1) := s2
    have hlen2 : ws.length + 1 + cs.length ≤ 96 := hlen
    refine v_aload_n (n := 1) dX11_settle_0 rfl rfl rfl ?_
    refine v_getI (n := 4) f_X11_217 rfl L.s dX11_settle_1 rfl ?_
    rw [h20]
    refine v_if_le (n := 7) (tgt := 82) dX11_settle_4 (by decide) rfl (fun hq4 => ?_) (fun hq4 => ?_)
    · exact absurd hq4 (nI_nle (by omega) (by omega))
    · refine v_aload_n (n := 8) dX11_settle_7 rfl rfl rfl ?_
      refine v_getR (n := 11) f_X11_38 rfl L.s L.g19 dX11_settle_8 rfl ?_
      refine v_aload_n (n := 12) dX11_settle_11 rfl rfl rfl ?_
      refine v_getI (n := 15) f_X11_217 rfl L.s dX11_settle_12 rfl ?_
      rw [h20]
      refine v_iconst (n := 16) (v := 1) dX11_settle_15 c_1 rfl ?_
      refine v_isub (n := 17) dX11_settle_16 rfl ?_
      refine v_iald (n := 18) (j := ws.length) L.c19 (ix_of (nI_pred _) (by omega) (by decide)) dX11_settle_17 rfl ?_
      rw [s1.1]
      refine v_bipush (n := 20) (v := (-11)) dX11_settle_18 b_m11 rfl ?_
      refine v_icmp_eq (n := 23) (tgt := 82) dX11_settle_20 (by decide) rfl (fun hq20 => ?_) (fun hq20 => ?_)
      · rw [stl, if_neg (fun z => z.1 hq20)]
        exact v_vret rfl ⟨rfl, rfl, ⟨s1, s2, s3, s4⟩, hF⟩ ⟨l8 rfl, l8 rfl⟩ dX11_settle_82
      · refine v_aload_n (n := 24) dX11_settle_23 rfl rfl rfl ?_
        refine v_getR (n := 27) f_X11_38 rfl L.s L.g19 dX11_settle_24 rfl ?_
        refine v_aload_n (n := 28) dX11_settle_27 rfl rfl rfl ?_
        refine v_getI (n := 31) f_X11_217 rfl L.s dX11_settle_28 rfl ?_
        rw [h20]
        refine v_iconst (n := 32) (v := 1) dX11_settle_31 c_1 rfl ?_
        refine v_isub (n := 33) dX11_settle_32 rfl ?_
        refine v_iald (n := 34) (j := ws.length) L.c19 (ix_of (nI_pred _) (by omega) (by decide)) dX11_settle_33 rfl ?_
        rw [s1.1]
        refine v_cSi (n := 37) (x := (nI (rk w))) mc_X11_rank l_X11_220 sta_X11_rank k_X11_rank ⟨rfl, rfl⟩ (l8 rfl) ⟨l8 rfl, l8 rfl⟩ rfl rfl (l8 rfl) dX11_settle_34 rfl ?_
        refine v_iload_n (n := 38) dX11_settle_37 rfl rfl rfl ?_
        refine v_icmp_lt (n := 41) (tgt := 82) dX11_settle_38 (by decide) rfl (fun hq38 => ?_) (fun hq38 => ?_)
        · rw [stl, if_neg (fun z => Nat.not_lt.mpr z.2 (rk_nI hl hq38))]
          exact v_vret rfl ⟨rfl, rfl, ⟨s1, s2, s3, s4⟩, hF⟩ ⟨l8 rfl, l8 rfl⟩ dX11_settle_82
        · refine v_aload_n (n := 42) dX11_settle_41 rfl rfl rfl ?_
          refine v_dup (n := 43) dX11_settle_42 rfl rfl ?_
          refine v_getI (n := 46) f_X11_217 rfl L.s dX11_settle_43 rfl ?_
          rw [h20]
          refine v_iconst (n := 47) (v := 1) dX11_settle_46 c_1 rfl ?_
          refine v_isub (n := 48) dX11_settle_47 rfl ?_
          rw [nI_pred]
          refine v_putI (n := 51) f_X11_217 rfl (Or.inl rfl) L.s dX11_settle_48 rfl ?_
          refine v_aload_n (n := 52) dX11_settle_51 rfl rfl rfl ?_
          refine v_getR (n := 55) f_X11_35 rfl L.s L.g16 dX11_settle_52 rfl ?_
          refine v_aload_n (n := 56) dX11_settle_55 rfl rfl rfl ?_
          refine v_getI (n := 59) f_X11_223 rfl L.s dX11_settle_56 rfl ?_
          rw [sI_k (by decide), s4]
          refine v_aload_n (n := 60) dX11_settle_59 rfl rfl rfl ?_
          refine v_getR (n := 63) f_X11_38 rfl L.s L.g19 dX11_settle_60 rfl ?_
          refine v_aload_n (n := 64) dX11_settle_63 rfl rfl rfl ?_
          refine v_getI (n := 67) f_X11_217 rfl L.s dX11_settle_64 rfl ?_
          rw [sI_s]
          refine v_iald (n := 68) (j := ws.length) L.c19 (ix_nI (by omega) (by decide)) dX11_settle_67 rfl ?_
          rw [sI_o (by omega), s1.1]
          refine v_iast (n := 69) (j := cs.length) L.c16 (ix_nI (by omega) (by decide)) dX11_settle_68 rfl ?_
          refine v_aload_n (n := 70) dX11_settle_69 rfl rfl rfl ?_
          refine v_dup (n := 71) dX11_settle_70 rfl rfl ?_
          refine v_getI (n := 74) f_X11_223 rfl L.s dX11_settle_71 rfl ?_
          rw [sI_o (by omega), sI_k (by decide), s4]
          refine v_iconst (n := 75) (v := 1) dX11_settle_74 c_1 rfl ?_
          refine v_iadd (n := 76) dX11_settle_75 rfl ?_
          rw [nI_1]
          refine v_putI (n := 79) f_X11_223 rfl (Or.inl rfl) L.s dX11_settle_76 rfl ?_
          refine v_goto (tgt := 0) dX11_settle_79 (by decide) ?_
          rw [stl, if_pos ⟨hq20, nI_rk hl hq38⟩]
          refine ih (w :: cs) _ ⟨?_, ?_, ?_, sI_s⟩ (by simp only [List.length_cons] at hlen ⊢; omega) ⟨fun k h1 h2 => by rw [sI_k h1, sI_o (by omega), sI_k h2]; exact hF.1 k h1 h2, fun a h1 h2 => by rw [setI_ne h1, setI_ne h2, setI_ne h1]; exact hF.2 a h1 h2⟩
          · rw [setI_ne (by omega), setI_ne (by omega), setI_ne (by omega)]; exact s1.2
          · rw [sI_k (by decide), sI_o (by omega), sI_s]
          · rw [setI_ne (by omega), sI_row, setI_ne (by omega)]; exact s3.push

set_option maxRecDepth 100000 in
set_option maxHeartbeats 1000000 in
theorem k_X11_settle {ro : Ro} {S : St} {I : In} {m l : Nat} {ws cs : List Int32} (L : LayM S m) (hl : l ≤ 6) (hs : StM I m ws cs) (hlen : ws.length + cs.length ≤ 96) : Ok mX11_settle ro 1 0 0 [.ref m, .int (nI l)] S I (fun r S' I' => r = none ∧ S' = S ∧ StM I' m (stl l ws cs).1 (stl l ws cs).2 ∧ FrS m I I') := by
  refine ok_of (al := [.ref m, .int (nI l)]) (by decide) (l8 rfl) rfl ?_
  exact l_X11_settle L hl ws cs I hs hlen ⟨fun _ _ _ => rfl, fun _ _ _ => rfl⟩

def ntN (f : Ar) : Nat → Nat
  | 0 => 0
  | k + 1 => ntN f k + (if f k = -10 then 1 else 0)
theorem ntN_le (f : Ar) : ∀ k, ntN f k ≤ k
  | 0 => Nat.le_refl _
  | k + 1 => by rw [ntN]; have := ntN_le f k; split <;> omega
theorem nt_stk {f : Ar} : ∀ {ws : List Int32}, Stk f ws → ntN f ws.length = ntC ws
  | [], _ => rfl
  | w :: ws, h => by rw [List.length_cons, ntN, ntC, nt_stk h.2, h.1]
theorem nt_len : ∀ ws : List Int32, ntC ws ≤ ws.length
  | [] => Nat.le_refl _
  | w :: ws => by rw [ntC, List.length_cons]; have := nt_len ws; split <;> omega
set_option maxRecDepth 100000 in
set_option maxHeartbeats 1000000 in
theorem l_X11_notsOpen {ro : Ro} {S : St} {I : In} {m k : Nat} (L : LayM S m) (h20 : I m 20 = nI k) (hk : k ≤ 96) : ∀ j i, i ≤ k → k < i + j → V RX11 cX11_notsOpen 3 (some .int) "notsOpen" ro (rmD 0 0 0) (QM 0 0 (RI (nI (ntN (I (m + 10)) k)) S I)) 0 0 4 [.ref m, .int (nI (ntN (I (m + 10)) i)), .int (nI i)] [] S I := by
  intro j
  induction j with
  | zero => intro i hi hj; exact absurd hj (by omega)
  | succ j ih =>
    intro i hi hj
    refine v_iload_n (n := 5) dX11_notsOpen_4 rfl rfl rfl ?_
    refine v_aload_n (n := 6) dX11_notsOpen_5 rfl rfl rfl ?_
    refine v_getI (n := 9) f_X11_217 rfl L.s dX11_notsOpen_6 rfl ?_
    rw [h20]
    refine v_icmp_ge (n := 12) (tgt := 37) dX11_notsOpen_9 (by decide) rfl (fun hq9 => ?_) (fun hq9 => ?_)
    · obtain rfl : i = k := Nat.le_antisymm hi (le_out hq9 (by omega) (by omega))
      refine v_iload_n (n := 38) dX11_notsOpen_37 rfl rfl rfl ?_
      exact v_rI rfl rfl rfl rfl ⟨l8 rfl, l8 rfl⟩ dX11_notsOpen_38
    · have hlt := nle_in hq9 (by omega) (by omega)
      refine v_iload_n (n := 13) dX11_notsOpen_12 rfl rfl rfl ?_
      refine v_aload_n (n := 14) dX11_notsOpen_13 rfl rfl rfl ?_
      refine v_getR (n := 17) f_X11_38 rfl L.s L.g19 dX11_notsOpen_14 rfl ?_
      refine v_iload_n (n := 18) dX11_notsOpen_17 rfl rfl rfl ?_
      refine v_iald (n := 19) (j := i) L.c19 (ix_nI (by omega) (by decide)) dX11_notsOpen_18 rfl ?_
      refine v_bipush (n := 21) (v := (-10)) dX11_notsOpen_19 b_m10 rfl ?_
      refine v_icmp_ne (n := 24) (tgt := 28) dX11_notsOpen_21 (by decide) rfl (fun hq21 => ?_) (fun hq21 => ?_)
      · refine v_iconst (n := 29) (v := 0) dX11_notsOpen_28 c_0 rfl ?_
        refine v_iadd (n := 30) dX11_notsOpen_29 rfl ?_
        refine v_istore_n (n := 31) (al' := [.ref m, .int ((nI (ntN (I (m + 10)) i)) + 0), .int (nI i)]) dX11_notsOpen_30 rfl rfl rfl rfl ?_
        refine v_iinc (n := 34) (v := (nI i) + 1) (al' := [.ref m, .int ((nI (ntN (I (m + 10)) i)) + 0), .int ((nI i) + 1)]) dX11_notsOpen_31 rfl (by rw [c_1]) rfl rfl rfl ?_
        refine v_goto (tgt := 4) dX11_notsOpen_34 (by decide) ?_
        rw [show nI (ntN (I (m + 10)) i) + 0 = nI (ntN (I (m + 10)) (i + 1)) from by rw [ntN, if_neg hq21]; exact nI_add _ 0, nI_1]
        exact ih (i + 1) hlt (by omega)
      · refine v_iconst (n := 25) (v := 1) dX11_notsOpen_24 c_1 rfl ?_
        refine v_goto (tgt := 29) dX11_notsOpen_25 (by decide) ?_
        refine v_iadd (n := 30) dX11_notsOpen_29 rfl ?_
        refine v_istore_n (n := 31) (al' := [.ref m, .int ((nI (ntN (I (m + 10)) i)) + 1), .int (nI i)]) dX11_notsOpen_30 rfl rfl rfl rfl ?_
        refine v_iinc (n := 34) (v := (nI i) + 1) (al' := [.ref m, .int ((nI (ntN (I (m + 10)) i)) + 1), .int ((nI i) + 1)]) dX11_notsOpen_31 rfl (by rw [c_1]) rfl rfl rfl ?_
        refine v_goto (tgt := 4) dX11_notsOpen_34 (by decide) ?_
        rw [show nI (ntN (I (m + 10)) i) + 1 = nI (ntN (I (m + 10)) (i + 1)) from by rw [ntN, if_pos hq21]; exact nI_add _ 1, nI_1]
        exact ih (i + 1) hlt (by omega)

set_option maxRecDepth 100000 in
set_option maxHeartbeats 1000000 in
theorem k_X11_notsOpen {ro : Ro} {S : St} {I : In} {m : Nat} {ws cs : List Int32} (L : LayM S m) (hs : StM I m ws cs) (hlen : ws.length ≤ 96) : Ok mX11_notsOpen ro 0 0 0 [.ref m] S I (RI (nI (ntC ws)) S I) := by
  refine ok_of (al := [.ref m, JJ, JJ]) (by decide) (l8 rfl) rfl ?_
  refine v_iconst (n := 1) (v := 0) dX11_notsOpen_0 c_0 rfl ?_
  refine v_istore_n (n := 2) (al' := [.ref m, .int 0, JJ]) dX11_notsOpen_1 rfl rfl rfl rfl ?_
  refine v_iconst (n := 3) (v := 0) dX11_notsOpen_2 c_0 rfl ?_
  refine v_istore_n (n := 4) (al' := [.ref m, .int 0, .int 0]) dX11_notsOpen_3 rfl rfl rfl rfl ?_
  have q := l_X11_notsOpen (ro := ro) L hs.2.1 hlen (ws.length + 1) 0 (Nat.zero_le _) (by omega)
  rw [nt_stk hs.1] at q
  exact q

