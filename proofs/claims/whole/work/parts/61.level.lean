/-! ===== the class's Reader: level, piece ===== -/
def dd (tt p b : Nat) : Nat := 20 + 8 * (8 - p) + (8 - b) + (7 - tt)
def PsC (I : In) (a n key : Nat) (t : Ar) (s : PS) : Prop := TkC I a s.1 ∧ TW t n s.1 ∧ TL t s.1 ∧ Stk (I (a + 1)) (s.2.1.map (trC key)) ∧ I a 1 = nI s.2.1.length ∧ I a 2 = nI s.2.2 ∧ s.2.1.length ≤ s.1.2.1
def KC (k : Nat) : Prop := k = 1 ∨ k = 2 ∨ K7 k
def FrC (a : Nat) (I J : In) : Prop := (∀ k, ¬ KC k → J a k = I a k) ∧ ∀ c, c ≠ a → c ≠ a + 1 → J c = I c
theorem FrC.rf {a : Nat} {I : In} : FrC a I I := ⟨fun _ _ => rfl, fun _ _ _ => rfl⟩
theorem FrC.tr {a : Nat} {I J J2 : In} (h : FrC a I J) (h2 : FrC a J J2) : FrC a I J2 := ⟨fun k hk => (h2.1 k hk).trans (h.1 k hk), fun c h3 h4 => (h2.2 c h3 h4).trans (h.2 c h3 h4)⟩
theorem FrC.nx {a : Nat} {I J : In} (h : Fr a K7 I J) : FrC a I J := ⟨fun k hk => h.1 k (fun z => hk (Or.inr (Or.inr z))), fun c h1 _ => h.2 c h1⟩
theorem FrC.put {a k : Nat} {I J : In} {c x : Int32} (h : FrC a I J) : FrC a I (setI (setI J (a + 1) k c) a 1 x) := ⟨fun j hj => by rw [sI_k (fun z => hj (Or.inl z)), sI_o (by omega)]; exact h.1 j hj, fun d h1 h2 => by rw [setI_ne h1, setI_ne h2]; exact h.2 d h1 h2⟩
theorem FrC.at {a : Nat} {I J : In} {x : Int32} (h : FrC a I J) : FrC a I (setI J a 2 x) := ⟨fun j hj => by rw [sI_k (fun z => hj (Or.inr (Or.inl z)))]; exact h.1 j hj, fun d h1 h2 => by rw [setI_ne h1]; exact h.2 d h1 h2⟩
theorem nK5 : ¬ KC 5 := fun z => by rcases z with z | z | z; cases z; cases z; exact absurd z.1 (by decide)
theorem nK3 : ¬ KC 3 := fun z => by rcases z with z | z | z; cases z; cases z; exact absurd z.1 (by decide)
/-- what stays while a TEXT is read -/
def RdK (I : In) (a b n key : Nat) (t : Ar) : Prop := I a 5 = nI n ∧ I b = t ∧ I a 3 = nI key
theorem RdK.fr {I J : In} {S : St} {a b n key : Nat} {t : Ar} (h : RdK I a b n key t) (L : LayQ S a b) (hF : FrC a I J) : RdK J a b n key t := ⟨by rw [hF.1 5 nK5]; exact h.1, by rw [hF.2 b L.2.2.2.1 L.2.2.2.2]; exact h.2.1, by rw [hF.1 3 nK3]; exact h.2.2⟩
theorem PsC.nx {I J : In} {a n key : Nat} {t : Ar} {s : PS} (h : PsC I a n key t s) (hT : TkC J a (nxT t n s.1)) (hF : Fr a K7 I J) : PsC J a n key t (nxT t n s.1, s.2) :=
  ⟨hT, h.2.1.nx, nx_TL, by show Stk (J (a + 1)) (s.2.1.map (trC key)); rw [hF.2 _ (by omega)]; exact h.2.2.2.1, by show J a 1 = nI s.2.1.length; rw [hF.1 1 (fun z => absurd z.1 (by decide))]; exact h.2.2.2.2.1, by show J a 2 = nI s.2.2; rw [hF.1 2 (fun z => absurd z.1 (by decide))]; exact h.2.2.2.2.2.1, by have h1 := h.2.2.2.2.2.2; have h2 := (nx_TW h.2.1).2; have h3 := h.2.1.1; show s.2.1.length ≤ (nxT t n s.1).2.1; omega⟩
/-- a code is put -/
theorem PsC.put {I : In} {a n key : Nat} {t : Ar} {s : PS} {c : Int32} (h : PsC I a n key t s) (hl : s.2.1.length + 1 ≤ s.1.2.1) : PsC (setI (setI I (a + 1) s.2.1.length (trC key c)) a 1 (nI (s.2.1.length + 1))) a n key t (s.1, c :: s.2.1, s.2.2) := by
  obtain ⟨⟨h1, h2, h3⟩, h4, h5, h6, h7, h8, h9⟩ := h
  refine ⟨⟨by rw [sI_k (by decide), sI_o (by omega)]; exact h1, by rw [sI_k (by decide), sI_o (by omega)]; exact h2, by rw [sI_k (by decide), sI_o (by omega)]; exact h3⟩, h4, h5, ?_, sI_s, by rw [sI_k (by decide), sI_o (by omega)]; exact h8, hl⟩
  rw [setI_ne (by omega), sI_row]
  have := h6.push (x := trC key c)
  rw [List.length_map] at this
  exact this
def CQ (S : St) (I : In) (a n key : Nat) (t : Ar) (R : Nat × PS) : Option Value → St → In → Prop := fun r S' I' => S' = S ∧ r = some (.int (nI R.1)) ∧ (R.1 = 1 → PsC I' a n key t R.2) ∧ (R.1 = 0 → I' a 7 = nI R.2.1.2.1) ∧ (R.1 = 0 ∨ R.1 = 1) ∧ FrC a I I'
theorem CQ.mono {S : St} {I I0 : In} {a n key : Nat} {t : Ar} {R : Nat × PS} {r : Option Value} {S' : St} {I' : In} (h : CQ S I a n key t R r S' I') (hF : FrC a I0 I) : CQ S I0 a n key t R r S' I' := ⟨h.1, h.2.1, h.2.2.1, h.2.2.2.1, h.2.2.2.2.1, hF.tr h.2.2.2.2.2⟩
theorem tr_33 {key : Nat} : trC key (-10) = 10133 := by rw [trC, if_pos (by decide)]; rfl
theorem tr_sg {key tt : Nat} {t : Ar} {s : TS} (h : lvT t s = tt) (ht : tt ≤ 4) : 10100 + t s.2.1 = trC key (sgB (t s.2.1)) := by
  obtain ⟨-, k2, -, k4, -⟩ := lvT_3 h ht
  rw [trC, if_pos k4]
  unfold lvB at k2
  by_cases h1 : t s.2.1 = 124
  · rw [h1]; rfl
  rw [if_neg h1] at k2
  by_cases h2 : t s.2.1 = 38
  · rw [h2]; rfl
  rw [if_neg h2] at k2
  by_cases h3 : t s.2.1 = 60
  · rw [h3]; rfl
  rw [if_neg h3] at k2
  by_cases h4 : t s.2.1 = 61
  · rw [h4]; rfl
  rw [if_neg h4] at k2
  by_cases h5 : t s.2.1 = 62
  · rw [h5]; rfl
  rw [if_neg h5] at k2
  by_cases h6 : t s.2.1 = 43
  · rw [h6]; rfl
  rw [if_neg h6] at k2
  by_cases h7 : t s.2.1 = 45
  · rw [h7]; rfl
  rw [if_neg h7] at k2
  by_cases h8 : t s.2.1 = 42
  · rw [h8]; rfl
  rw [if_neg h8] at k2
  by_cases h9 : t s.2.1 = 47
  · rw [h9]; rfl
  rw [if_neg h9] at k2
  omega

theorem at_c0 {t : Ar} {key : Nat} {s : TS} (h : 0 ≤ atC t key s) : 0 ≤ atF t key s := by
  by_cases c : 0 ≤ atF t key s
  · exact c
  · rw [atC, if_neg c] at h; exact absurd h (by decide)
theorem tr_pos {key : Nat} {c : Int32} (h : 0 ≤ c) : 0 ≤ trC key c := by
  rw [trC, if_neg (Int32.not_lt.mpr h)]
  split
  · decide
  · split
    · decide
    · exact h
theorem at_cn {t : Ar} {n key : Nat} {s : TS} (hw : TW t n s) (h : atC t key s < 0) : ¬ 0 ≤ atF t key s := by
  intro c
  rw [atC, if_pos c] at h
  exact Int32.not_lt.mpr (tr_pos c) h
set_option maxRecDepth 100000 in
set_option maxHeartbeats 1000000 in
theorem p45 {ro : Ro} {S : St} {a b n key f : Nat} {t : Ar} (L : LayQ S a b) (hn : n ≤ 96) (hkey : key < 3) (ihP : ∀ p bb (s : PS) I, p ≤ 8 → bb ≤ 8 → PsC I a n key t s → RdK I a b n key t → 10 * (n - s.1.2.1) + 2 ≤ f → Ok mX4_piece ro (dd 6 p bb) 0 0 [.ref a, .int (nI p), .int (nI bb)] S I (CQ S I a n key t (ev t n key f 5 0 p bb s))) {p bb : Nat} {s : PS} {I : In} (hp : p ≤ 8) (hb : bb ≤ 8) (hP : PsC I a n key t s) (hR : RdK I a b n key t) (hf : 10 * (n - s.1.2.1) + 2 ≤ f + 1) (h0 : ¬ 0 ≤ atF t key s.1) (c2 : s.1.1 = 3 ∧ t s.1.2.1 = 33) (cb : bb < 8) : V RX4 cX4_piece 4 (some .boolean) "piece" ro (rmD (dd 6 p bb) 0 0) (QM 0 0 (CQ S I a n key t (ev t n key (f + 1) 5 0 p bb s))) 0 0 45 [.ref a, .int (nI p), .int (nI bb), JJ] [] S I := by
  refine v_aload_n (n := 46) dX4_piece_45 rfl rfl rfl ?_
  refine v_callV (n := 49) mc_X4_next l_X4_50 iv_X4_next se_X4_next (ci := 3) ⟨by decide, rfl⟩ L.s (k_X4_next L hR.1 hn hR.2.1 hP.1 hP.2.1) ⟨rfl, rfl⟩ (by show _ + 1 ≤ dd 6 p bb; unfold dd; omega) ⟨l8 rfl, l8 rfl⟩ rfl rfl (l8 rfl) dX4_piece_46 rfl ?_
  rintro _ _ J1 ⟨rfl, hS9, hT1, hF1⟩
  replace hS9 := hS9.symm
  subst hS9
  have hP1 := hP.nx hT1 hF1
  have hFA : FrC a I J1 := FrC.nx hF1
  have hlt := hP.2.1.lt (by omega)
  have hfl := hP.2.1.nx.fle
  obtain ⟨r, hr⟩ : ∃ r, ev t n key f 5 0 p (bb + 1) (nxT t n s.1, s.2) = r := ⟨_, rfl⟩
  have hev : (ev t n key (f + 1) 5 0 p bb s) = afN r := by rw [ev, if_pos rfl, if_neg h0, if_pos ⟨c2, cb⟩, hr]
  have hin := ihP p (bb + 1) (nxT t n s.1, s.2) J1 hp (by omega) hP1 (hR.fr L hFA) (by show 10 * (n - (nxT t n s.1).2.1) + 2 ≤ f; omega)
  rw [hr] at hin
  refine v_aload_n (n := 50) dX4_piece_49 rfl rfl rfl ?_
  refine v_iload_n (n := 51) dX4_piece_50 rfl rfl rfl ?_
  refine v_iload_n (n := 52) dX4_piece_51 rfl rfl rfl ?_
  refine v_iconst (n := 53) (v := 1) dX4_piece_52 c_1 rfl ?_
  refine v_iadd (n := 54) dX4_piece_53 rfl ?_
  rw [nI_1]
  refine v_callV (n := 57) mc_X4_piece l_X4_93 iv_X4_piece se_X4_piece (ci := 3) ⟨by decide, rfl⟩ L.s hin ⟨rfl, rfl⟩ (by show _ + 1 ≤ dd 6 p bb; unfold dd; omega) ⟨l8 rfl, l8 rfl⟩ rfl rfl (l8 rfl) dX4_piece_54 rfl ?_
  rintro _ _ J2 ⟨hS9, rfl, hq2⟩
  replace hS9 := hS9.symm
  subst hS9
  rcases hq2.2.2.1 with hr0 | hr1
  · rw [hr0]
    refine v_if_ne (n := 60) (tgt := 62) dX4_piece_57 (by decide) rfl (fun z => absurd rfl z) (fun _ => ?_)
    refine v_iconst (n := 61) (v := 0) dX4_piece_60 c_0 rfl ?_
    rw [hev, afN, if_neg (by rw [hr0]; decide), show (0 : Int32) = nI r.1 from by rw [hr0]; rfl]
    exact v_zret rfl (by rw [hr0]; exact (bool_nar (Or.inl rfl)).1) ⟨rfl, rfl, hq2.1, hq2.2.1, hq2.2.2.1, hFA.tr hq2.2.2.2⟩ ⟨l8 rfl, l8 rfl⟩ dX4_piece_61
  · rw [hr1]
    have hP2 := hq2.1 hr1
    have hA := evA f 5 0 p (bb + 1) (nxT t n s.1, s.2) (by decide) hP.2.1.nx (by rw [hr]; exact hr1)
    rw [hr] at hA
    have hA2 : (nxT t n s.1).2.1 + r.2.2.1.length ≤ r.2.1.2.1 + s.2.1.length := hA.2.1
    have hl0 := hP.2.2.2.2.2.2
    have hl2 : r.2.2.1.length + 1 ≤ r.2.1.2.1 := by omega
    refine v_if_ne (n := 60) (tgt := 62) dX4_piece_57 (by decide) rfl (fun _ => ?_) (fun z => absurd z (by decide))
    refine v_aload_n (n := 63) dX4_piece_62 rfl rfl rfl ?_
    refine v_sipush (n := 66) (v := 10133) dX4_piece_63 s_10133 rfl ?_
    refine v_cVv (n := 69) mc_X4_put l_X4_100 iv_X4_put se_X4_put (ci := 3) ⟨by decide, rfl⟩ L.s (k_X4_put (c := 10133) L hP2.2.2.2.2.1 (by have := hP2.2.2.2.2.2.2; have := hP2.2.1.fle; omega)) ⟨rfl, rfl⟩ (by show _ + 1 ≤ dd 6 p bb; unfold dd; omega) ⟨l8 rfl, l8 rfl⟩ rfl rfl (l8 rfl) dX4_piece_66 rfl ?_
    refine v_iconst (n := 70) (v := 1) dX4_piece_69 c_1 rfl ?_
    rw [hev, afN, if_pos hr1]
    have hpp := hP2.put (c := -10) hl2
    rw [tr_33] at hpp
    exact v_zret rfl (bool_nar (Or.inr rfl)).1 ⟨rfl, rfl, fun _ => hpp, (fun z => by cases z), Or.inr rfl, FrC.put (hFA.tr hq2.2.2.2)⟩ ⟨l8 rfl, l8 rfl⟩ dX4_piece_70

set_option maxRecDepth 100000 in
set_option maxHeartbeats 1000000 in
theorem p86 {ro : Ro} {S : St} {a b n key f : Nat} {t : Ar} (L : LayQ S a b) (hn : n ≤ 96) (hkey : key < 3) (ihL : ∀ tt p bb (s : PS) I, tt ≤ 4 → p ≤ 8 → bb ≤ 8 → PsC I a n key t s → RdK I a b n key t → 10 * (n - s.1.2.1) + (7 - tt) ≤ f → Ok mX4_level ro (dd tt p bb) 0 0 [.ref a, .int (nI tt), .int (nI p), .int (nI bb)] S I (CQ S I a n key t (ev t n key f tt 0 p bb s))) {p bb : Nat} {s : PS} {I : In} (hp : p ≤ 8) (hb : bb ≤ 8) (hP : PsC I a n key t s) (hR : RdK I a b n key t) (hf : 10 * (n - s.1.2.1) + 2 ≤ f + 1) (h0 : ¬ 0 ≤ atF t key s.1) (hnb : ¬ ((s.1.1 = 3 ∧ t s.1.2.1 = 33) ∧ bb < 8)) (c3 : s.1.1 = 3 ∧ t s.1.2.1 = 40) (cp : p < 8) : V RX4 cX4_piece 4 (some .boolean) "piece" ro (rmD (dd 6 p bb) 0 0) (QM 0 0 (CQ S I a n key t (ev t n key (f + 1) 5 0 p bb s))) 0 0 86 [.ref a, .int (nI p), .int (nI bb), JJ] [] S I := by
  refine v_aload_n (n := 87) dX4_piece_86 rfl rfl rfl ?_
  refine v_callV (n := 90) mc_X4_next l_X4_50 iv_X4_next se_X4_next (ci := 3) ⟨by decide, rfl⟩ L.s (k_X4_next L hR.1 hn hR.2.1 hP.1 hP.2.1) ⟨rfl, rfl⟩ (by show _ + 1 ≤ dd 6 p bb; unfold dd; omega) ⟨l8 rfl, l8 rfl⟩ rfl rfl (l8 rfl) dX4_piece_87 rfl ?_
  rintro _ _ J1 ⟨rfl, hS9, hT1, hF1⟩
  replace hS9 := hS9.symm
  subst hS9
  have hP1 := hP.nx hT1 hF1
  have hFA : FrC a I J1 := FrC.nx hF1
  have hlt := hP.2.1.lt (by omega)
  have hfl := hP.2.1.nx.fle
  obtain ⟨r, hr⟩ : ∃ r, ev t n key f 0 0 (p + 1) bb (nxT t n s.1, s.2) = r := ⟨_, rfl⟩
  have hev : (ev t n key (f + 1) 5 0 p bb s) = afP t n r := by rw [ev, if_pos rfl, if_neg h0, if_neg hnb, if_pos ⟨c3, cp⟩, hr]
  have hin := ihL 0 (p + 1) bb (nxT t n s.1, s.2) J1 (by decide) (by omega) hb hP1 (hR.fr L hFA) (by show 10 * (n - (nxT t n s.1).2.1) + (7 - 0) ≤ f; omega)
  rw [hr] at hin
  refine v_aload_n (n := 91) dX4_piece_90 rfl rfl rfl ?_
  refine v_iconst (n := 92) (v := 0) dX4_piece_91 c_0 rfl ?_
  refine v_iload_n (n := 93) dX4_piece_92 rfl rfl rfl ?_
  refine v_iconst (n := 94) (v := 1) dX4_piece_93 c_1 rfl ?_
  refine v_iadd (n := 95) dX4_piece_94 rfl ?_
  rw [nI_1]
  refine v_iload_n (n := 96) dX4_piece_95 rfl rfl rfl ?_
  refine v_callV (n := 99) mc_X4_level l_X4_57 iv_X4_level se_X4_level (ci := 3) ⟨by decide, rfl⟩ L.s hin ⟨rfl, rfl⟩ (by show _ + 1 ≤ dd 6 p bb; unfold dd; omega) ⟨l8 rfl, l8 rfl⟩ rfl rfl (l8 rfl) dX4_piece_96 rfl ?_
  rintro _ _ J2 ⟨hS9, rfl, hq2⟩
  replace hS9 := hS9.symm
  subst hS9
  rcases hq2.2.2.1 with hr0 | hr1
  · rw [hr0]
    refine v_if_eq (n := 102) (tgt := 111) dX4_piece_99 (by decide) rfl (fun _ => ?_) (fun z => absurd rfl z)
    refine v_iconst (n := 112) (v := 0) dX4_piece_111 c_0 rfl ?_
    rw [hev, afP, if_neg (by rw [hr0]; decide), show (0 : Int32) = nI r.1 from by rw [hr0]; rfl]
    exact v_zret rfl (by rw [hr0]; exact (bool_nar (Or.inl rfl)).1) ⟨rfl, rfl, hq2.1, hq2.2.1, hq2.2.2.1, hFA.tr hq2.2.2.2⟩ ⟨l8 rfl, l8 rfl⟩ dX4_piece_112
  · rw [hr1]
    have hP2 := hq2.1 hr1
    have hR2 := (hR.fr L hFA).fr L hq2.2.2.2
    refine v_if_eq (n := 102) (tgt := 111) dX4_piece_99 (by decide) rfl (fun z => absurd z (by decide)) (fun _ => ?_)
    refine v_aload_n (n := 103) dX4_piece_102 rfl rfl rfl ?_
    refine v_bipush (n := 105) (v := 41) dX4_piece_103 b_41 rfl ?_
    refine v_cVi (n := 108) (x := (bi (decide (r.2.1.1 = 3 ∧ t r.2.1.2.1 = 41)))) mc_X4_isSign l_X4_107 iv_X4_isSign se_X4_isSign (ci := 3) ⟨by decide, rfl⟩ L.s (k_X4_isSign L hR2.1 hn hR2.2.1 hP2.1 hP2.2.1) ⟨rfl, rfl⟩ (by show _ + 1 ≤ dd 6 p bb; unfold dd; omega) ⟨l8 rfl, l8 rfl⟩ rfl rfl (l8 rfl) dX4_piece_105 rfl ?_
    refine v_if_ne (n := 111) (tgt := 113) dX4_piece_108 (by decide) rfl (fun hq108 => ?_) (fun hq108 => ?_)
    · refine v_aload_n (n := 114) dX4_piece_113 rfl rfl rfl ?_
      refine v_callV (n := 117) mc_X4_next l_X4_50 iv_X4_next se_X4_next (ci := 3) ⟨by decide, rfl⟩ L.s (k_X4_next L hR2.1 hn hR2.2.1 hP2.1 hP2.2.1) ⟨rfl, rfl⟩ (by show _ + 1 ≤ dd 6 p bb; unfold dd; omega) ⟨l8 rfl, l8 rfl⟩ rfl rfl (l8 rfl) dX4_piece_114 rfl ?_
      rintro _ _ J3 ⟨rfl, hS9, hT3, hF3⟩
      replace hS9 := hS9.symm
      subst hS9
      refine v_iconst (n := 118) (v := 1) dX4_piece_117 c_1 rfl ?_
      rw [hev, afP, if_pos hr1, if_pos (of_decide_eq_true (bi_n0.mp hq108))]
      exact v_zret rfl (bool_nar (Or.inr rfl)).1 ⟨rfl, rfl, fun _ => hP2.nx hT3 hF3, (fun z => by cases z), Or.inr rfl, (hFA.tr hq2.2.2.2).tr (FrC.nx hF3)⟩ ⟨l8 rfl, l8 rfl⟩ dX4_piece_118
    · refine v_iconst (n := 112) (v := 0) dX4_piece_111 c_0 rfl ?_
      rw [hev, afP, if_pos hr1, if_neg (of_decide_eq_false (bi_0.mp hq108))]
      exact v_zret rfl (bool_nar (Or.inl rfl)).1 ⟨rfl, rfl, (fun z => by cases z), fun _ => hP2.1.2.1, Or.inl rfl, hFA.tr hq2.2.2.2⟩ ⟨l8 rfl, l8 rfl⟩ dX4_piece_112

set_option maxRecDepth 100000 in
set_option maxHeartbeats 1000000 in
theorem p119 {ro : Ro} {S : St} {a n key f : Nat} {t : Ar} {p bb : Nat} {s : PS} {I : In} (h0 : ¬ 0 ≤ atF t key s.1) (hP : PsC I a n key t s) (h1 : ¬ ((s.1.1 = 3 ∧ t s.1.2.1 = 33) ∧ bb < 8)) (h2 : ¬ ((s.1.1 = 3 ∧ t s.1.2.1 = 40) ∧ p < 8)) : V RX4 cX4_piece 4 (some .boolean) "piece" ro (rmD (dd 6 p bb) 0 0) (QM 0 0 (CQ S I a n key t (ev t n key (f + 1) 5 0 p bb s))) 0 0 119 [.ref a, .int (nI p), .int (nI bb), JJ] [] S I := by
  refine v_iconst (n := 120) (v := 0) dX4_piece_119 c_0 rfl ?_
  have hev : (ev t n key (f + 1) 5 0 p bb s) = (0, s) := by rw [ev, if_pos rfl, if_neg h0, if_neg h1, if_neg h2]
  rw [hev]
  exact v_zret rfl (bool_nar (Or.inl rfl)).1 ⟨rfl, rfl, (fun z => by cases z), fun _ => hP.1.2.1, Or.inl rfl, FrC.rf⟩ ⟨l8 rfl, l8 rfl⟩ dX4_piece_120

set_option maxRecDepth 100000 in
set_option maxHeartbeats 1000000 in
theorem k_piece {ro : Ro} {S : St} {a b n key f : Nat} {t : Ar} (L : LayQ S a b) (hn : n ≤ 96) (hkey : key < 3) (ihP : ∀ p bb (s : PS) I, p ≤ 8 → bb ≤ 8 → PsC I a n key t s → RdK I a b n key t → 10 * (n - s.1.2.1) + 2 ≤ f → Ok mX4_piece ro (dd 6 p bb) 0 0 [.ref a, .int (nI p), .int (nI bb)] S I (CQ S I a n key t (ev t n key f 5 0 p bb s))) (ihL : ∀ tt p bb (s : PS) I, tt ≤ 4 → p ≤ 8 → bb ≤ 8 → PsC I a n key t s → RdK I a b n key t → 10 * (n - s.1.2.1) + (7 - tt) ≤ f → Ok mX4_level ro (dd tt p bb) 0 0 [.ref a, .int (nI tt), .int (nI p), .int (nI bb)] S I (CQ S I a n key t (ev t n key f tt 0 p bb s))) {p bb : Nat} {s : PS} {I : In} (hp : p ≤ 8) (hb : bb ≤ 8) (hP : PsC I a n key t s) (hR : RdK I a b n key t) (hf : 10 * (n - s.1.2.1) + 2 ≤ f + 1) : Ok mX4_piece ro (dd 6 p bb) 0 0 [.ref a, .int (nI p), .int (nI bb)] S I (CQ S I a n key t (ev t n key (f + 1) 5 0 p bb s)) := by
  refine ok_of (al := [.ref a, .int (nI p), .int (nI bb), JJ]) (by decide) (l8 rfl) rfl ?_
  refine v_aload_n (n := 1) dX4_piece_0 rfl rfl rfl ?_
  refine v_cVi (n := 4) (x := (atC t key s.1)) mc_X4_atomAtHand l_X4_104 iv_X4_atomAtHand se_X4_atomAtHand (ci := 3) ⟨by decide, rfl⟩ L.s (k_X4_atomAtHand L hR.1 hn hR.2.1 hP.1 hP.2.1 hP.2.2.1 hR.2.2 hkey) ⟨rfl, rfl⟩ (by show _ + 1 ≤ dd 6 p bb; unfold dd; omega) ⟨l8 rfl, l8 rfl⟩ rfl rfl (l8 rfl) dX4_piece_1 rfl ?_
  refine v_istore_n (n := 5) (al' := [.ref a, .int (nI p), .int (nI bb), .int (atC t key s.1)]) dX4_piece_4 rfl rfl rfl rfl ?_
  refine v_iload_n (n := 6) dX4_piece_5 rfl rfl rfl ?_
  refine v_if_lt (n := 9) (tgt := 30) dX4_piece_6 (by decide) rfl (fun hq6 => ?_) (fun hq6 => ?_)
  · have h0 : ¬ 0 ≤ atF t key s.1 := at_cn hP.2.1 hq6
    refine v_aload_n (n := 31) dX4_piece_30 rfl rfl rfl ?_
    refine v_bipush (n := 33) (v := 33) dX4_piece_31 b_33 rfl ?_
    refine v_cVi (n := 36) (x := (bi (decide (s.1.1 = 3 ∧ t s.1.2.1 = 33)))) mc_X4_isSign l_X4_107 iv_X4_isSign se_X4_isSign (ci := 3) ⟨by decide, rfl⟩ L.s (k_X4_isSign L hR.1 hn hR.2.1 hP.1 hP.2.1) ⟨rfl, rfl⟩ (by show _ + 1 ≤ dd 6 p bb; unfold dd; omega) ⟨l8 rfl, l8 rfl⟩ rfl rfl (l8 rfl) dX4_piece_33 rfl ?_
    refine v_if_eq (n := 39) (tgt := 71) dX4_piece_36 (by decide) rfl (fun hq36 => ?_) (fun hq36 => ?_)
    · refine v_aload_n (n := 72) dX4_piece_71 rfl rfl rfl ?_
      refine v_bipush (n := 74) (v := 40) dX4_piece_72 b_40 rfl ?_
      refine v_cVi (n := 77) (x := (bi (decide (s.1.1 = 3 ∧ t s.1.2.1 = 40)))) mc_X4_isSign l_X4_107 iv_X4_isSign se_X4_isSign (ci := 3) ⟨by decide, rfl⟩ L.s (k_X4_isSign L hR.1 hn hR.2.1 hP.1 hP.2.1) ⟨rfl, rfl⟩ (by show _ + 1 ≤ dd 6 p bb; unfold dd; omega) ⟨l8 rfl, l8 rfl⟩ rfl rfl (l8 rfl) dX4_piece_74 rfl ?_
      refine v_if_eq (n := 80) (tgt := 119) dX4_piece_77 (by decide) rfl (fun hq77 => ?_) (fun hq77 => ?_)
      · refine v_drop 3 (al' := [.ref a, .int (nI p), .int (nI bb), JJ]) rfl ?_
        exact p119 h0 hP (fun z => absurd (of_decide_eq_false (bi_0.mp hq36)) (fun y => y z.1)) (fun z => absurd (of_decide_eq_false (bi_0.mp hq77)) (fun y => y z.1))
      · refine v_iload_n (n := 81) dX4_piece_80 rfl rfl rfl ?_
        refine v_bipush (n := 83) (v := 8) dX4_piece_81 b_8 rfl ?_
        refine v_icmp_ge (n := 86) (tgt := 119) dX4_piece_83 (by decide) rfl (fun hq83 => ?_) (fun hq83 => ?_)
        · refine v_drop 3 (al' := [.ref a, .int (nI p), .int (nI bb), JJ]) rfl ?_
          exact p119 h0 hP (fun z => absurd (of_decide_eq_false (bi_0.mp hq36)) (fun y => y z.1)) (fun z => nI_8' hq83 (by omega) z.2)
        · have c3 := of_decide_eq_true (bi_n0.mp hq77)
          have cp := nI_8 hq83 (by omega)
          refine v_drop 3 (al' := [.ref a, .int (nI p), .int (nI bb), JJ]) rfl ?_
          exact p86 L hn hkey ihL hp hb hP hR hf h0 (fun z => absurd (of_decide_eq_false (bi_0.mp hq36)) (fun y => y z.1)) c3 cp
    · refine v_iload_n (n := 40) dX4_piece_39 rfl rfl rfl ?_
      refine v_bipush (n := 42) (v := 8) dX4_piece_40 b_8 rfl ?_
      refine v_icmp_ge (n := 45) (tgt := 71) dX4_piece_42 (by decide) rfl (fun hq42 => ?_) (fun hq42 => ?_)
      · refine v_aload_n (n := 72) dX4_piece_71 rfl rfl rfl ?_
        refine v_bipush (n := 74) (v := 40) dX4_piece_72 b_40 rfl ?_
        refine v_cVi (n := 77) (x := (bi (decide (s.1.1 = 3 ∧ t s.1.2.1 = 40)))) mc_X4_isSign l_X4_107 iv_X4_isSign se_X4_isSign (ci := 3) ⟨by decide, rfl⟩ L.s (k_X4_isSign L hR.1 hn hR.2.1 hP.1 hP.2.1) ⟨rfl, rfl⟩ (by show _ + 1 ≤ dd 6 p bb; unfold dd; omega) ⟨l8 rfl, l8 rfl⟩ rfl rfl (l8 rfl) dX4_piece_74 rfl ?_
        refine v_if_eq (n := 80) (tgt := 119) dX4_piece_77 (by decide) rfl (fun hq77 => ?_) (fun hq77 => ?_)
        · refine v_drop 3 (al' := [.ref a, .int (nI p), .int (nI bb), JJ]) rfl ?_
          exact p119 h0 hP (fun z => nI_8' hq42 (by omega) z.2) (fun z => absurd (of_decide_eq_false (bi_0.mp hq77)) (fun y => y z.1))
        · refine v_iload_n (n := 81) dX4_piece_80 rfl rfl rfl ?_
          refine v_bipush (n := 83) (v := 8) dX4_piece_81 b_8 rfl ?_
          refine v_icmp_ge (n := 86) (tgt := 119) dX4_piece_83 (by decide) rfl (fun hq83 => ?_) (fun hq83 => ?_)
          · refine v_drop 3 (al' := [.ref a, .int (nI p), .int (nI bb), JJ]) rfl ?_
            exact p119 h0 hP (fun z => nI_8' hq42 (by omega) z.2) (fun z => nI_8' hq83 (by omega) z.2)
          · have c3 := of_decide_eq_true (bi_n0.mp hq77)
            have cp := nI_8 hq83 (by omega)
            refine v_drop 3 (al' := [.ref a, .int (nI p), .int (nI bb), JJ]) rfl ?_
            exact p86 L hn hkey ihL hp hb hP hR hf h0 (fun z => nI_8' hq42 (by omega) z.2) c3 cp
      · have c2 := of_decide_eq_true (bi_n0.mp hq36)
        have cb := nI_8 hq42 (by omega)
        refine v_drop 3 (al' := [.ref a, .int (nI p), .int (nI bb), JJ]) rfl ?_
        exact p45 L hn hkey ihP hp hb hP hR hf h0 c2 cb
  · have h0 : 0 ≤ atF t key s.1 := at_c0 (Int32.not_lt.mp hq6)
    refine v_aload_n (n := 10) dX4_piece_9 rfl rfl rfl ?_
    refine v_iload_n (n := 11) dX4_piece_10 rfl rfl rfl ?_
    rw [show atC t key s.1 = trC key (atF t key s.1) from if_pos h0]
    refine v_cVv (n := 14) mc_X4_put l_X4_100 iv_X4_put se_X4_put (ci := 3) ⟨by decide, rfl⟩ L.s (k_X4_put L hP.2.2.2.2.1 (by have := hP.2.2.2.2.2.2; have := hP.2.1.fle; have := hP.2.1.fL (by have := (at_ok hP.2.1 h0).1; omega); omega)) ⟨rfl, rfl⟩ (by show _ + 1 ≤ dd 6 p bb; unfold dd; omega) ⟨l8 rfl, l8 rfl⟩ rfl rfl (l8 rfl) dX4_piece_11 rfl ?_
    refine v_aload_n (n := 15) dX4_piece_14 rfl rfl rfl ?_
    refine v_dup (n := 16) dX4_piece_15 rfl rfl ?_
    refine v_getI (n := 19) f_X4_19 rfl L.s dX4_piece_16 rfl ?_
    rw [sI_k (by decide), sI_o (by omega), hP.2.2.2.2.2.1]
    refine v_iconst (n := 20) (v := 1) dX4_piece_19 c_1 rfl ?_
    refine v_iadd (n := 21) dX4_piece_20 rfl ?_
    rw [nI_1]
    refine v_putI (n := 24) f_X4_19 rfl (Or.inl rfl) L.s dX4_piece_21 rfl ?_
    refine v_aload_n (n := 25) dX4_piece_24 rfl rfl rfl ?_
    have hT0 : TkC (setI (setI (setI I (a + 1) s.2.1.length (trC key (atF t key s.1))) a 1 (nI (s.2.1.length + 1))) a 2 (nI (s.2.2 + 1))) a s.1 := ⟨by rw [sI_k (by decide), sI_k (by decide), sI_o (by omega)]; exact hP.1.1, by rw [sI_k (by decide), sI_k (by decide), sI_o (by omega)]; exact hP.1.2.1, by rw [sI_k (by decide), sI_k (by decide), sI_o (by omega)]; exact hP.1.2.2⟩
    refine v_callV (n := 28) mc_X4_next l_X4_50 iv_X4_next se_X4_next (ci := 3) ⟨by decide, rfl⟩ L.s (k_X4_next L (by rw [sI_k (by decide), sI_k (by decide), sI_o (by omega)]; exact hR.1) hn (by rw [setI_ne L.2.2.2.1, setI_ne L.2.2.2.1, setI_ne L.2.2.2.2]; exact hR.2.1) hT0 hP.2.1) ⟨rfl, rfl⟩ (by show _ + 1 ≤ dd 6 p bb; unfold dd; omega) ⟨l8 rfl, l8 rfl⟩ rfl rfl (l8 rfl) dX4_piece_25 rfl ?_
    rintro _ _ J1 ⟨rfl, hS9, hT1, hF1⟩
    replace hS9 := hS9.symm
    subst hS9
    refine v_iconst (n := 29) (v := 1) dX4_piece_28 c_1 rfl ?_
    have hev : (ev t n key (f + 1) 5 0 p bb s) = (1, nxT t n s.1, atF t key s.1 :: s.2.1, s.2.2 + 1) := by rw [ev, if_pos rfl, if_pos h0]
    rw [hev]
    have hlt := hP.2.1.lt (by have := (at_ok hP.2.1 h0).1; omega)
    refine v_zret rfl (bool_nar (Or.inr rfl)).1 ⟨rfl, rfl, fun _ => ⟨hT1, hP.2.1.nx, nx_TL, ?_, ?_, ?_, ?_⟩, (fun z => by cases z), Or.inr rfl, (FrC.at (FrC.put FrC.rf)).tr (FrC.nx hF1)⟩ ⟨l8 rfl, l8 rfl⟩ dX4_piece_29
    · rw [hF1.2 _ (by omega), setI_ne (by omega), setI_ne (by omega), sI_row]
      have := hP.2.2.2.1.push (x := trC key (atF t key s.1))
      rw [List.length_map] at this
      exact this
    · rw [hF1.1 1 (fun z => absurd z.1 (by decide)), sI_k (by decide), sI_s]; rfl
    · rw [hF1.1 2 (fun z => absurd z.1 (by decide)), sI_s]
    · have := hP.2.2.2.2.2.2; show s.2.1.length + 1 ≤ (nxT t n s.1).2.1; omega

theorem lv_eq {t : Ar} {s : TS} {tt : Nat} (ht : tt ≤ 4) (h : lvI t s = nI tt) : lvT t s = tt := by
  unfold lvI at h
  by_cases c : lvT t s = 9
  · rw [if_pos c] at h
    have := nI_nlt0 (a := tt) (by omega)
    rw [← h] at this
    exact absurd (by decide) this
  · rw [if_neg c] at h
    have : lvT t s ≤ 9 := by
      unfold lvT
      split
      · rcases lv_sg (t s.2.1) with q | q <;> omega
      · omega
    exact (nI_eq (by omega) (by omega)).mp h
theorem most_le (tt : Nat) : most tt ≤ 96 := by unfold most; split <;> omega
set_option maxRecDepth 100000 in
set_option maxHeartbeats 1000000 in
theorem k_lloop {ro : Ro} {S : St} {a b n key f : Nat} {t : Ar} (L : LayQ S a b) (hn : n ≤ 96) (hkey : key < 3) {tt p bb i : Nat} {s : PS} {I I0 : In} (ihO : ∀ i (s : PS) I, PsC I a n key t s → RdK I a b n key t → FrC a I0 I → i ≤ 96 → 10 * (n - s.1.2.1) + (7 - tt) ≤ f → V RX4 cX4_level 7 (some .boolean) "level" ro (rmD (dd tt p bb) 0 0) (QM 0 0 (CQ S I0 a n key t (ev t n key f tt (i + 1) p bb s))) 0 0 42 [.ref a, .int (nI tt), .int (nI p), .int (nI bb), .int (nI (most tt)), .int (nI i), JJ] [] S I) (ihA : ∀ (s : PS) I, PsC I a n key t s → RdK I a b n key t → 10 * (n - s.1.2.1) + (7 - (tt + 1)) ≤ f → Ok mX4_level ro (dd (tt + 1) p bb) 0 0 [.ref a, .int (nI (tt + 1)), .int (nI p), .int (nI bb)] S I (CQ S I a n key t (ev t n key f (tt + 1) 0 p bb s))) (ht4 : tt ≤ 4) (hp : p ≤ 8) (hb : bb ≤ 8) (hP : PsC I a n key t s) (hR : RdK I a b n key t) (hF0 : FrC a I0 I) (hi : i ≤ 96) (hf : 10 * (n - s.1.2.1) + (7 - tt) ≤ f + 1) : V RX4 cX4_level 7 (some .boolean) "level" ro (rmD (dd tt p bb) 0 0) (QM 0 0 (CQ S I0 a n key t (ev t n key (f + 1) tt (i + 1) p bb s))) 0 0 42 [.ref a, .int (nI tt), .int (nI p), .int (nI bb), .int (nI (most tt)), .int (nI i), JJ] [] S I := by
  have hfle := hP.2.1.fle
  have hml := most_le tt
  refine v_iload (n := 44) dX4_level_42 rfl rfl ?_
  refine v_iload (n := 46) dX4_level_44 rfl rfl ?_
  refine v_icmp_ge (n := 49) (tgt := 97) dX4_level_46 (by decide) rfl (fun hq46 => ?_) (fun hq46 => ?_)
  · refine v_iconst (n := 98) (v := 1) dX4_level_97 c_1 rfl ?_
    have hev : (ev t n key (f + 1) tt (i + 1) p bb s) = (1, s) := by rw [ev, if_neg (by omega), if_neg (by omega), Nat.add_sub_cancel, if_neg (fun z => absurd (le_out hq46 (by omega) (by omega)) (by omega))]
    rw [hev]
    exact v_zret rfl (bool_nar (Or.inr rfl)).1 ⟨rfl, rfl, fun _ => hP, (fun z => by cases z), Or.inr rfl, hF0⟩ ⟨l8 rfl, l8 rfl⟩ dX4_level_98
  · have him := nle_in hq46 (by omega) (by omega)
    refine v_aload_n (n := 50) dX4_level_49 rfl rfl rfl ?_
    refine v_cVi (n := 53) (x := (lvI t s.1)) mc_X4_levelAtHand l_X4_97 iv_X4_levelAtHand se_X4_levelAtHand (ci := 3) ⟨by decide, rfl⟩ L.s (k_X4_levelAtHand L hR.1 hn hR.2.1 hP.1 hP.2.1) ⟨rfl, rfl⟩ (by show _ + 1 ≤ dd tt p bb; unfold dd; omega) ⟨l8 rfl, l8 rfl⟩ rfl rfl (l8 rfl) dX4_level_50 rfl ?_
    refine v_iload_n (n := 54) dX4_level_53 rfl rfl rfl ?_
    refine v_icmp_ne (n := 57) (tgt := 97) dX4_level_54 (by decide) rfl (fun hq54 => ?_) (fun hq54 => ?_)
    · refine v_iconst (n := 98) (v := 1) dX4_level_97 c_1 rfl ?_
      have hev : (ev t n key (f + 1) tt (i + 1) p bb s) = (1, s) := by rw [ev, if_neg (by omega), if_neg (by omega), Nat.add_sub_cancel, if_neg (fun z => hq54 (by rw [lvI, z.2, if_neg (by omega)]))]
      rw [hev]
      exact v_zret rfl (bool_nar (Or.inr rfl)).1 ⟨rfl, rfl, fun _ => hP, (fun z => by cases z), Or.inr rfl, hF0⟩ ⟨l8 rfl, l8 rfl⟩ dX4_level_98
    · have c1 : i < most tt ∧ lvT t s.1 = tt := ⟨him, lv_eq ht4 hq54⟩
      have c3 := (lvT_3 c1.2 ht4).1
      refine v_aload_n (n := 58) dX4_level_57 rfl rfl rfl ?_
      refine v_cVi (n := 61) (x := (if s.1.2.1 < n then t s.1.2.1 else 0)) mc_X4_byteAtHand l_X4_76 iv_X4_byteAtHand se_X4_byteAtHand (ci := 3) ⟨by decide, rfl⟩ L.s (k_X4_byteAtHand L hR.1 hn hR.2.1 hP.1 hP.2.1) ⟨rfl, rfl⟩ (by show _ + 1 ≤ dd tt p bb; unfold dd; omega) ⟨l8 rfl, l8 rfl⟩ rfl rfl (l8 rfl) dX4_level_58 rfl ?_
      rw [if_pos (hP.2.1.fL (by omega))]
      refine v_istore (n := 63) (al' := [.ref a, .int (nI tt), .int (nI p), .int (nI bb), .int (nI (most tt)), .int (nI i), .int (t s.1.2.1)]) dX4_level_61 rfl rfl rfl ?_
      refine v_aload_n (n := 64) dX4_level_63 rfl rfl rfl ?_
      refine v_callV (n := 67) mc_X4_next l_X4_50 iv_X4_next se_X4_next (ci := 3) ⟨by decide, rfl⟩ L.s (k_X4_next L hR.1 hn hR.2.1 hP.1 hP.2.1) ⟨rfl, rfl⟩ (by show _ + 1 ≤ dd tt p bb; unfold dd; omega) ⟨l8 rfl, l8 rfl⟩ rfl rfl (l8 rfl) dX4_level_64 rfl ?_
      rintro _ _ J1 ⟨rfl, hS9, hT1, hF1⟩
      replace hS9 := hS9.symm
      subst hS9
      have hP1 := hP.nx hT1 hF1
      have hFA : FrC a I J1 := FrC.nx hF1
      have hlt := hP.2.1.lt (by omega)
      have hfl := hP.2.1.nx.fle
      obtain ⟨r, hr⟩ : ∃ r, ev t n key f (tt + 1) 0 p bb (nxT t n s.1, s.2) = r := ⟨_, rfl⟩
      have hev : (ev t n key (f + 1) tt (i + 1) p bb s) = if r.1 = 1 then ev t n key f tt (i + 1 + 1) p bb (r.2.1, sgB (t s.1.2.1) :: r.2.2.1, r.2.2.2) else r := by rw [ev, if_neg (by omega), if_neg (by omega), Nat.add_sub_cancel, if_pos c1, hr]
      have hin := ihA (nxT t n s.1, s.2) J1 hP1 (hR.fr L hFA) (by show 10 * (n - (nxT t n s.1).2.1) + _ ≤ f; omega)
      rw [hr] at hin
      refine v_aload_n (n := 68) dX4_level_67 rfl rfl rfl ?_
      refine v_iload_n (n := 69) dX4_level_68 rfl rfl rfl ?_
      refine v_iconst (n := 70) (v := 1) dX4_level_69 c_1 rfl ?_
      refine v_iadd (n := 71) dX4_level_70 rfl ?_
      rw [nI_1]
      refine v_iload_n (n := 72) dX4_level_71 rfl rfl rfl ?_
      refine v_iload_n (n := 73) dX4_level_72 rfl rfl rfl ?_
      refine v_callV (n := 76) mc_X4_level l_X4_57 iv_X4_level se_X4_level (ci := 3) ⟨by decide, rfl⟩ L.s hin ⟨rfl, rfl⟩ (by show _ + 1 ≤ dd tt p bb; unfold dd; omega) ⟨l8 rfl, l8 rfl⟩ rfl rfl (l8 rfl) dX4_level_73 rfl ?_
      rintro _ _ J2 ⟨hS9, rfl, hq2⟩
      replace hS9 := hS9.symm
      subst hS9
      rcases hq2.2.2.1 with hr0 | hr1
      · rw [hr0]
        refine v_if_ne (n := 79) (tgt := 81) dX4_level_76 (by decide) rfl (fun z => absurd rfl z) (fun _ => ?_)
        refine v_iconst (n := 80) (v := 0) dX4_level_79 c_0 rfl ?_
        rw [hev, if_neg (by rw [hr0]; decide), show (0 : Int32) = nI r.1 from by rw [hr0]; rfl]
        exact v_zret rfl (by rw [hr0]; exact (bool_nar (Or.inl rfl)).1) ⟨rfl, rfl, hq2.1, hq2.2.1, hq2.2.2.1, (hF0.tr hFA).tr hq2.2.2.2⟩ ⟨l8 rfl, l8 rfl⟩ dX4_level_80
      · rw [hr1]
        have hP2 := hq2.1 hr1
        have hR2 := (hR.fr L hFA).fr L hq2.2.2.2
        have hA := evA f (tt + 1) 0 p bb (nxT t n s.1, s.2) (by omega) hP.2.1.nx (by rw [hr]; exact hr1)
        rw [hr] at hA
        have hA2 : (nxT t n s.1).2.1 + r.2.2.1.length ≤ r.2.1.2.1 + s.2.1.length := hA.2.1
        have hA3 : (nxT t n s.1).2.1 ≤ r.2.1.2.1 := hA.2.2.1
        have hl0 := hP.2.2.2.2.2.2
        have hl2 : r.2.2.1.length + 1 ≤ r.2.1.2.1 := by omega
        refine v_if_ne (n := 79) (tgt := 81) dX4_level_76 (by decide) rfl (fun _ => ?_) (fun z => absurd z (by decide))
        refine v_aload_n (n := 82) dX4_level_81 rfl rfl rfl ?_
        refine v_sipush (n := 85) (v := 10100) dX4_level_82 s_10100 rfl ?_
        refine v_iload (n := 87) dX4_level_85 rfl rfl ?_
        refine v_iadd (n := 88) dX4_level_87 rfl ?_
        rw [tr_sg (key := key) c1.2 ht4]
        refine v_cVv (n := 91) mc_X4_put l_X4_100 iv_X4_put se_X4_put (ci := 3) ⟨by decide, rfl⟩ L.s (k_X4_put (c := trC key (sgB (t s.1.2.1))) L hP2.2.2.2.2.1 (by have := hP2.2.1.fle; omega)) ⟨rfl, rfl⟩ (by show _ + 1 ≤ dd tt p bb; unfold dd; omega) ⟨l8 rfl, l8 rfl⟩ rfl rfl (l8 rfl) dX4_level_88 rfl ?_
        refine v_iinc (n := 94) (v := (nI i) + 1) (al' := [.ref a, .int (nI tt), .int (nI p), .int (nI bb), .int (nI (most tt)), .int ((nI i) + 1), .int (t s.1.2.1)]) dX4_level_91 rfl (by rw [c_1]) rfl rfl rfl ?_
        refine v_goto (tgt := 42) dX4_level_94 (by decide) ?_
        refine v_drop 6 (al' := [.ref a, .int (nI tt), .int (nI p), .int (nI bb), .int (nI (most tt)), .int ((nI i) + 1), JJ]) rfl ?_
        rw [nI_1, hev, if_pos hr1]
        exact ihO (i + 1) (r.2.1, sgB (t s.1.2.1) :: r.2.2.1, r.2.2.2) _ (hP2.put hl2) (hR2.fr L (FrC.put FrC.rf)) (FrC.put ((hF0.tr hFA).tr hq2.2.2.2)) (by omega) (by have := hA.1.fle; show 10 * (n - r.2.1.2.1) + (7 - tt) ≤ f; omega)

set_option maxRecDepth 100000 in
set_option maxHeartbeats 1000000 in
theorem k_lbeg {ro : Ro} {S : St} {a b n key f : Nat} {t : Ar} (L : LayQ S a b) (hn : n ≤ 96) (hkey : key < 3) {tt p bb : Nat} {s : PS} {I : In} (ihO : ∀ i (s : PS) J, PsC J a n key t s → RdK J a b n key t → FrC a I J → i ≤ 96 → 10 * (n - s.1.2.1) + (7 - tt) ≤ f → V RX4 cX4_level 7 (some .boolean) "level" ro (rmD (dd tt p bb) 0 0) (QM 0 0 (CQ S I a n key t (ev t n key f tt (i + 1) p bb s))) 0 0 42 [.ref a, .int (nI tt), .int (nI p), .int (nI bb), .int (nI (most tt)), .int (nI i), JJ] [] S J) (ihA : ∀ (s : PS) I, PsC I a n key t s → RdK I a b n key t → 10 * (n - s.1.2.1) + (7 - (tt + 1)) ≤ f → Ok mX4_level ro (dd (tt + 1) p bb) 0 0 [.ref a, .int (nI (tt + 1)), .int (nI p), .int (nI bb)] S I (CQ S I a n key t (ev t n key f (tt + 1) 0 p bb s))) (ht4 : tt ≤ 4) (hp : p ≤ 8) (hb : bb ≤ 8) (hP : PsC I a n key t s) (hR : RdK I a b n key t) (hf : 10 * (n - s.1.2.1) + (7 - tt) ≤ f + 1) : Ok mX4_level ro (dd tt p bb) 0 0 [.ref a, .int (nI tt), .int (nI p), .int (nI bb)] S I (CQ S I a n key t (ev t n key (f + 1) tt 0 p bb s)) := by
  refine ok_of (al := [.ref a, .int (nI tt), .int (nI p), .int (nI bb), JJ, JJ, JJ]) (by decide) (l8 rfl) rfl ?_
  have hfle := hP.2.1.fle
  refine v_iload_n (n := 1) dX4_level_0 rfl rfl rfl ?_
  refine v_iconst (n := 2) (v := 4) dX4_level_1 c_4 rfl ?_
  refine v_icmp_le (n := 5) (tgt := 12) dX4_level_2 (by decide) rfl (fun hq2 => ?_) (fun hq2 => ?_)
  · refine v_aload_n (n := 13) dX4_level_12 rfl rfl rfl ?_
    refine v_iload_n (n := 14) dX4_level_13 rfl rfl rfl ?_
    refine v_iconst (n := 15) (v := 1) dX4_level_14 c_1 rfl ?_
    refine v_iadd (n := 16) dX4_level_15 rfl ?_
    rw [nI_1]
    refine v_iload_n (n := 17) dX4_level_16 rfl rfl rfl ?_
    refine v_iload_n (n := 18) dX4_level_17 rfl rfl rfl ?_
    obtain ⟨r, hr⟩ : ∃ r, ev t n key f (tt + 1) 0 p bb s = r := ⟨_, rfl⟩
    have hev : (ev t n key (f + 1) tt 0 p bb s) = if r.1 = 1 then ev t n key f tt 1 p bb r.2 else r := by rw [ev, if_neg (by omega), if_pos rfl, hr]
    have hin := ihA s I hP hR (by omega)
    rw [hr] at hin
    refine v_callV (n := 21) mc_X4_level l_X4_57 iv_X4_level se_X4_level (ci := 3) ⟨by decide, rfl⟩ L.s hin ⟨rfl, rfl⟩ (by show _ + 1 ≤ dd tt p bb; unfold dd; omega) ⟨l8 rfl, l8 rfl⟩ rfl rfl (l8 rfl) dX4_level_18 rfl ?_
    rintro _ _ J2 ⟨hS9, rfl, hq2⟩
    replace hS9 := hS9.symm
    subst hS9
    rcases hq2.2.2.1 with hr0 | hr1
    · rw [hr0]
      refine v_if_ne (n := 24) (tgt := 26) dX4_level_21 (by decide) rfl (fun z => absurd rfl z) (fun _ => ?_)
      refine v_iconst (n := 25) (v := 0) dX4_level_24 c_0 rfl ?_
      rw [hev, if_neg (by rw [hr0]; decide), show (0 : Int32) = nI r.1 from by rw [hr0]; rfl]
      exact v_zret rfl (by rw [hr0]; exact (bool_nar (Or.inl rfl)).1) ⟨rfl, rfl, hq2.1, hq2.2.1, hq2.2.2.1, hq2.2.2.2⟩ ⟨l8 rfl, l8 rfl⟩ dX4_level_25
    · rw [hr1]
      have hP2 := hq2.1 hr1
      have hA := evA f (tt + 1) 0 p bb s (by omega) hP.2.1 (by rw [hr]; exact hr1)
      rw [hr] at hA
      have hA4 := hA.2.2.2.1 (decide_eq_true (Or.inr rfl))
      refine v_if_ne (n := 24) (tgt := 26) dX4_level_21 (by decide) rfl (fun _ => ?_) (fun z => absurd z (by decide))
      refine v_iload_n (n := 27) dX4_level_26 rfl rfl rfl ?_
      refine v_iconst (n := 28) (v := 2) dX4_level_27 c_2 rfl ?_
      refine v_icmp_ne (n := 31) (tgt := 35) dX4_level_28 (by decide) rfl (fun hq28 => ?_) (fun hq28 => ?_)
      · refine v_bipush (n := 37) (v := 96) dX4_level_35 b_96 rfl ?_
        refine v_istore (n := 39) (al' := [.ref a, .int (nI tt), .int (nI p), .int (nI bb), .int 96, JJ, JJ]) dX4_level_37 rfl rfl rfl ?_
        refine v_iconst (n := 40) (v := 0) dX4_level_39 c_0 rfl ?_
        refine v_istore (n := 42) (al' := [.ref a, .int (nI tt), .int (nI p), .int (nI bb), .int 96, .int 0, JJ]) dX4_level_40 rfl rfl rfl ?_
        rw [hev, if_pos hr1, show Value.int 96 = Value.int (nI (most tt)) from by rw [most, if_neg (fun z => hq28 (by rw [z]; rfl))]; rfl]
        exact ihO 0 r.2 J2 hP2 (hR.fr L hq2.2.2.2) hq2.2.2.2 (by decide) (by have := hA.1.fle; omega)
      · refine v_iconst (n := 32) (v := 1) dX4_level_31 c_1 rfl ?_
        refine v_goto (tgt := 37) dX4_level_32 (by decide) ?_
        refine v_istore (n := 39) (al' := [.ref a, .int (nI tt), .int (nI p), .int (nI bb), .int 1, JJ, JJ]) dX4_level_37 rfl rfl rfl ?_
        refine v_iconst (n := 40) (v := 0) dX4_level_39 c_0 rfl ?_
        refine v_istore (n := 42) (al' := [.ref a, .int (nI tt), .int (nI p), .int (nI bb), .int 1, .int 0, JJ]) dX4_level_40 rfl rfl rfl ?_
        rw [hev, if_pos hr1, show ([.ref a, .int (nI tt), .int (nI p), .int (nI bb), .int 1, .int 0, JJ] : List Value) = [.ref a, .int (nI tt), .int (nI p), .int (nI bb), .int (nI (most tt)), .int (nI 0), JJ] from by rw [most, if_pos ((nI_eq (b := 2) (by omega) (by decide)).mp hq28)]; rfl]
        exact ihO 0 r.2 J2 hP2 (hR.fr L hq2.2.2.2) hq2.2.2.2 (by decide) (by have := hA.1.fle; omega)
  · exact absurd ((nI_leI (b := 4) (by omega) (by decide)).mpr ht4) hq2

set_option maxRecDepth 100000 in
set_option maxHeartbeats 1000000 in
theorem k_l5 {ro : Ro} {S : St} {a b n key p bb : Nat} {t : Ar} {I : In} {R : Nat × PS} (L : LayQ S a b) (h : Ok mX4_piece ro (dd 6 p bb) 0 0 [.ref a, .int (nI p), .int (nI bb)] S I (CQ S I a n key t R)) : Ok mX4_level ro (dd 5 p bb) 0 0 [.ref a, .int 5, .int (nI p), .int (nI bb)] S I (CQ S I a n key t R) := by
  refine ok_of (al := [.ref a, .int 5, .int (nI p), .int (nI bb), JJ, JJ, JJ]) (by decide) (l8 rfl) rfl ?_
  refine v_iload_n (n := 1) dX4_level_0 rfl rfl rfl ?_
  refine v_iconst (n := 2) (v := 4) dX4_level_1 c_4 rfl ?_
  refine v_icmp_le (n := 5) (tgt := 12) dX4_level_2 (by decide) rfl (fun hq2 => ?_) (fun hq2 => ?_)
  · exact absurd hq2 (by decide)
  · refine v_aload_n (n := 6) dX4_level_5 rfl rfl rfl ?_
    refine v_iload_n (n := 7) dX4_level_6 rfl rfl rfl ?_
    refine v_iload_n (n := 8) dX4_level_7 rfl rfl rfl ?_
    refine v_callV (n := 11) mc_X4_piece l_X4_93 iv_X4_piece se_X4_piece (ci := 3) ⟨by decide, rfl⟩ L.s h ⟨rfl, rfl⟩ (by show _ + 1 ≤ dd 5 p bb; unfold dd; omega) ⟨l8 rfl, l8 rfl⟩ rfl rfl (l8 rfl) dX4_level_8 rfl ?_
    rintro _ _ J2 ⟨hS9, rfl, hq2⟩
    replace hS9 := hS9.symm
    subst hS9
    refine v_zret rfl ?_ ⟨rfl, rfl, hq2⟩ ⟨l8 rfl, l8 rfl⟩ dX4_level_11
    rcases hq2.2.2.1 with hr | hr
    · rw [hr]; exact (bool_nar (Or.inl rfl)).1
    · rw [hr]; exact (bool_nar (Or.inr rfl)).1

set_option maxRecDepth 100000 in
set_option maxHeartbeats 1000000 in
theorem k_parse {ro : Ro} {S : St} {a b n key : Nat} {t : Ar} (L : LayQ S a b) (hn : n ≤ 96) (hkey : key < 3) : ∀ f, (∀ p bb (s : PS) I, p ≤ 8 → bb ≤ 8 → PsC I a n key t s → RdK I a b n key t → 10 * (n - s.1.2.1) + 2 ≤ f → Ok mX4_piece ro (dd 6 p bb) 0 0 [.ref a, .int (nI p), .int (nI bb)] S I (CQ S I a n key t (ev t n key f 5 0 p bb s))) ∧ (∀ tt p bb (s : PS) I, tt ≤ 4 → p ≤ 8 → bb ≤ 8 → PsC I a n key t s → RdK I a b n key t → 10 * (n - s.1.2.1) + (7 - tt) ≤ f → Ok mX4_level ro (dd tt p bb) 0 0 [.ref a, .int (nI tt), .int (nI p), .int (nI bb)] S I (CQ S I a n key t (ev t n key f tt 0 p bb s))) ∧ (∀ tt p bb i (s : PS) I0 I, tt ≤ 4 → p ≤ 8 → bb ≤ 8 → PsC I a n key t s → RdK I a b n key t → FrC a I0 I → i ≤ 96 → 10 * (n - s.1.2.1) + (7 - tt) ≤ f → V RX4 cX4_level 7 (some .boolean) "level" ro (rmD (dd tt p bb) 0 0) (QM 0 0 (CQ S I0 a n key t (ev t n key f tt (i + 1) p bb s))) 0 0 42 [.ref a, .int (nI tt), .int (nI p), .int (nI bb), .int (nI (most tt)), .int (nI i), JJ] [] S I) := by
  intro f
  induction f with
  | zero =>
    refine ⟨fun p bb s I _ _ hP _ hf => absurd hf (by omega), fun tt p bb s I ht _ _ hP _ hf => absurd hf (by omega), fun tt p bb i s I0 I ht _ _ hP _ _ _ hf => absurd hf (by omega)⟩
  | succ f ih =>
    obtain ⟨h1, h2, h3⟩ := ih
    have hA : ∀ tt p bb, tt ≤ 4 → p ≤ 8 → bb ≤ 8 → ∀ (s : PS) I, PsC I a n key t s → RdK I a b n key t → 10 * (n - s.1.2.1) + (7 - (tt + 1)) ≤ f → Ok mX4_level ro (dd (tt + 1) p bb) 0 0 [.ref a, .int (nI (tt + 1)), .int (nI p), .int (nI bb)] S I (CQ S I a n key t (ev t n key f (tt + 1) 0 p bb s)) := by
      intro tt p bb ht hp hb s I hP hR hf
      by_cases c : tt = 4
      · subst c
        exact k_l5 L (h1 p bb s I hp hb hP hR (by omega))
      · exact h2 (tt + 1) p bb s I (by omega) hp hb hP hR hf
    refine ⟨fun p bb s I hp hb hP hR hf => k_piece L hn hkey h1 h2 hp hb hP hR hf, fun tt p bb s I ht hp hb hP hR hf => k_lbeg L hn hkey (fun i s2 J a1 a2 a3 a4 a5 => h3 tt p bb i s2 I J ht hp hb a1 a2 a3 a4 a5) (hA tt p bb ht hp hb) ht hp hb hP hR hf, fun tt p bb i s I0 I ht hp hb hP hR hF hi hf => k_lloop L hn hkey (fun i2 s2 I2 a1 a2 a3 a4 a5 => h3 tt p bb i2 s2 I0 I2 ht hp hb a1 a2 a3 a4 a5) (hA tt p bb ht hp hb) ht hp hb hP hR hF hi hf⟩

