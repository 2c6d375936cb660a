/-! ===== the class's Reader: faultOf ===== -/
theorem keI_p {t : Ar} {s : TS} (h : 0 ≤ keI t s) : keyF t s < 3 := by
  by_cases c : keyF t s < 3
  · exact c
  · rw [keI, if_neg c] at h; exact absurd h (by decide)
theorem keI_n {t : Ar} {s : TS} (h : ¬ 0 ≤ keI t s) : ¬ keyF t s < 3 := fun c => h (by rw [keI, if_pos c]; exact nI_pos' (by omega))
def FtQ (S : St) (I : In) (a n : Nat) (t : Ar) : Option Value → St → In → Prop := fun r S' I' => S' = S ∧ r = some (.int (if okT t n = true then -1 else nI (ftP t n))) ∧ (okT t n = true → Stk (I' (a + 1)) ((psR t n).2.2.1.map (trC (kyT t n))) ∧ I' a 1 = nI (psR t n).2.2.1.length ∧ I' a 2 = nI (psR t n).2.2.2 ∧ I' a 3 = nI (kyT t n)) ∧ ∀ c, c ≠ a → c ≠ a + 1 → I' c = I c

set_option maxRecDepth 100000 in
set_option maxHeartbeats 1000000 in
theorem b_X4_faultOf {ro : Ro} {S : St} {I J0 : In} {a b n : Nat} {t : Ar} (L : LayQ S a b) (hn : n ≤ 96) (h5 : J0 a 5 = nI n) (ht : J0 b = t) (h6 : J0 a 6 = nI (0, 0, 0).1) (h8 : J0 a 8 = nI (0, 0, 0).2.2) (h1 : J0 a 1 = nI 0) (h2 : J0 a 2 = nI 0) (hJ0 : ∀ c, c ≠ a → J0 c = I c) : V RX4 cX4_faultOf 2 (some .int) "faultOf" ro (rmD 100 0 0) (QM 0 0 (FtQ S I a n t)) 0 0 44 [.ref a, JJ] [] S J0 := by
  refine v_aload_n (n := 45) dX4_faultOf_44 rfl rfl rfl ?_
  refine v_callV (n := 48) mc_X4_next l_X4_50 iv_X4_next se_X4_next (ci := 3) ⟨by decide, rfl⟩ L.s (k_X4_next0 (s := (0, 0, 0)) (n := n) (t := t) L h5 hn ht h6 h8 TW.z) ⟨rfl, rfl⟩ (l8 rfl) ⟨l8 rfl, l8 rfl⟩ rfl rfl (l8 rfl) dX4_faultOf_45 rfl ?_
  rintro _ _ J1 ⟨rfl, hS9, hT1, hF1⟩
  replace hS9 := hS9.symm
  subst hS9
  have hT1 : TkC J1 a (fs1 t n) := hT1
  have g5 : J1 a 5 = nI n := by rw [hF1.1 5 (fun z => absurd z.1 (by decide))]; exact h5
  have gb : J1 b = t := by rw [hF1.2 _ L.2.2.2.1]; exact ht
  refine v_aload_n (n := 49) dX4_faultOf_48 rfl rfl rfl ?_
  refine v_aload_n (n := 50) dX4_faultOf_49 rfl rfl rfl ?_
  refine v_cVi (n := 53) (x := (keI t (fs1 t n))) mc_X4_keyAtHand l_X4_53 iv_X4_keyAtHand se_X4_keyAtHand (ci := 3) ⟨by decide, rfl⟩ L.s (k_X4_keyAtHand L g5 hn gb hT1 TW.f1) ⟨rfl, rfl⟩ (l8 rfl) ⟨l8 rfl, l8 rfl⟩ rfl rfl (l8 rfl) dX4_faultOf_50 rfl ?_
  refine v_putI (n := 56) f_X4_22 rfl (Or.inl rfl) L.s dX4_faultOf_53 rfl ?_
  refine v_aload_n (n := 57) dX4_faultOf_56 rfl rfl rfl ?_
  refine v_getI (n := 60) f_X4_22 rfl L.s dX4_faultOf_57 rfl ?_
  rw [sI_s]
  refine v_if_ge (n := 63) (tgt := 68) dX4_faultOf_60 (by decide) rfl (fun hq60 => ?_) (fun hq60 => ?_)
  · have hk3 : kyT t n < 3 := keI_p hq60
    refine v_aload_n (n := 69) dX4_faultOf_68 rfl rfl rfl ?_
    refine v_callV (n := 72) mc_X4_next l_X4_50 iv_X4_next se_X4_next (ci := 3) ⟨by decide, rfl⟩ L.s (k_X4_next (t := t) (s := fs1 t n) (n := n) L (by rw [sI_k (by decide)]; exact g5) hn (by rw [setI_ne L.2.2.2.1]; exact gb) ⟨by rw [sI_k (by decide)]; exact hT1.1, by rw [sI_k (by decide)]; exact hT1.2.1, by rw [sI_k (by decide)]; exact hT1.2.2⟩ TW.f1) ⟨rfl, rfl⟩ (l8 rfl) ⟨l8 rfl, l8 rfl⟩ rfl rfl (l8 rfl) dX4_faultOf_69 rfl ?_
    rintro _ _ J2 ⟨rfl, hS9, hT2, hF2⟩
    replace hS9 := hS9.symm
    subst hS9
    have hG2 : ∀ c, c ≠ a → c ≠ a + 1 → J2 c = I c := fun c h1 h2 => by rw [hF2.2 c h1, setI_ne h1, hF1.2 c h1]; exact hJ0 c h1
    have hK2 : RdK J2 a b n (kyT t n) t := ⟨by rw [hF2.1 5 (fun z => absurd z.1 (by decide)), sI_k (by decide)]; exact g5, by rw [hF2.2 b L.2.2.2.1, setI_ne L.2.2.2.1]; exact gb, by rw [hF2.1 3 (fun z => absurd z.1 (by decide)), sI_s, keI, if_pos (show keyF t (fs1 t n) < 3 from hk3)]; rfl⟩
    have hP2 : PsC J2 a n (kyT t n) t (nxT t n (fs1 t n), [], 0) := ⟨hT2, TW.f1.nx, nx_TL, trivial, by rw [hF2.1 1 (fun z => absurd z.1 (by decide)), sI_k (by decide), hF1.1 1 (fun z => absurd z.1 (by decide))]; exact h1, by rw [hF2.1 2 (fun z => absurd z.1 (by decide)), sI_k (by decide), hF1.1 2 (fun z => absurd z.1 (by decide))]; exact h2, Nat.zero_le _⟩
    have hin := (k_parse (ro := ro) (t := t) L hn (show kyT t n < 3 from hk3) (100 + 20 * n)).2.1 0 0 0 (nxT t n (fs1 t n), [], 0) J2 (by decide) (by decide) (by decide) hP2 hK2 (by have := (TW.f1 (t := t) (n := n)).nx.fle; show 10 * (n - (nxT t n (fs1 t n)).2.1) + (7 - 0) ≤ 100 + 20 * n; omega)
    refine v_aload_n (n := 73) dX4_faultOf_72 rfl rfl rfl ?_
    refine v_iconst (n := 74) (v := 0) dX4_faultOf_73 c_0 rfl ?_
    refine v_iconst (n := 75) (v := 0) dX4_faultOf_74 c_0 rfl ?_
    refine v_iconst (n := 76) (v := 0) dX4_faultOf_75 c_0 rfl ?_
    refine v_callV (n := 79) mc_X4_level l_X4_57 iv_X4_level se_X4_level (ci := 3) ⟨by decide, rfl⟩ L.s hin ⟨rfl, rfl⟩ (l8 rfl) ⟨l8 rfl, l8 rfl⟩ rfl rfl (l8 rfl) dX4_faultOf_76 rfl ?_
    rintro _ _ J3 ⟨hS9, rfl, hq3⟩
    replace hS9 := hS9.symm
    subst hS9
    have hFr : ∀ c, c ≠ a → c ≠ a + 1 → J3 c = I c := fun c h1 h2 => by rw [hq3.2.2.2.2 c h1 h2]; exact hG2 c h1 h2
    have hk9 : J3 a 3 = nI (kyT t n) := by rw [hq3.2.2.2.1 3 nK3]; exact hK2.2.2
    rcases hq3.2.2.1 with hr0 | hr1
    · rw [show (ev t n (kyT t n) (100 + 20 * n) 0 0 0 0 (nxT t n (fs1 t n), [], 0)).1 = 0 from hr0]
      have hok : okT t n = false := by
        unfold okT
        rw [decide_eq_false (show ¬ (psR t n).1 = 1 by rw [show (psR t n).1 = 0 from hr0]; decide), Bool.false_and, Bool.and_false]
      refine v_if_eq (n := 82) (tgt := 93) dX4_faultOf_79 (by decide) rfl (fun _ => ?_) (fun z => absurd rfl z)
      refine v_aload_n (n := 94) dX4_faultOf_93 rfl rfl rfl ?_
      refine v_getI (n := 97) f_X4_34 rfl L.s dX4_faultOf_94 rfl ?_
      rw [show J3 a 7 = nI (ftP t n) from by rw [ftP, if_pos hk3]; exact hq3.2.1 hr0]
      exact v_iret rfl ⟨rfl, by rw [if_neg (by rw [hok]; decide)], (fun z => by rw [hok] at z; cases z), hFr⟩ ⟨l8 rfl, l8 rfl⟩ dX4_faultOf_97
    · rw [show (ev t n (kyT t n) (100 + 20 * n) 0 0 0 0 (nxT t n (fs1 t n), [], 0)).1 = 1 from hr1]
      have hr1 : (psR t n).1 = 1 := hr1
      have hP3 : PsC J3 a n (kyT t n) t (psR t n).2 := hq3.1 hr1
      refine v_if_eq (n := 82) (tgt := 93) dX4_faultOf_79 (by decide) rfl (fun z => absurd z (by decide)) (fun _ => ?_)
      refine v_aload_n (n := 83) dX4_faultOf_82 rfl rfl rfl ?_
      refine v_getI (n := 86) f_X4_31 rfl L.s dX4_faultOf_83 rfl ?_
      rw [hP3.1.1]
      refine v_if_ne (n := 89) (tgt := 93) dX4_faultOf_86 (by decide) rfl (fun hq86 => ?_) (fun hq86 => ?_)
      · have hok : okT t n = false := by
          unfold okT
          rw [decide_eq_false (show ¬ (psR t n).2.1.1 = 0 from fun z => hq86 (by rw [z]; rfl)), Bool.and_false, Bool.and_false]
        refine v_aload_n (n := 94) dX4_faultOf_93 rfl rfl rfl ?_
        refine v_getI (n := 97) f_X4_34 rfl L.s dX4_faultOf_94 rfl ?_
        rw [show J3 a 7 = nI (ftP t n) from by rw [ftP, if_pos hk3]; exact hP3.1.2.1]
        exact v_iret rfl ⟨rfl, by rw [if_neg (by rw [hok]; decide)], (fun z => by rw [hok] at z; cases z), hFr⟩ ⟨l8 rfl, l8 rfl⟩ dX4_faultOf_97
      · have hok : okT t n = true := by
          unfold okT
          rw [decide_eq_true hk3, decide_eq_true hr1, decide_eq_true ((nI_eq (b := 0) (by have := hP3.2.1.2.2.1; omega) (by decide)).mp hq86)]; rfl
        refine v_iconst (n := 90) (v := (-1)) dX4_faultOf_89 c_m1 rfl ?_
        refine v_goto (tgt := 97) dX4_faultOf_90 (by decide) ?_
        exact v_iret rfl ⟨rfl, by rw [if_pos hok], fun _ => ⟨hP3.2.2.2.1, hP3.2.2.2.2.1, hP3.2.2.2.2.2.1, hk9⟩, hFr⟩ ⟨l8 rfl, l8 rfl⟩ dX4_faultOf_97
  · refine v_aload_n (n := 64) dX4_faultOf_63 rfl rfl rfl ?_
    refine v_getI (n := 67) f_X4_34 rfl L.s dX4_faultOf_64 rfl ?_
    rw [show (setI J1 a 3 (keI t (fs1 t n))) a 7 = nI (ftP t n) from by rw [sI_k (by decide), hT1.2.1, ftP, if_neg (show ¬ kyT t n < 3 from keI_n hq60)]]
    have hok : okT t n = false := by unfold okT; rw [decide_eq_false (show ¬ kyT t n < 3 from keI_n hq60)]; rfl
    exact v_iret rfl ⟨rfl, by rw [if_neg (by rw [hok]; decide)], (fun z => by rw [hok] at z; cases z), fun c h1 h2 => by rw [setI_ne h1, hF1.2 c h1]; exact hJ0 c h1⟩ ⟨l8 rfl, l8 rfl⟩ dX4_faultOf_67

set_option maxRecDepth 100000 in
set_option maxHeartbeats 1000000 in
theorem c_X4_faultOf {ro : Ro} {S : St} {I : In} {a b q n : Nat} {t : Ar} (L : LayQ S a b) (Lt : S.1 q = some (7, 0)) (hq1 : I q 1 = nI n) (hn : n ≤ 96) (ht : I b = t) : V RX4 cX4_faultOf 2 (some .int) "faultOf" ro (rmD 100 0 0) (QM 0 0 (FtQ S I a n t)) 0 0 8 [.ref a, .ref q] [] S I := by
  refine v_aload_n (n := 9) dX4_faultOf_8 rfl rfl rfl ?_
  refine v_aload_n (n := 10) dX4_faultOf_9 rfl rfl rfl ?_
  refine v_getI (n := 13) f_X4_43 rfl Lt dX4_faultOf_10 rfl ?_
  rw [hq1]
  refine v_aload_n (n := 14) dX4_faultOf_13 rfl rfl rfl ?_
  refine v_getR (n := 17) f_X4_25 rfl L.s L.g4 dX4_faultOf_14 rfl ?_
  refine v_alen (n := 18) (t := 0) (by decide) L.c4 dX4_faultOf_17 rfl ?_
  refine v_min (n := 21) l_X4_44 min_sta ini_J9 min_code ⟨rfl, rfl⟩ ⟨l8 rfl, l8 rfl⟩ (l8 rfl) dX4_faultOf_18 rfl ?_
  rw [mn_nI (by omega) (by decide), Nat.min_eq_left hn]
  refine v_putI (n := 24) f_X4_28 rfl (Or.inl rfl) L.s dX4_faultOf_21 rfl ?_
  refine v_aload_n (n := 25) dX4_faultOf_24 rfl rfl rfl ?_
  refine v_iconst (n := 26) (v := 0) dX4_faultOf_25 c_0 rfl ?_
  refine v_putI (n := 29) f_X4_15 rfl (Or.inl rfl) L.s dX4_faultOf_26 rfl ?_
  refine v_aload_n (n := 30) dX4_faultOf_29 rfl rfl rfl ?_
  refine v_iconst (n := 31) (v := 0) dX4_faultOf_30 c_0 rfl ?_
  refine v_putI (n := 34) f_X4_19 rfl (Or.inl rfl) L.s dX4_faultOf_31 rfl ?_
  refine v_aload_n (n := 35) dX4_faultOf_34 rfl rfl rfl ?_
  refine v_iconst (n := 36) (v := 0) dX4_faultOf_35 c_0 rfl ?_
  refine v_putI (n := 39) f_X4_31 rfl (Or.inl rfl) L.s dX4_faultOf_36 rfl ?_
  refine v_aload_n (n := 40) dX4_faultOf_39 rfl rfl rfl ?_
  refine v_iconst (n := 41) (v := 0) dX4_faultOf_40 c_0 rfl ?_
  refine v_putI (n := 44) f_X4_37 rfl (Or.inl rfl) L.s dX4_faultOf_41 rfl ?_
  refine v_drop 1 (al' := [.ref a, JJ]) rfl ?_
  exact b_X4_faultOf L hn (by rw [sI_k (by decide), sI_k (by decide), sI_k (by decide), sI_k (by decide), sI_s]) (by rw [setI_ne L.2.2.2.1, setI_ne L.2.2.2.1, setI_ne L.2.2.2.1, setI_ne L.2.2.2.1, setI_ne L.2.2.2.1]; exact ht) (by rw [sI_k (by decide), sI_s]; rfl) (by rw [sI_s]; rfl) (by rw [sI_k (by decide), sI_k (by decide), sI_k (by decide), sI_s]; rfl) (by rw [sI_k (by decide), sI_k (by decide), sI_s]; rfl) (fun c h1 => by rw [setI_ne h1, setI_ne h1, setI_ne h1, setI_ne h1, setI_ne h1])

theorem sG_s {G : Gr} {a k : Nat} {x : Value} : setG G a k x a k = x := if_pos ⟨rfl, rfl⟩
theorem sG_k {G : Gr} {a k j : Nat} {x : Value} (h : j ≠ k) : setG G a k x a j = G a j := if_neg (fun q => h q.2)
set_option maxRecDepth 100000 in
set_option maxHeartbeats 1000000 in
theorem k_X4_faultOf {ro : Ro} {S : St} {I : In} {a q n : Nat} {t : Ar} (L : LayRd S a) (Lt : LayT S q) (hq1 : I q 1 = nI n) (hn : n ≤ 96) (ht : I (q + 1) = t) (hqa : q + 1 ≠ a) (hqb : q + 1 ≠ a + 1) : Ok mX4_faultOf ro 100 0 0 [.ref a, .ref q] S I (FtQ (S.1, setG S.2.1 a 4 (.ref (q + 1)), S.2.2) I a n t) := by
  refine ok_of (al := [.ref a, .ref q]) (by decide) (l8 rfl) rfl ?_
  refine v_aload_n (n := 1) dX4_faultOf_0 rfl rfl rfl ?_
  refine v_aload_n (n := 2) dX4_faultOf_1 rfl rfl rfl ?_
  refine v_getR (n := 5) f_X4_40 rfl Lt.s Lt.g0 dX4_faultOf_2 rfl ?_
  refine v_putR (n := 8) f_X4_25 rfl (Or.inl rfl) L.s (Or.inl ⟨_, rfl⟩) dX4_faultOf_5 rfl ?_
  exact c_X4_faultOf (b := q + 1) (S := (S.1, setG S.2.1 a 4 (.ref (q + 1)), S.2.2)) ⟨⟨L.s, by show setG S.2.1 a 4 (.ref (q + 1)) a 0 = _; rw [sG_k (by decide)]; exact L.g0, L.c0⟩, sG_s, Lt.c0, hqa, hqb⟩ Lt.s hq1 hn ht

