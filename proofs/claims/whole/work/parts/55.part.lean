/-! ===== the reference: a part, the key ===== -/
theorem tk_k {I : In} {m n c : Nat} {t : Ar} {s : TS} (hT : TkM I m t s) (hw : TW t n s) (hc : c ≤ 4) : I m 10 = nI c ↔ (if s.1 = 2 ∧ 4 < s.2.2 - s.2.1 then 4 else s.1) = c := by
  rw [hT.2.2.1]
  have : (if s.1 = 2 ∧ 4 < s.2.2 - s.2.1 then 4 else s.1) ≤ 4 := by
    have := hw.2.2.1
    split <;> omega
  exact nI_eq (by omega) (by omega)
theorem tk_1 {I : In} {m n : Nat} {t : Ar} {s : TS} (hT : TkM I m t s) (hw : TW t n s) : I m 10 = 1 ↔ s.1 = 1 := by
  refine (tk_k (c := 1) hT hw (by decide)).trans ?_
  by_cases q : s.1 = 2 ∧ 4 < s.2.2 - s.2.1
  · rw [if_pos q]; omega
  · rw [if_neg q]
theorem tk_2 {I : In} {m n : Nat} {t : Ar} {s : TS} (hT : TkM I m t s) (hw : TW t n s) : I m 10 = 2 ↔ (s.1 = 2 ∧ s.2.2 - s.2.1 ≤ 4) := by
  refine (tk_k (c := 2) hT hw (by decide)).trans ?_
  by_cases q : s.1 = 2 ∧ 4 < s.2.2 - s.2.1
  · rw [if_pos q]; omega
  · rw [if_neg q]; omega
theorem tk_3 {I : In} {m n : Nat} {t : Ar} {s : TS} (hT : TkM I m t s) (hw : TW t n s) : I m 10 = 3 ↔ s.1 = 3 := by
  refine (tk_k (c := 3) hT hw (by decide)).trans ?_
  by_cases q : s.1 = 2 ∧ 4 < s.2.2 - s.2.1
  · rw [if_pos q]; omega
  · rw [if_neg q]
theorem tk_0 {I : In} {m n : Nat} {t : Ar} {s : TS} (hT : TkM I m t s) (hw : TW t n s) : I m 10 = 0 ↔ s.1 = 0 := by
  refine (tk_k (c := 0) hT hw (by decide)).trans ?_
  by_cases q : s.1 = 2 ∧ 4 < s.2.2 - s.2.1
  · rw [if_pos q]; omega
  · rw [if_neg q]
theorem TkM.fr {I J : In} {m : Nat} {t : Ar} {s : TS} (h : TkM I m t s) (e : ∀ k, 8 ≤ k → k ≤ 12 → J m k = I m k) : TkM J m t s := by
  unfold TkM
  rw [e 8 (by decide) (by decide), e 9 (by decide) (by decide), e 10 (by decide) (by decide), e 11 (by decide) (by decide), e 12 (by decide) (by decide)]
  exact h
theorem k_X11_go2 {ro : Ro} {S : St} {I : In} {m n : Nat} {t : Ar} {s : TS} (L : LayM S m) (h7 : I m 7 = nI n) (hn : n ≤ 96) (ht : I (m + 6) = t) (hT : TkM I m t s) (hw : TW t n s) (h0 : s.1 = 1 ∨ s.1 = 2 ∨ s.1 = 3) : Ok mX11_go ro 1 0 0 [.ref m] S I (GoR S I m t n s) :=
  k_X11_go L h7 hn ht hT.1 hw.2.1 hT.2.2.2.2.2.1 (fun z => hT.2.2.2.2.2.2 (by omega))
def FrK (m : Nat) (I J : In) : Prop := (∀ k, ¬ K5 k → k ≠ 17 → k ≠ 18 → k ≠ 20 → J m k = I m k) ∧ ∀ a, a ≠ m → a ≠ m + 9 → J a = I a
def PtQ (S : St) (I : In) (m : Nat) (t : Ar) (n key : Nat) (s : TS) (ws cs : List Int32) : Option Value → St → In → Prop := fun r S' I' => S' = S ∧ ((0 ≤ atF t key s ∧ r = some (.int 1) ∧ TkM I' m t (nxT t n s) ∧ StM I' m (stl 6 ws (atF t key s :: cs)).1 (stl 6 ws (atF t key s :: cs)).2 ∧ I' m 18 = I m 18 + 1 ∧ FrK m I I') ∨ (¬ 0 ≤ atF t key s ∧ r = some (.int 0) ∧ I' = I))
theorem at_2 {t : Ar} {key : Nat} {s : TS} (h : s.1 = 2 ∧ s.2.2 - s.2.1 ≤ 4) : atF t key s = numV t s.2.1 (s.2.2 - s.2.1) := if_pos h
theorem at_2p {t : Ar} {n key : Nat} {s : TS} (hw : TW t n s) (h : s.1 = 2 ∧ s.2.2 - s.2.1 ≤ 4) : 0 ≤ atF t key s := by
  rw [at_2 h]
  obtain ⟨v, hv, e⟩ := num_nI (t := t) (p := s.2.1) (n := s.2.2 - s.2.1) (fun j h1 h2 => hw.2.2.2.2 h.1 j h1 (by omega)) (s.2.2 - s.2.1) (Nat.le_refl _) h.2
  have := pow_le h.2
  rw [e]
  exact nI_pos' (by omega)
theorem at_1 {t : Ar} {key : Nat} {s : TS} (h : s.1 = 1 ∧ s.2.2 - s.2.1 = 1 ∧ 0 ≤ nmK key (t s.2.1)) : atF t key s = 10000 + nmK key (t s.2.1) := by
  rw [atF, if_neg (by omega), if_pos h]
theorem nm_s (key : Nat) (c : Int32) : nmK key c = -1 ∨ nmK key c = 0 ∨ nmK key c = 1 ∨ nmK key c = 2 := by
  unfold nmK
  repeat' split
  all_goals decide
theorem at_1p {t : Ar} {key : Nat} {s : TS} (h : s.1 = 1 ∧ s.2.2 - s.2.1 = 1 ∧ 0 ≤ nmK key (t s.2.1)) : 0 ≤ atF t key s := by
  rw [at_1 h]
  have h3 := h.2.2
  rcases nm_s key (t s.2.1) with q | q | q | q <;> rw [q] at h3 ⊢
  · exact absurd h3 (by decide)
  · decide
  · decide
  · decide
theorem at_no {t : Ar} {key : Nat} {s : TS} (h : ¬ (s.1 = 2 ∧ s.2.2 - s.2.1 ≤ 4)) (h2 : ¬ (s.1 = 1 ∧ s.2.2 - s.2.1 = 1 ∧ 0 ≤ nmK key (t s.2.1))) : ¬ 0 ≤ atF t key s := by
  rw [atF, if_neg h, if_neg h2]; decide

set_option maxRecDepth 100000 in
set_option maxHeartbeats 1000000 in
theorem k_X11_takesPart {ro : Ro} {S : St} {I : In} {m n key : Nat} {t : Ar} {s : TS} {ws cs : List Int32} (L : LayM S m) (h7 : I m 7 = nI n) (hn : n ≤ 96) (ht : I (m + 6) = t) (hk : I m 13 = nI key) (hkey : key < 3) (hT : TkM I m t s) (hw : TW t n s) (hs : StM I m ws cs) (hlen : ws.length + cs.length ≤ s.2.1) : Ok mX11_takesPart ro 2 0 0 [.ref m] S I (PtQ S I m t n key s ws cs) := by
  refine ok_of (al := [.ref m, JJ]) (by decide) (l8 rfl) rfl ?_
  refine v_aload_n (n := 1) dX11_takesPart_0 rfl rfl rfl ?_
  refine v_getI (n := 4) f_X11_199 rfl L.s dX11_takesPart_1 rfl ?_
  refine v_iconst (n := 5) (v := 1) dX11_takesPart_4 c_1 rfl ?_
  refine v_icmp_ne (n := 8) (tgt := 36) dX11_takesPart_5 (by decide) rfl (fun hq5 => ?_) (fun hq5 => ?_)
  · refine v_iconst (n := 37) (v := 0) dX11_takesPart_36 c_0 rfl ?_
    refine v_istore_n (n := 38) (al' := [.ref m, .int 0]) dX11_takesPart_37 rfl rfl rfl rfl ?_
    refine v_aload_n (n := 39) dX11_takesPart_38 rfl rfl rfl ?_
    refine v_getI (n := 42) f_X11_199 rfl L.s dX11_takesPart_39 rfl ?_
    refine v_iconst (n := 43) (v := 2) dX11_takesPart_42 c_2 rfl ?_
    refine v_icmp_eq (n := 46) (tgt := 52) dX11_takesPart_43 (by decide) rfl (fun hq43 => ?_) (fun hq43 => ?_)
    · have h2 := (tk_2 hT hw).mp hq43
      have h0 := at_2p (key := key) hw h2
      have h03 : s.1 = 1 ∨ s.1 = 2 ∨ s.1 = 3 := by omega
      have hfl := hw.fL (by omega)
      refine v_aload_n (n := 53) dX11_takesPart_52 rfl rfl rfl ?_
      refine v_getR (n := 56) f_X11_35 rfl L.s L.g16 dX11_takesPart_53 rfl ?_
      refine v_aload_n (n := 57) dX11_takesPart_56 rfl rfl rfl ?_
      refine v_getI (n := 60) f_X11_223 rfl L.s dX11_takesPart_57 rfl ?_
      rw [hs.2.2.2]
      refine v_aload_n (n := 61) dX11_takesPart_60 rfl rfl rfl ?_
      refine v_getI (n := 64) f_X11_199 rfl L.s dX11_takesPart_61 rfl ?_
      refine v_iconst (n := 65) (v := 2) dX11_takesPart_64 c_2 rfl ?_
      refine v_icmp_ne (n := 68) (tgt := 75) dX11_takesPart_65 (by decide) rfl (fun hq65 => ?_) (fun hq65 => ?_)
      · exact absurd hq43 hq65
      · refine v_aload_n (n := 69) dX11_takesPart_68 rfl rfl rfl ?_
        refine v_getI (n := 72) f_X11_205 rfl L.s dX11_takesPart_69 rfl ?_
        refine v_goto (tgt := 87) dX11_takesPart_72 (by decide) ?_
        rw [show I m 11 = atF t key s from by rw [at_2 h2]; exact hT.2.2.2.2.1 h2.1 h2.2]
        refine v_iast (n := 88) (j := cs.length) L.c16 (ix_nI (by omega) (by decide)) dX11_takesPart_87 rfl ?_
        refine v_aload_n (n := 89) dX11_takesPart_88 rfl rfl rfl ?_
        refine v_dup (n := 90) dX11_takesPart_89 rfl rfl ?_
        refine v_getI (n := 93) f_X11_223 rfl L.s dX11_takesPart_90 rfl ?_
        rw [sI_o (by omega), hs.2.2.2]
        refine v_iconst (n := 94) (v := 1) dX11_takesPart_93 c_1 rfl ?_
        refine v_iadd (n := 95) dX11_takesPart_94 rfl ?_
        rw [nI_1]
        refine v_putI (n := 98) f_X11_223 rfl (Or.inl rfl) L.s dX11_takesPart_95 rfl ?_
        refine v_aload_n (n := 99) dX11_takesPart_98 rfl rfl rfl ?_
        refine v_dup (n := 100) dX11_takesPart_99 rfl rfl ?_
        refine v_getI (n := 103) f_X11_229 rfl L.s dX11_takesPart_100 rfl ?_
        rw [sI_k (by decide), sI_o (by omega)]
        refine v_iconst (n := 104) (v := 1) dX11_takesPart_103 c_1 rfl ?_
        refine v_iadd (n := 105) dX11_takesPart_104 rfl ?_
        refine v_putI (n := 108) f_X11_229 rfl (Or.inl rfl) L.s dX11_takesPart_105 rfl ?_
        refine v_aload_n (n := 109) dX11_takesPart_108 rfl rfl rfl ?_
        refine v_bipush (n := 111) (v := 6) dX11_takesPart_109 b_6 rfl ?_
        have hs1 : StM (setI (setI (setI I (m + 9) cs.length (atF t key s)) m 17 (nI (cs.length + 1))) m 18 ((I m 18) + 1)) m ws (atF t key s :: cs) := ⟨by rw [setI_ne (by omega), setI_ne (by omega), setI_ne (by omega)]; exact hs.1, by rw [sI_k (by decide), sI_k (by decide), sI_o (by omega)]; exact hs.2.1, by rw [setI_ne (by omega), setI_ne (by omega), sI_row]; exact hs.2.2.1.push, by rw [sI_k (by decide), sI_s]; rfl⟩
        have hl1 : ws.length + (atF t key s :: cs).length ≤ 96 := by rw [List.length_cons]; omega
        refine v_callV (n := 114) mc_X11_settle l_X11_232 iv_X11_settle se_X11_settle (ci := 10) ⟨by decide, rfl⟩ L.s (k_X11_settle (l := 6) (ws := ws) (cs := atF t key s :: cs) L (by decide) hs1 hl1) ⟨rfl, rfl⟩ (l8 rfl) ⟨l8 rfl, l8 rfl⟩ rfl rfl (l8 rfl) dX11_takesPart_111 rfl ?_
        rintro _ _ J1 ⟨rfl, hS9, hst, hfs⟩
        replace hS9 := hS9.symm
        subst hS9
        have hT1 : TkM J1 m t s := hT.fr (fun k h1 h2 => by rw [hfs.1 k (by omega) (by omega), sI_k (by omega), sI_k (by omega), sI_o (by omega)])
        have hF1 : ∀ k, k ≠ 17 → k ≠ 18 → k ≠ 20 → J1 m k = I m k := fun k a1 a2 a3 => by rw [hfs.1 k a1 a3, sI_k a2, sI_k a1, sI_o (by omega)]
        have hG1 : ∀ a, a ≠ m → a ≠ m + 9 → J1 a = I a := fun a a1 a2 => by rw [hfs.2 a a1 a2, setI_ne a1, setI_ne a1, setI_ne a2]
        refine v_aload_n (n := 115) dX11_takesPart_114 rfl rfl rfl ?_
        refine v_callV (n := 118) mc_X11_go l_X11_214 iv_X11_go se_X11_go (ci := 10) ⟨by decide, rfl⟩ L.s (k_X11_go2 L (by rw [hF1 7 (by decide) (by decide) (by decide)]; exact h7) hn (by rw [hG1 _ (by omega) (by omega)]; exact ht) hT1 hw h03) ⟨rfl, rfl⟩ (l8 rfl) ⟨l8 rfl, l8 rfl⟩ rfl rfl (l8 rfl) dX11_takesPart_115 rfl ?_
        rintro _ _ J2 ⟨rfl, hS9, hT2, hF2⟩
        replace hS9 := hS9.symm
        subst hS9
        refine v_iconst (n := 119) (v := 1) dX11_takesPart_118 c_1 rfl ?_
        refine v_zret rfl (bool_nar (Or.inr rfl)).1 ⟨rfl, Or.inl ⟨h0, rfl, hT2, ⟨by rw [hF2.2 _ (by omega)]; exact hst.1, by rw [hF2.1 20 (fun z => absurd z.2 (by decide))]; exact hst.2.1, by rw [hF2.2 _ (by omega)]; exact hst.2.2.1, by rw [hF2.1 17 (fun z => absurd z.2 (by decide))]; exact hst.2.2.2⟩, ?_, fun k a0 a1 a2 a3 => by rw [hF2.1 k a0]; exact hF1 k a1 a2 a3, fun a a1 a2 => by rw [hF2.2 a a1]; exact hG1 a a1 a2⟩⟩ ⟨l8 rfl, l8 rfl⟩ dX11_takesPart_119
        rw [hF2.1 18 (fun z => absurd z.2 (by decide)), hfs.1 18 (by decide) (by decide), sI_s]
    · refine v_iload_n (n := 47) dX11_takesPart_46 rfl rfl rfl ?_
      refine v_if_ne (n := 50) (tgt := 52) dX11_takesPart_47 (by decide) rfl (fun hq47 => ?_) (fun hq47 => ?_)
      · exact absurd rfl hq47
      · refine v_iconst (n := 51) (v := 0) dX11_takesPart_50 c_0 rfl ?_
        refine v_zret rfl (bool_nar (Or.inl rfl)).1 ⟨rfl, Or.inr ⟨at_no (fun z => hq43 ((tk_2 hT hw).mpr z)) (fun z => hq5 ((tk_1 hT hw).mpr z.1)), rfl, rfl⟩⟩ ⟨l8 rfl, l8 rfl⟩ dX11_takesPart_51
  · refine v_aload_n (n := 9) dX11_takesPart_8 rfl rfl rfl ?_
    refine v_getI (n := 12) f_X11_190 rfl L.s dX11_takesPart_9 rfl ?_
    refine v_aload_n (n := 13) dX11_takesPart_12 rfl rfl rfl ?_
    refine v_getI (n := 16) f_X11_193 rfl L.s dX11_takesPart_13 rfl ?_
    refine v_isub (n := 17) dX11_takesPart_16 rfl ?_
    rw [hT.1, hT.2.1, pk_sub hw.1]
    refine v_iconst (n := 18) (v := 1) dX11_takesPart_17 c_1 rfl ?_
    refine v_icmp_ne (n := 21) (tgt := 36) dX11_takesPart_18 (by decide) rfl (fun hq18 => ?_) (fun hq18 => ?_)
    · refine v_iconst (n := 37) (v := 0) dX11_takesPart_36 c_0 rfl ?_
      refine v_istore_n (n := 38) (al' := [.ref m, .int 0]) dX11_takesPart_37 rfl rfl rfl rfl ?_
      refine v_aload_n (n := 39) dX11_takesPart_38 rfl rfl rfl ?_
      refine v_getI (n := 42) f_X11_199 rfl L.s dX11_takesPart_39 rfl ?_
      refine v_iconst (n := 43) (v := 2) dX11_takesPart_42 c_2 rfl ?_
      refine v_icmp_eq (n := 46) (tgt := 52) dX11_takesPart_43 (by decide) rfl (fun hq43 => ?_) (fun hq43 => ?_)
      · have h2 := (tk_2 hT hw).mp hq43
        have h0 := at_2p (key := key) hw h2
        have h03 : s.1 = 1 ∨ s.1 = 2 ∨ s.1 = 3 := by omega
        have hfl := hw.fL (by omega)
        refine v_aload_n (n := 53) dX11_takesPart_52 rfl rfl rfl ?_
        refine v_getR (n := 56) f_X11_35 rfl L.s L.g16 dX11_takesPart_53 rfl ?_
        refine v_aload_n (n := 57) dX11_takesPart_56 rfl rfl rfl ?_
        refine v_getI (n := 60) f_X11_223 rfl L.s dX11_takesPart_57 rfl ?_
        rw [hs.2.2.2]
        refine v_aload_n (n := 61) dX11_takesPart_60 rfl rfl rfl ?_
        refine v_getI (n := 64) f_X11_199 rfl L.s dX11_takesPart_61 rfl ?_
        refine v_iconst (n := 65) (v := 2) dX11_takesPart_64 c_2 rfl ?_
        refine v_icmp_ne (n := 68) (tgt := 75) dX11_takesPart_65 (by decide) rfl (fun hq65 => ?_) (fun hq65 => ?_)
        · exact absurd hq43 hq65
        · refine v_aload_n (n := 69) dX11_takesPart_68 rfl rfl rfl ?_
          refine v_getI (n := 72) f_X11_205 rfl L.s dX11_takesPart_69 rfl ?_
          refine v_goto (tgt := 87) dX11_takesPart_72 (by decide) ?_
          rw [show I m 11 = atF t key s from by rw [at_2 h2]; exact hT.2.2.2.2.1 h2.1 h2.2]
          refine v_iast (n := 88) (j := cs.length) L.c16 (ix_nI (by omega) (by decide)) dX11_takesPart_87 rfl ?_
          refine v_aload_n (n := 89) dX11_takesPart_88 rfl rfl rfl ?_
          refine v_dup (n := 90) dX11_takesPart_89 rfl rfl ?_
          refine v_getI (n := 93) f_X11_223 rfl L.s dX11_takesPart_90 rfl ?_
          rw [sI_o (by omega), hs.2.2.2]
          refine v_iconst (n := 94) (v := 1) dX11_takesPart_93 c_1 rfl ?_
          refine v_iadd (n := 95) dX11_takesPart_94 rfl ?_
          rw [nI_1]
          refine v_putI (n := 98) f_X11_223 rfl (Or.inl rfl) L.s dX11_takesPart_95 rfl ?_
          refine v_aload_n (n := 99) dX11_takesPart_98 rfl rfl rfl ?_
          refine v_dup (n := 100) dX11_takesPart_99 rfl rfl ?_
          refine v_getI (n := 103) f_X11_229 rfl L.s dX11_takesPart_100 rfl ?_
          rw [sI_k (by decide), sI_o (by omega)]
          refine v_iconst (n := 104) (v := 1) dX11_takesPart_103 c_1 rfl ?_
          refine v_iadd (n := 105) dX11_takesPart_104 rfl ?_
          refine v_putI (n := 108) f_X11_229 rfl (Or.inl rfl) L.s dX11_takesPart_105 rfl ?_
          refine v_aload_n (n := 109) dX11_takesPart_108 rfl rfl rfl ?_
          refine v_bipush (n := 111) (v := 6) dX11_takesPart_109 b_6 rfl ?_
          have hs1 : StM (setI (setI (setI I (m + 9) cs.length (atF t key s)) m 17 (nI (cs.length + 1))) m 18 ((I m 18) + 1)) m ws (atF t key s :: cs) := ⟨by rw [setI_ne (by omega), setI_ne (by omega), setI_ne (by omega)]; exact hs.1, by rw [sI_k (by decide), sI_k (by decide), sI_o (by omega)]; exact hs.2.1, by rw [setI_ne (by omega), setI_ne (by omega), sI_row]; exact hs.2.2.1.push, by rw [sI_k (by decide), sI_s]; rfl⟩
          have hl1 : ws.length + (atF t key s :: cs).length ≤ 96 := by rw [List.length_cons]; omega
          refine v_callV (n := 114) mc_X11_settle l_X11_232 iv_X11_settle se_X11_settle (ci := 10) ⟨by decide, rfl⟩ L.s (k_X11_settle (l := 6) (ws := ws) (cs := atF t key s :: cs) L (by decide) hs1 hl1) ⟨rfl, rfl⟩ (l8 rfl) ⟨l8 rfl, l8 rfl⟩ rfl rfl (l8 rfl) dX11_takesPart_111 rfl ?_
          rintro _ _ J1 ⟨rfl, hS9, hst, hfs⟩
          replace hS9 := hS9.symm
          subst hS9
          have hT1 : TkM J1 m t s := hT.fr (fun k h1 h2 => by rw [hfs.1 k (by omega) (by omega), sI_k (by omega), sI_k (by omega), sI_o (by omega)])
          have hF1 : ∀ k, k ≠ 17 → k ≠ 18 → k ≠ 20 → J1 m k = I m k := fun k a1 a2 a3 => by rw [hfs.1 k a1 a3, sI_k a2, sI_k a1, sI_o (by omega)]
          have hG1 : ∀ a, a ≠ m → a ≠ m + 9 → J1 a = I a := fun a a1 a2 => by rw [hfs.2 a a1 a2, setI_ne a1, setI_ne a1, setI_ne a2]
          refine v_aload_n (n := 115) dX11_takesPart_114 rfl rfl rfl ?_
          refine v_callV (n := 118) mc_X11_go l_X11_214 iv_X11_go se_X11_go (ci := 10) ⟨by decide, rfl⟩ L.s (k_X11_go2 L (by rw [hF1 7 (by decide) (by decide) (by decide)]; exact h7) hn (by rw [hG1 _ (by omega) (by omega)]; exact ht) hT1 hw h03) ⟨rfl, rfl⟩ (l8 rfl) ⟨l8 rfl, l8 rfl⟩ rfl rfl (l8 rfl) dX11_takesPart_115 rfl ?_
          rintro _ _ J2 ⟨rfl, hS9, hT2, hF2⟩
          replace hS9 := hS9.symm
          subst hS9
          refine v_iconst (n := 119) (v := 1) dX11_takesPart_118 c_1 rfl ?_
          refine v_zret rfl (bool_nar (Or.inr rfl)).1 ⟨rfl, Or.inl ⟨h0, rfl, hT2, ⟨by rw [hF2.2 _ (by omega)]; exact hst.1, by rw [hF2.1 20 (fun z => absurd z.2 (by decide))]; exact hst.2.1, by rw [hF2.2 _ (by omega)]; exact hst.2.2.1, by rw [hF2.1 17 (fun z => absurd z.2 (by decide))]; exact hst.2.2.2⟩, ?_, fun k a0 a1 a2 a3 => by rw [hF2.1 k a0]; exact hF1 k a1 a2 a3, fun a a1 a2 => by rw [hF2.2 a a1]; exact hG1 a a1 a2⟩⟩ ⟨l8 rfl, l8 rfl⟩ dX11_takesPart_119
          rw [hF2.1 18 (fun z => absurd z.2 (by decide)), hfs.1 18 (by decide) (by decide), sI_s]
      · refine v_iload_n (n := 47) dX11_takesPart_46 rfl rfl rfl ?_
        refine v_if_ne (n := 50) (tgt := 52) dX11_takesPart_47 (by decide) rfl (fun hq47 => ?_) (fun hq47 => ?_)
        · exact absurd rfl hq47
        · refine v_iconst (n := 51) (v := 0) dX11_takesPart_50 c_0 rfl ?_
          refine v_zret rfl (bool_nar (Or.inl rfl)).1 ⟨rfl, Or.inr ⟨at_no (fun z => hq43 ((tk_2 hT hw).mpr z)) (fun z => hq18 (by rw [z.2.1]; rfl)), rfl, rfl⟩⟩ ⟨l8 rfl, l8 rfl⟩ dX11_takesPart_51
    · refine v_aload_n (n := 22) dX11_takesPart_21 rfl rfl rfl ?_
      refine v_aload_n (n := 23) dX11_takesPart_22 rfl rfl rfl ?_
      refine v_getI (n := 26) f_X11_205 rfl L.s dX11_takesPart_23 rfl ?_
      rw [hT.2.2.2.1 (Or.inl ((tk_1 hT hw).mp hq5))]
      refine v_cVi (n := 29) (x := (nmK key (t s.2.1))) mc_X11_nameOf l_X11_226 iv_X11_nameOf se_X11_nameOf (ci := 10) ⟨by decide, rfl⟩ L.s (k_X11_nameOf L hk hkey) ⟨rfl, rfl⟩ (l8 rfl) ⟨l8 rfl, l8 rfl⟩ rfl rfl (l8 rfl) dX11_takesPart_26 rfl ?_
      refine v_if_lt (n := 32) (tgt := 36) dX11_takesPart_29 (by decide) rfl (fun hq29 => ?_) (fun hq29 => ?_)
      · refine v_iconst (n := 37) (v := 0) dX11_takesPart_36 c_0 rfl ?_
        refine v_istore_n (n := 38) (al' := [.ref m, .int 0]) dX11_takesPart_37 rfl rfl rfl rfl ?_
        refine v_aload_n (n := 39) dX11_takesPart_38 rfl rfl rfl ?_
        refine v_getI (n := 42) f_X11_199 rfl L.s dX11_takesPart_39 rfl ?_
        refine v_iconst (n := 43) (v := 2) dX11_takesPart_42 c_2 rfl ?_
        refine v_icmp_eq (n := 46) (tgt := 52) dX11_takesPart_43 (by decide) rfl (fun hq43 => ?_) (fun hq43 => ?_)
        · have h2 := (tk_2 hT hw).mp hq43
          have h0 := at_2p (key := key) hw h2
          have h03 : s.1 = 1 ∨ s.1 = 2 ∨ s.1 = 3 := by omega
          have hfl := hw.fL (by omega)
          refine v_aload_n (n := 53) dX11_takesPart_52 rfl rfl rfl ?_
          refine v_getR (n := 56) f_X11_35 rfl L.s L.g16 dX11_takesPart_53 rfl ?_
          refine v_aload_n (n := 57) dX11_takesPart_56 rfl rfl rfl ?_
          refine v_getI (n := 60) f_X11_223 rfl L.s dX11_takesPart_57 rfl ?_
          rw [hs.2.2.2]
          refine v_aload_n (n := 61) dX11_takesPart_60 rfl rfl rfl ?_
          refine v_getI (n := 64) f_X11_199 rfl L.s dX11_takesPart_61 rfl ?_
          refine v_iconst (n := 65) (v := 2) dX11_takesPart_64 c_2 rfl ?_
          refine v_icmp_ne (n := 68) (tgt := 75) dX11_takesPart_65 (by decide) rfl (fun hq65 => ?_) (fun hq65 => ?_)
          · exact absurd hq43 hq65
          · refine v_aload_n (n := 69) dX11_takesPart_68 rfl rfl rfl ?_
            refine v_getI (n := 72) f_X11_205 rfl L.s dX11_takesPart_69 rfl ?_
            refine v_goto (tgt := 87) dX11_takesPart_72 (by decide) ?_
            rw [show I m 11 = atF t key s from by rw [at_2 h2]; exact hT.2.2.2.2.1 h2.1 h2.2]
            refine v_iast (n := 88) (j := cs.length) L.c16 (ix_nI (by omega) (by decide)) dX11_takesPart_87 rfl ?_
            refine v_aload_n (n := 89) dX11_takesPart_88 rfl rfl rfl ?_
            refine v_dup (n := 90) dX11_takesPart_89 rfl rfl ?_
            refine v_getI (n := 93) f_X11_223 rfl L.s dX11_takesPart_90 rfl ?_
            rw [sI_o (by omega), hs.2.2.2]
            refine v_iconst (n := 94) (v := 1) dX11_takesPart_93 c_1 rfl ?_
            refine v_iadd (n := 95) dX11_takesPart_94 rfl ?_
            rw [nI_1]
            refine v_putI (n := 98) f_X11_223 rfl (Or.inl rfl) L.s dX11_takesPart_95 rfl ?_
            refine v_aload_n (n := 99) dX11_takesPart_98 rfl rfl rfl ?_
            refine v_dup (n := 100) dX11_takesPart_99 rfl rfl ?_
            refine v_getI (n := 103) f_X11_229 rfl L.s dX11_takesPart_100 rfl ?_
            rw [sI_k (by decide), sI_o (by omega)]
            refine v_iconst (n := 104) (v := 1) dX11_takesPart_103 c_1 rfl ?_
            refine v_iadd (n := 105) dX11_takesPart_104 rfl ?_
            refine v_putI (n := 108) f_X11_229 rfl (Or.inl rfl) L.s dX11_takesPart_105 rfl ?_
            refine v_aload_n (n := 109) dX11_takesPart_108 rfl rfl rfl ?_
            refine v_bipush (n := 111) (v := 6) dX11_takesPart_109 b_6 rfl ?_
            have hs1 : StM (setI (setI (setI I (m + 9) cs.length (atF t key s)) m 17 (nI (cs.length + 1))) m 18 ((I m 18) + 1)) m ws (atF t key s :: cs) := ⟨by rw [setI_ne (by omega), setI_ne (by omega), setI_ne (by omega)]; exact hs.1, by rw [sI_k (by decide), sI_k (by decide), sI_o (by omega)]; exact hs.2.1, by rw [setI_ne (by omega), setI_ne (by omega), sI_row]; exact hs.2.2.1.push, by rw [sI_k (by decide), sI_s]; rfl⟩
            have hl1 : ws.length + (atF t key s :: cs).length ≤ 96 := by rw [List.length_cons]; omega
            refine v_callV (n := 114) mc_X11_settle l_X11_232 iv_X11_settle se_X11_settle (ci := 10) ⟨by decide, rfl⟩ L.s (k_X11_settle (l := 6) (ws := ws) (cs := atF t key s :: cs) L (by decide) hs1 hl1) ⟨rfl, rfl⟩ (l8 rfl) ⟨l8 rfl, l8 rfl⟩ rfl rfl (l8 rfl) dX11_takesPart_111 rfl ?_
            rintro _ _ J1 ⟨rfl, hS9, hst, hfs⟩
            replace hS9 := hS9.symm
            subst hS9
            have hT1 : TkM J1 m t s := hT.fr (fun k h1 h2 => by rw [hfs.1 k (by omega) (by omega), sI_k (by omega), sI_k (by omega), sI_o (by omega)])
            have hF1 : ∀ k, k ≠ 17 → k ≠ 18 → k ≠ 20 → J1 m k = I m k := fun k a1 a2 a3 => by rw [hfs.1 k a1 a3, sI_k a2, sI_k a1, sI_o (by omega)]
            have hG1 : ∀ a, a ≠ m → a ≠ m + 9 → J1 a = I a := fun a a1 a2 => by rw [hfs.2 a a1 a2, setI_ne a1, setI_ne a1, setI_ne a2]
            refine v_aload_n (n := 115) dX11_takesPart_114 rfl rfl rfl ?_
            refine v_callV (n := 118) mc_X11_go l_X11_214 iv_X11_go se_X11_go (ci := 10) ⟨by decide, rfl⟩ L.s (k_X11_go2 L (by rw [hF1 7 (by decide) (by decide) (by decide)]; exact h7) hn (by rw [hG1 _ (by omega) (by omega)]; exact ht) hT1 hw h03) ⟨rfl, rfl⟩ (l8 rfl) ⟨l8 rfl, l8 rfl⟩ rfl rfl (l8 rfl) dX11_takesPart_115 rfl ?_
            rintro _ _ J2 ⟨rfl, hS9, hT2, hF2⟩
            replace hS9 := hS9.symm
            subst hS9
            refine v_iconst (n := 119) (v := 1) dX11_takesPart_118 c_1 rfl ?_
            refine v_zret rfl (bool_nar (Or.inr rfl)).1 ⟨rfl, Or.inl ⟨h0, rfl, hT2, ⟨by rw [hF2.2 _ (by omega)]; exact hst.1, by rw [hF2.1 20 (fun z => absurd z.2 (by decide))]; exact hst.2.1, by rw [hF2.2 _ (by omega)]; exact hst.2.2.1, by rw [hF2.1 17 (fun z => absurd z.2 (by decide))]; exact hst.2.2.2⟩, ?_, fun k a0 a1 a2 a3 => by rw [hF2.1 k a0]; exact hF1 k a1 a2 a3, fun a a1 a2 => by rw [hF2.2 a a1]; exact hG1 a a1 a2⟩⟩ ⟨l8 rfl, l8 rfl⟩ dX11_takesPart_119
            rw [hF2.1 18 (fun z => absurd z.2 (by decide)), hfs.1 18 (by decide) (by decide), sI_s]
        · refine v_iload_n (n := 47) dX11_takesPart_46 rfl rfl rfl ?_
          refine v_if_ne (n := 50) (tgt := 52) dX11_takesPart_47 (by decide) rfl (fun hq47 => ?_) (fun hq47 => ?_)
          · exact absurd rfl hq47
          · refine v_iconst (n := 51) (v := 0) dX11_takesPart_50 c_0 rfl ?_
            refine v_zret rfl (bool_nar (Or.inl rfl)).1 ⟨rfl, Or.inr ⟨at_no (fun z => hq43 ((tk_2 hT hw).mpr z)) (fun z => Int32.not_lt.mpr z.2.2 hq29), rfl, rfl⟩⟩ ⟨l8 rfl, l8 rfl⟩ dX11_takesPart_51
      · have h1 : s.1 = 1 ∧ s.2.2 - s.2.1 = 1 ∧ 0 ≤ nmK key (t s.2.1) := ⟨(tk_1 hT hw).mp hq5, (nI_eq (b := 1) (by have := hw.2.1; omega) (by decide)).mp hq18, Int32.not_lt.mp hq29⟩
        have h0 := at_1p h1
        have h03 : s.1 = 1 ∨ s.1 = 2 ∨ s.1 = 3 := by omega
        have hfl := hw.fL (by omega)
        refine v_iconst (n := 33) (v := 1) dX11_takesPart_32 c_1 rfl ?_
        refine v_goto (tgt := 37) dX11_takesPart_33 (by decide) ?_
        refine v_istore_n (n := 38) (al' := [.ref m, .int 1]) dX11_takesPart_37 rfl rfl rfl rfl ?_
        refine v_aload_n (n := 39) dX11_takesPart_38 rfl rfl rfl ?_
        refine v_getI (n := 42) f_X11_199 rfl L.s dX11_takesPart_39 rfl ?_
        refine v_iconst (n := 43) (v := 2) dX11_takesPart_42 c_2 rfl ?_
        refine v_icmp_eq (n := 46) (tgt := 52) dX11_takesPart_43 (by decide) rfl (fun hq43 => ?_) (fun hq43 => ?_)
        · exact absurd (hq5.symm.trans hq43) (by decide)
        · refine v_iload_n (n := 47) dX11_takesPart_46 rfl rfl rfl ?_
          refine v_if_ne (n := 50) (tgt := 52) dX11_takesPart_47 (by decide) rfl (fun hq47 => ?_) (fun hq47 => ?_)
          · refine v_aload_n (n := 53) dX11_takesPart_52 rfl rfl rfl ?_
            refine v_getR (n := 56) f_X11_35 rfl L.s L.g16 dX11_takesPart_53 rfl ?_
            refine v_aload_n (n := 57) dX11_takesPart_56 rfl rfl rfl ?_
            refine v_getI (n := 60) f_X11_223 rfl L.s dX11_takesPart_57 rfl ?_
            rw [hs.2.2.2]
            refine v_aload_n (n := 61) dX11_takesPart_60 rfl rfl rfl ?_
            refine v_getI (n := 64) f_X11_199 rfl L.s dX11_takesPart_61 rfl ?_
            refine v_iconst (n := 65) (v := 2) dX11_takesPart_64 c_2 rfl ?_
            refine v_icmp_ne (n := 68) (tgt := 75) dX11_takesPart_65 (by decide) rfl (fun hq65 => ?_) (fun hq65 => ?_)
            · refine v_sipush (n := 78) (v := 10000) dX11_takesPart_75 s_10000 rfl ?_
              refine v_aload_n (n := 79) dX11_takesPart_78 rfl rfl rfl ?_
              refine v_aload_n (n := 80) dX11_takesPart_79 rfl rfl rfl ?_
              refine v_getI (n := 83) f_X11_205 rfl L.s dX11_takesPart_80 rfl ?_
              rw [hT.2.2.2.1 (Or.inl ((tk_1 hT hw).mp hq5))]
              refine v_cVi (n := 86) (x := (nmK key (t s.2.1))) mc_X11_nameOf l_X11_226 iv_X11_nameOf se_X11_nameOf (ci := 10) ⟨by decide, rfl⟩ L.s (k_X11_nameOf L hk hkey) ⟨rfl, rfl⟩ (l8 rfl) ⟨l8 rfl, l8 rfl⟩ rfl rfl (l8 rfl) dX11_takesPart_83 rfl ?_
              refine v_iadd (n := 87) dX11_takesPart_86 rfl ?_
              rw [← at_1 h1]
              refine v_iast (n := 88) (j := cs.length) L.c16 (ix_nI (by omega) (by decide)) dX11_takesPart_87 rfl ?_
              refine v_aload_n (n := 89) dX11_takesPart_88 rfl rfl rfl ?_
              refine v_dup (n := 90) dX11_takesPart_89 rfl rfl ?_
              refine v_getI (n := 93) f_X11_223 rfl L.s dX11_takesPart_90 rfl ?_
              rw [sI_o (by omega), hs.2.2.2]
              refine v_iconst (n := 94) (v := 1) dX11_takesPart_93 c_1 rfl ?_
              refine v_iadd (n := 95) dX11_takesPart_94 rfl ?_
              rw [nI_1]
              refine v_putI (n := 98) f_X11_223 rfl (Or.inl rfl) L.s dX11_takesPart_95 rfl ?_
              refine v_aload_n (n := 99) dX11_takesPart_98 rfl rfl rfl ?_
              refine v_dup (n := 100) dX11_takesPart_99 rfl rfl ?_
              refine v_getI (n := 103) f_X11_229 rfl L.s dX11_takesPart_100 rfl ?_
              rw [sI_k (by decide), sI_o (by omega)]
              refine v_iconst (n := 104) (v := 1) dX11_takesPart_103 c_1 rfl ?_
              refine v_iadd (n := 105) dX11_takesPart_104 rfl ?_
              refine v_putI (n := 108) f_X11_229 rfl (Or.inl rfl) L.s dX11_takesPart_105 rfl ?_
              refine v_aload_n (n := 109) dX11_takesPart_108 rfl rfl rfl ?_
              refine v_bipush (n := 111) (v := 6) dX11_takesPart_109 b_6 rfl ?_
              have hs1 : StM (setI (setI (setI I (m + 9) cs.length (atF t key s)) m 17 (nI (cs.length + 1))) m 18 ((I m 18) + 1)) m ws (atF t key s :: cs) := ⟨by rw [setI_ne (by omega), setI_ne (by omega), setI_ne (by omega)]; exact hs.1, by rw [sI_k (by decide), sI_k (by decide), sI_o (by omega)]; exact hs.2.1, by rw [setI_ne (by omega), setI_ne (by omega), sI_row]; exact hs.2.2.1.push, by rw [sI_k (by decide), sI_s]; rfl⟩
              have hl1 : ws.length + (atF t key s :: cs).length ≤ 96 := by rw [List.length_cons]; omega
              refine v_callV (n := 114) mc_X11_settle l_X11_232 iv_X11_settle se_X11_settle (ci := 10) ⟨by decide, rfl⟩ L.s (k_X11_settle (l := 6) (ws := ws) (cs := atF t key s :: cs) L (by decide) hs1 hl1) ⟨rfl, rfl⟩ (l8 rfl) ⟨l8 rfl, l8 rfl⟩ rfl rfl (l8 rfl) dX11_takesPart_111 rfl ?_
              rintro _ _ J1 ⟨rfl, hS9, hst, hfs⟩
              replace hS9 := hS9.symm
              subst hS9
              have hT1 : TkM J1 m t s := hT.fr (fun k h1 h2 => by rw [hfs.1 k (by omega) (by omega), sI_k (by omega), sI_k (by omega), sI_o (by omega)])
              have hF1 : ∀ k, k ≠ 17 → k ≠ 18 → k ≠ 20 → J1 m k = I m k := fun k a1 a2 a3 => by rw [hfs.1 k a1 a3, sI_k a2, sI_k a1, sI_o (by omega)]
              have hG1 : ∀ a, a ≠ m → a ≠ m + 9 → J1 a = I a := fun a a1 a2 => by rw [hfs.2 a a1 a2, setI_ne a1, setI_ne a1, setI_ne a2]
              refine v_aload_n (n := 115) dX11_takesPart_114 rfl rfl rfl ?_
              refine v_callV (n := 118) mc_X11_go l_X11_214 iv_X11_go se_X11_go (ci := 10) ⟨by decide, rfl⟩ L.s (k_X11_go2 L (by rw [hF1 7 (by decide) (by decide) (by decide)]; exact h7) hn (by rw [hG1 _ (by omega) (by omega)]; exact ht) hT1 hw h03) ⟨rfl, rfl⟩ (l8 rfl) ⟨l8 rfl, l8 rfl⟩ rfl rfl (l8 rfl) dX11_takesPart_115 rfl ?_
              rintro _ _ J2 ⟨rfl, hS9, hT2, hF2⟩
              replace hS9 := hS9.symm
              subst hS9
              refine v_iconst (n := 119) (v := 1) dX11_takesPart_118 c_1 rfl ?_
              refine v_zret rfl (bool_nar (Or.inr rfl)).1 ⟨rfl, Or.inl ⟨h0, rfl, hT2, ⟨by rw [hF2.2 _ (by omega)]; exact hst.1, by rw [hF2.1 20 (fun z => absurd z.2 (by decide))]; exact hst.2.1, by rw [hF2.2 _ (by omega)]; exact hst.2.2.1, by rw [hF2.1 17 (fun z => absurd z.2 (by decide))]; exact hst.2.2.2⟩, ?_, fun k a0 a1 a2 a3 => by rw [hF2.1 k a0]; exact hF1 k a1 a2 a3, fun a a1 a2 => by rw [hF2.2 a a1]; exact hG1 a a1 a2⟩⟩ ⟨l8 rfl, l8 rfl⟩ dX11_takesPart_119
              rw [hF2.1 18 (fun z => absurd z.2 (by decide)), hfs.1 18 (by decide) (by decide), sI_s]
            · exact absurd (hq5.symm.trans hq65) (by decide)
          · exact absurd hq47 (by decide)

def kc (j : Nat) : Int32 := (strBy.getD 0 []).getD j 0
def mtF (t : Ar) (p w : Nat) : Nat → Bool
  | 0 => true
  | k + 1 => mtF t p w k && decide (t (p + k) = kc (4 * w + k))
theorem mt_f {t : Ar} {p w k : Nat} (h : mtF t p w k = false) : ∀ j, k ≤ j → mtF t p w j = false := by
  intro j
  induction j with
  | zero => intro z; rw [Nat.le_zero.mp z] at h; exact h
  | succ j ih =>
    intro z
    by_cases e : k = j + 1
    · rw [← e]; exact h
    · rw [mtF, ih (by omega)]; rfl
/-- the key's number; 3: it is none -/
def keyF (t : Ar) (s : TS) : Nat := if s.1 = 1 ∧ s.2.2 - s.2.1 = 4 then (if mtF t s.2.1 0 4 = true then 0 else if mtF t s.2.1 1 4 = true then 1 else if mtF t s.2.1 2 4 = true then 2 else 3) else 3
def KyM (I : In) (m : Nat) : Prop := (∀ j, j < 12 → I (m + 7) j = kc j) ∧ ∀ j, j < 4 → I (m + 8) j = nI (4 * j)
def K6 (k : Nat) : Prop := K5 k ∨ k = 13
def KeQ (S : St) (I : In) (m : Nat) (t : Ar) (n : Nat) (s : TS) : Option Value → St → In → Prop := fun r S' I' => S' = S ∧ ((keyF t s < 3 ∧ r = some (.int 1) ∧ TkM I' m t (nxT t n s) ∧ I' m 13 = nI (keyF t s) ∧ Fr m K6 I I') ∨ (keyF t s = 3 ∧ r = some (.int 0) ∧ I' = I))

theorem mt_b {t : Ar} {p w k : Nat} {b : Bool} (h : (b && mtF t p w k) = false) (hk : k ≤ 4) : (b && mtF t p w 4) = false := by
  cases b with
  | false => rfl
  | true => rw [Bool.true_and] at h ⊢; exact mt_f h 4 hk
set_option maxRecDepth 100000 in
set_option maxHeartbeats 1000000 in
theorem l_X11_takesKey {ro : Ro} {S : St} {I : In} {m n w : Nat} {t : Ar} {s : TS} {Q : Option Value → St → In → Prop} (L : LayM S m) (h7 : I m 7 = nI n) (hn : n ≤ 96) (ht : I (m + 6) = t) (hT : TkM I m t s) (hw : TW t n s) (hK : KyM I m) (hw3 : w < 3) (kk : V RX11 cX11_takesKey 5 (some .boolean) "takesKey" ro (rmD 2 0 0) (QM 0 0 Q) 0 0 106 [.ref m, .int (nI w), .int 4, .int (bi (decide (s.2.2 - s.2.1 = 4) && mtF t s.2.1 w 4)), JJ] [] S I) : ∀ j k, k ≤ 4 → 4 < k + j → V RX11 cX11_takesKey 5 (some .boolean) "takesKey" ro (rmD 2 0 0) (QM 0 0 Q) 0 0 55 [.ref m, .int (nI w), .int 4, .int (bi (decide (s.2.2 - s.2.1 = 4) && mtF t s.2.1 w k)), .int (nI k)] [] S I := by
  intro j
  induction j with
  | zero => intro k hk hj; exact absurd hj (by omega)
  | succ j ih =>
    intro k hk hj
    refine v_iload (n := 57) dX11_takesKey_55 rfl rfl ?_
    refine v_iload_n (n := 58) dX11_takesKey_57 rfl rfl rfl ?_
    refine v_icmp_ge (n := 61) (tgt := 106) dX11_takesKey_58 (by decide) rfl (fun hq58 => ?_) (fun hq58 => ?_)
    · have hk4 : k = 4 := Nat.le_antisymm hk (nI_4 hq58 (by omega))
      refine v_drop 4 (al' := [.ref m, .int (nI w), .int 4, .int (bi (decide (s.2.2 - s.2.1 = 4) && mtF t s.2.1 w k)), JJ]) rfl ?_
      rw [hk4]; exact kk
    · have hlt := nI_n4 hq58 (by omega)
      refine v_iload_n (n := 62) dX11_takesKey_61 rfl rfl rfl ?_
      refine v_if_eq (n := 65) (tgt := 106) dX11_takesKey_62 (by decide) rfl (fun hq62 => ?_) (fun hq62 => ?_)
      · have hb := bi_0.mp hq62
        refine v_drop 4 (al' := [.ref m, .int (nI w), .int 4, .int (bi (decide (s.2.2 - s.2.1 = 4) && mtF t s.2.1 w k)), JJ]) rfl ?_
        rw [hb, ← show (decide (s.2.2 - s.2.1 = 4) && mtF t s.2.1 w 4) = false from mt_b hb hk]
        exact kk
      · have hb := bi_n0.mp hq62
        obtain ⟨hb1, hb2⟩ := Bool.and_eq_true_iff.mp hb
        have h4 := of_decide_eq_true hb1
        have hnx := hw.2.1
        refine v_aload_n (n := 66) dX11_takesKey_65 rfl rfl rfl ?_
        refine v_getR (n := 69) f_X11_25 rfl L.s L.g6 dX11_takesKey_66 rfl ?_
        refine v_aload_n (n := 70) dX11_takesKey_69 rfl rfl rfl ?_
        refine v_getI (n := 73) f_X11_193 rfl L.s dX11_takesKey_70 rfl ?_
        rw [hT.2.1]
        refine v_iload (n := 75) dX11_takesKey_73 rfl rfl ?_
        refine v_iadd (n := 76) dX11_takesKey_75 rfl ?_
        refine v_iald (n := 77) (j := s.2.1 + k) L.c6 (ix_of (nI_add _ _) (by omega) (by decide)) dX11_takesKey_76 rfl ?_
        rw [ht]
        refine v_aload_n (n := 78) dX11_takesKey_77 rfl rfl rfl ?_
        refine v_getR (n := 81) f_X11_28 rfl L.s L.g14 dX11_takesKey_78 rfl ?_
        refine v_aload_n (n := 82) dX11_takesKey_81 rfl rfl rfl ?_
        refine v_getR (n := 85) f_X11_32 rfl L.s L.g15 dX11_takesKey_82 rfl ?_
        refine v_iload_n (n := 86) dX11_takesKey_85 rfl rfl rfl ?_
        refine v_iald (n := 87) (j := w) L.c15 (ix_nI (by omega) (by decide)) dX11_takesKey_86 rfl ?_
        rw [hK.2 w (by omega)]
        refine v_iload (n := 89) dX11_takesKey_87 rfl rfl ?_
        refine v_iadd (n := 90) dX11_takesKey_89 rfl ?_
        refine v_cald (n := 91) (j := 4 * w + k) L.c14 (ix_of (nI_add _ _) (by omega) (by decide)) dX11_takesKey_90 rfl ?_
        rw [hK.1 _ (by omega)]
        refine v_icmp_ne (n := 94) (tgt := 98) dX11_takesKey_91 (by decide) rfl (fun hq91 => ?_) (fun hq91 => ?_)
        · refine v_iconst (n := 99) (v := 0) dX11_takesKey_98 c_0 rfl ?_
          refine v_istore_n (n := 100) (al' := [.ref m, .int (nI w), .int 4, .int 0, .int (nI k)]) dX11_takesKey_99 rfl rfl rfl rfl ?_
          refine v_iinc (n := 103) (v := (nI k) + 1) (al' := [.ref m, .int (nI w), .int 4, .int 0, .int ((nI k) + 1)]) dX11_takesKey_100 rfl (by rw [c_1]) rfl rfl rfl ?_
          refine v_goto (tgt := 55) dX11_takesKey_103 (by decide) ?_
          rw [nI_1, show (0 : Int32) = bi (decide (s.2.2 - s.2.1 = 4) && mtF t s.2.1 w (k + 1)) from by rw [mtF, hb1, hb2, decide_eq_false hq91]; rfl]
          exact ih (k + 1) hlt (by omega)
        · refine v_iconst (n := 95) (v := 1) dX11_takesKey_94 c_1 rfl ?_
          refine v_goto (tgt := 99) dX11_takesKey_95 (by decide) ?_
          refine v_istore_n (n := 100) (al' := [.ref m, .int (nI w), .int 4, .int 1, .int (nI k)]) dX11_takesKey_99 rfl rfl rfl rfl ?_
          refine v_iinc (n := 103) (v := (nI k) + 1) (al' := [.ref m, .int (nI w), .int 4, .int 1, .int ((nI k) + 1)]) dX11_takesKey_100 rfl (by rw [c_1]) rfl rfl rfl ?_
          refine v_goto (tgt := 55) dX11_takesKey_103 (by decide) ?_
          rw [nI_1, show (1 : Int32) = bi (decide (s.2.2 - s.2.1 = 4) && mtF t s.2.1 w (k + 1)) from by rw [mtF, hb1, hb2, decide_eq_true hq91]; rfl]
          exact ih (k + 1) hlt (by omega)

set_option maxRecDepth 100000 in
set_option maxHeartbeats 1000000 in
theorem s_X11_takesKey {ro : Ro} {S : St} {I : In} {m n w : Nat} {t : Ar} {s : TS} {Q : Option Value → St → In → Prop} (L : LayM S m) (h7 : I m 7 = nI n) (hn : n ≤ 96) (ht : I (m + 6) = t) (hT : TkM I m t s) (hw : TW t n s) (hK : KyM I m) (hw3 : w < 3) (kk : V RX11 cX11_takesKey 5 (some .boolean) "takesKey" ro (rmD 2 0 0) (QM 0 0 Q) 0 0 106 [.ref m, .int (nI w), .int 4, .int (bi (decide (s.2.2 - s.2.1 = 4) && mtF t s.2.1 w 4)), JJ] [] S I) : V RX11 cX11_takesKey 5 (some .boolean) "takesKey" ro (rmD 2 0 0) (QM 0 0 Q) 0 0 12 [.ref m, .int (nI w), JJ, JJ, JJ] [] S I := by
  refine v_iload_n (n := 13) dX11_takesKey_12 rfl rfl rfl ?_
  refine v_iconst (n := 14) (v := 3) dX11_takesKey_13 c_3 rfl ?_
  refine v_icmp_ge (n := 17) (tgt := 127) dX11_takesKey_14 (by decide) rfl (fun hq14 => ?_) (fun hq14 => ?_)
  · exact absurd (le_out (a := 3) hq14 (by decide) (by omega)) (by omega)
  · refine v_aload_n (n := 18) dX11_takesKey_17 rfl rfl rfl ?_
    refine v_getR (n := 21) f_X11_32 rfl L.s L.g15 dX11_takesKey_18 rfl ?_
    refine v_iload_n (n := 22) dX11_takesKey_21 rfl rfl rfl ?_
    refine v_iconst (n := 23) (v := 1) dX11_takesKey_22 c_1 rfl ?_
    refine v_iadd (n := 24) dX11_takesKey_23 rfl ?_
    rw [nI_1]
    refine v_iald (n := 25) (j := w + 1) L.c15 (ix_nI (by omega) (by decide)) dX11_takesKey_24 rfl ?_
    rw [hK.2 (w + 1) (by omega)]
    refine v_aload_n (n := 26) dX11_takesKey_25 rfl rfl rfl ?_
    refine v_getR (n := 29) f_X11_32 rfl L.s L.g15 dX11_takesKey_26 rfl ?_
    refine v_iload_n (n := 30) dX11_takesKey_29 rfl rfl rfl ?_
    refine v_iald (n := 31) (j := w) L.c15 (ix_nI (by omega) (by decide)) dX11_takesKey_30 rfl ?_
    rw [hK.2 w (by omega)]
    refine v_isub (n := 32) dX11_takesKey_31 rfl ?_
    rw [pk_sub (by omega), show 4 * (w + 1) - 4 * w = 4 by omega]
    refine v_istore_n (n := 33) (al' := [.ref m, .int (nI w), .int 4, JJ, JJ]) dX11_takesKey_32 rfl rfl rfl rfl ?_
    refine v_iload_n (n := 34) dX11_takesKey_33 rfl rfl rfl ?_
    refine v_aload_n (n := 35) dX11_takesKey_34 rfl rfl rfl ?_
    refine v_getI (n := 38) f_X11_190 rfl L.s dX11_takesKey_35 rfl ?_
    rw [hT.1]
    refine v_aload_n (n := 39) dX11_takesKey_38 rfl rfl rfl ?_
    refine v_getI (n := 42) f_X11_193 rfl L.s dX11_takesKey_39 rfl ?_
    rw [hT.2.1]
    refine v_isub (n := 43) dX11_takesKey_42 rfl ?_
    rw [pk_sub hw.1]
    refine v_icmp_ne (n := 46) (tgt := 50) dX11_takesKey_43 (by decide) rfl (fun hq43 => ?_) (fun hq43 => ?_)
    · refine v_iconst (n := 51) (v := 0) dX11_takesKey_50 c_0 rfl ?_
      refine v_istore_n (n := 52) (al' := [.ref m, .int (nI w), .int 4, .int 0, JJ]) dX11_takesKey_51 rfl rfl rfl rfl ?_
      refine v_iconst (n := 53) (v := 0) dX11_takesKey_52 c_0 rfl ?_
      refine v_istore (n := 55) (al' := [.ref m, .int (nI w), .int 4, .int 0, .int 0]) dX11_takesKey_53 rfl rfl rfl ?_
      have hb : false = decide (s.2.2 - s.2.1 = 4) := (decide_eq_false (fun z => hq43 (by rw [z]; rfl))).symm
      rw [show ([.ref m, .int (nI w), .int 4, .int 0, .int 0] : List Value) = [.ref m, .int (nI w), .int 4, .int (bi (decide (s.2.2 - s.2.1 = 4) && mtF t s.2.1 w 0)), .int (nI 0)] from by rw [← hb]; rfl]
      exact l_X11_takesKey L h7 hn ht hT hw hK hw3 kk 5 0 (by decide) (by decide)
    · refine v_iconst (n := 47) (v := 1) dX11_takesKey_46 c_1 rfl ?_
      refine v_goto (tgt := 51) dX11_takesKey_47 (by decide) ?_
      refine v_istore_n (n := 52) (al' := [.ref m, .int (nI w), .int 4, .int 1, JJ]) dX11_takesKey_51 rfl rfl rfl rfl ?_
      refine v_iconst (n := 53) (v := 0) dX11_takesKey_52 c_0 rfl ?_
      refine v_istore (n := 55) (al' := [.ref m, .int (nI w), .int 4, .int 1, .int 0]) dX11_takesKey_53 rfl rfl rfl ?_
      have hb : true = decide (s.2.2 - s.2.1 = 4) := (decide_eq_true ((nI_eq (a := 4) (by decide) (by have := hw.2.1; omega)).mp hq43).symm).symm
      rw [show ([.ref m, .int (nI w), .int 4, .int 1, .int 0] : List Value) = [.ref m, .int (nI w), .int 4, .int (bi (decide (s.2.2 - s.2.1 = 4) && mtF t s.2.1 w 0)), .int (nI 0)] from by rw [← hb]; rfl]
      exact l_X11_takesKey L h7 hn ht hT hw hK hw3 kk 5 0 (by decide) (by decide)

set_option maxRecDepth 100000 in
set_option maxHeartbeats 1000000 in
theorem b_X11_takesKey {ro : Ro} {S : St} {I : In} {m n w : Nat} {t : Ar} {s : TS} (L : LayM S m) (h7 : I m 7 = nI n) (hn : n ≤ 96) (ht : I (m + 6) = t) (hT : TkM I m t s) (hw : TW t n s) (hK : KyM I m) (hw3 : w < 3) {b : Bool} (h1 : s.1 = 1) (kt : b = true → keyF t s = w) (kf : b = false → V RX11 cX11_takesKey 5 (some .boolean) "takesKey" ro (rmD 2 0 0) (QM 0 0 (KeQ S I m t n s)) 0 0 12 [.ref m, .int (nI (w + 1)), JJ, JJ, JJ] [] S I) : V RX11 cX11_takesKey 5 (some .boolean) "takesKey" ro (rmD 2 0 0) (QM 0 0 (KeQ S I m t n s)) 0 0 106 [.ref m, .int (nI w), .int 4, .int (bi b), JJ] [] S I := by
  refine v_iload_n (n := 107) dX11_takesKey_106 rfl rfl rfl ?_
  refine v_if_eq (n := 110) (tgt := 121) dX11_takesKey_107 (by decide) rfl (fun hq107 => ?_) (fun hq107 => ?_)
  · refine v_iinc (n := 124) (v := (nI w) + 1) (al' := [.ref m, .int ((nI w) + 1), .int 4, .int (bi b), JJ]) dX11_takesKey_121 rfl (by rw [c_1]) rfl rfl rfl ?_
    refine v_goto (tgt := 12) dX11_takesKey_124 (by decide) ?_
    refine v_drop 2 (al' := [.ref m, .int ((nI w) + 1), JJ, .int (bi b), JJ]) rfl ?_
    refine v_drop 3 (al' := [.ref m, .int ((nI w) + 1), JJ, JJ, JJ]) rfl ?_
    rw [nI_1]
    exact kf (bi_0.mp hq107)
  · refine v_aload_n (n := 111) dX11_takesKey_110 rfl rfl rfl ?_
    refine v_iload_n (n := 112) dX11_takesKey_111 rfl rfl rfl ?_
    refine v_putI (n := 115) f_X11_211 rfl (Or.inl rfl) L.s dX11_takesKey_112 rfl ?_
    refine v_aload_n (n := 116) dX11_takesKey_115 rfl rfl rfl ?_
    refine v_callV (n := 119) mc_X11_go l_X11_214 iv_X11_go se_X11_go (ci := 10) ⟨by decide, rfl⟩ L.s (k_X11_go2 L (by rw [sI_k (by decide)]; exact h7) hn (by rw [setI_ne (by omega)]; exact ht) (hT.fr (fun k a1 a2 => sI_k (by omega))) hw (Or.inl h1)) ⟨rfl, rfl⟩ (l8 rfl) ⟨l8 rfl, l8 rfl⟩ rfl rfl (l8 rfl) dX11_takesKey_116 rfl ?_
    rintro _ _ J2 ⟨rfl, hS9, hT2, hF2⟩
    replace hS9 := hS9.symm
    subst hS9
    refine v_iconst (n := 120) (v := 1) dX11_takesKey_119 c_1 rfl ?_
    have hkw := kt (bi_n0.mp hq107)
    refine v_zret rfl (bool_nar (Or.inr rfl)).1 ⟨rfl, Or.inl ⟨by omega, rfl, hT2, ?_, fun k hk => ?_, fun a ha => by rw [hF2.2 a ha, setI_ne ha]⟩⟩ ⟨l8 rfl, l8 rfl⟩ dX11_takesKey_120
    · rw [hF2.1 13 (fun z => absurd z.2 (by decide)), sI_s, hkw]
    · rw [hF2.1 k (fun z => hk (Or.inl z)), sI_k (fun z => hk (Or.inr z))]

theorem ne_t {b c : Bool} (h : (b && c) = false) (hb : b = true) : ¬ c = true := by
  rw [hb, Bool.true_and] at h; rw [h]; decide
set_option maxRecDepth 100000 in
set_option maxHeartbeats 1000000 in
theorem k_X11_takesKey {ro : Ro} {S : St} {I : In} {m n : Nat} {t : Ar} {s : TS} (L : LayM S m) (h7 : I m 7 = nI n) (hn : n ≤ 96) (ht : I (m + 6) = t) (hT : TkM I m t s) (hw : TW t n s) (hK : KyM I m) : Ok mX11_takesKey ro 2 0 0 [.ref m] S I (KeQ S I m t n s) := by
  refine ok_of (al := [.ref m, JJ, JJ, JJ, JJ]) (by decide) (l8 rfl) rfl ?_
  refine v_aload_n (n := 1) dX11_takesKey_0 rfl rfl rfl ?_
  refine v_getI (n := 4) f_X11_199 rfl L.s dX11_takesKey_1 rfl ?_
  refine v_iconst (n := 5) (v := 1) dX11_takesKey_4 c_1 rfl ?_
  refine v_icmp_eq (n := 8) (tgt := 10) dX11_takesKey_5 (by decide) rfl (fun hq5 => ?_) (fun hq5 => ?_)
  · refine v_iconst (n := 11) (v := 0) dX11_takesKey_10 c_0 rfl ?_
    refine v_istore_n (n := 12) (al' := [.ref m, .int 0, JJ, JJ, JJ]) dX11_takesKey_11 rfl rfl rfl rfl ?_
    have h1 := (tk_1 hT hw).mp hq5
    refine s_X11_takesKey (w := 0) L h7 hn ht hT hw hK (by decide) (b_X11_takesKey (w := 0) L h7 hn ht hT hw hK (by decide) h1 (fun q => ?_) (fun e0 => ?_))
    · obtain ⟨q1, q2⟩ := Bool.and_eq_true_iff.mp q
      rw [keyF, if_pos ⟨h1, of_decide_eq_true q1⟩, if_pos q2]
    refine s_X11_takesKey (w := 1) L h7 hn ht hT hw hK (by decide) (b_X11_takesKey (w := 1) L h7 hn ht hT hw hK (by decide) h1 (fun q => ?_) (fun e1 => ?_))
    · obtain ⟨q1, q2⟩ := Bool.and_eq_true_iff.mp q
      rw [keyF, if_pos ⟨h1, of_decide_eq_true q1⟩, if_neg (ne_t e0 q1), if_pos q2]
    refine s_X11_takesKey (w := 2) L h7 hn ht hT hw hK (by decide) (b_X11_takesKey (w := 2) L h7 hn ht hT hw hK (by decide) h1 (fun q => ?_) (fun e2 => ?_))
    · obtain ⟨q1, q2⟩ := Bool.and_eq_true_iff.mp q
      rw [keyF, if_pos ⟨h1, of_decide_eq_true q1⟩, if_neg (ne_t e0 q1), if_neg (ne_t e1 q1), if_pos q2]
    have k3 : keyF t s = 3 := by
      unfold keyF
      by_cases c : s.2.2 - s.2.1 = 4
      · rw [if_pos ⟨h1, c⟩, if_neg (ne_t e0 (decide_eq_true c)), if_neg (ne_t e1 (decide_eq_true c)), if_neg (ne_t e2 (decide_eq_true c))]
      · rw [if_neg (fun z => c z.2)]
    refine v_iload_n (n := 13) dX11_takesKey_12 rfl rfl rfl ?_
    refine v_iconst (n := 14) (v := 3) dX11_takesKey_13 c_3 rfl ?_
    refine v_icmp_ge (n := 17) (tgt := 127) dX11_takesKey_14 (by decide) rfl (fun hq14 => ?_) (fun hq14 => ?_)
    · refine v_iconst (n := 128) (v := 0) dX11_takesKey_127 c_0 rfl ?_
      exact v_zret rfl (bool_nar (Or.inl rfl)).1 ⟨rfl, Or.inr ⟨k3, rfl, rfl⟩⟩ ⟨l8 rfl, l8 rfl⟩ dX11_takesKey_128
    · exact absurd (by decide) hq14
  · refine v_iconst (n := 9) (v := 0) dX11_takesKey_8 c_0 rfl ?_
    exact v_zret rfl (bool_nar (Or.inl rfl)).1 ⟨rfl, Or.inr ⟨if_neg (fun z => hq5 ((tk_1 hT hw).mpr z.1)), rfl, rfl⟩⟩ ⟨l8 rfl, l8 rfl⟩ dX11_takesKey_9

