/-! ===== the reference reads a word or sign ===== -/
def Fr (m : Nat) (K : Nat → Prop) (I J : In) : Prop := (∀ k, ¬ K k → J m k = I m k) ∧ ∀ a, a ≠ m → J a = I a
theorem Fr.rf {m : Nat} {K : Nat → Prop} {I : In} : Fr m K I I := ⟨fun _ _ => rfl, fun _ _ => rfl⟩
theorem Fr.set {m k : Nat} {K : Nat → Prop} {I J : In} {x : Int32} (h : Fr m K I J) (hk : K k) : Fr m K I (setI J m k x) := ⟨fun j hj => by rw [sI_k (fun z => hj (by rw [z]; exact hk))]; exact h.1 j hj, fun a ha => by rw [setI_ne ha]; exact h.2 a ha⟩
theorem Fr.tr {m : Nat} {K : Nat → Prop} {I J J2 : In} (h : Fr m K I J) (h2 : Fr m K J J2) : Fr m K I J2 := ⟨fun k hk => (h2.1 k hk).trans (h.1 k hk), fun a ha => (h2.2 a ha).trans (h.2 a ha)⟩
theorem Fr.mono {m : Nat} {K K2 : Nat → Prop} {I J : In} (h : Fr m K I J) (h2 : ∀ k, K k → K2 k) : Fr m K2 I J := ⟨fun k hk => h.1 k (fun z => hk (h2 k z)), h.2⟩
def K5 (k : Nat) : Prop := 8 ≤ k ∧ k ≤ 12
theorem srt_1 {c : Int32} : srt c = 1 ↔ 97 ≤ c ∧ c ≤ 122 := by
  unfold srt
  by_cases h : 97 ≤ c ∧ c ≤ 122
  · rw [if_pos h]; exact ⟨fun _ => h, fun _ => rfl⟩
  · rw [if_neg h]
    by_cases h2 : 48 ≤ c ∧ c ≤ 57
    · rw [if_pos h2]; exact ⟨(fun z => by cases z), fun z => absurd z h⟩
    · rw [if_neg h2]; exact ⟨(fun z => by cases z), fun z => absurd z h⟩
theorem srt_2 {c : Int32} : srt c = 2 ↔ 48 ≤ c ∧ c ≤ 57 := by
  unfold srt
  by_cases h : 97 ≤ c ∧ c ≤ 122
  · rw [if_pos h]
    refine ⟨(fun z => by cases z), fun z => ?_⟩
    have := Int32.le_trans h.1 z.2
    exact absurd this (by decide)
  · rw [if_neg h]
    by_cases h2 : 48 ≤ c ∧ c ≤ 57
    · rw [if_pos h2]; exact ⟨fun _ => h2, fun _ => rfl⟩
    · rw [if_neg h2]; exact ⟨(fun z => by cases z), fun z => absurd z h2⟩
theorem srt_3 {c : Int32} (h1 : ¬ srt c = 1) (h2 : ¬ srt c = 2) : srt c = 3 := by have := srt_123 c; omega
def TkM (I : In) (m : Nat) (t : Ar) (s : TS) : Prop := I m 8 = nI s.2.2 ∧ I m 9 = nI s.2.1 ∧ I m 10 = nI (if s.1 = 2 ∧ 4 < s.2.2 - s.2.1 then 4 else s.1) ∧ (s.1 = 1 ∨ s.1 = 3 → I m 11 = t s.2.1) ∧ (s.1 = 2 → s.2.2 - s.2.1 ≤ 4 → I m 11 = numV t s.2.1 (s.2.2 - s.2.1)) ∧ (s.1 = 1 ∨ s.1 = 2 → I m 12 = nI s.2.2) ∧ (s.1 = 3 → (I m 12).toInt < s.2.2)
def GoR (S : St) (I : In) (m : Nat) (t : Ar) (n : Nat) (s : TS) : Option Value → St → In → Prop := fun r S' I' => r = none ∧ S' = S ∧ TkM I' m t (nxT t n s) ∧ Fr m K5 I I'
theorem nx_0 {t : Ar} {n p : Nat} {s : TS} (hp : spP t n s.2.2 = p) (h : n ≤ p) : nxT t n s = (0, p, p) := by
  unfold nxT; rw [hp, if_pos h]
theorem nx_3 {t : Ar} {n p : Nat} {s : TS} (hp : spP t n s.2.2 = p) (h : p < n) (h3 : srt (t p) = 3) : nxT t n s = (3, p, p + 1) := by
  unfold nxT; rw [hp, if_neg (by omega), if_pos h3]
theorem nx_w {t : Ar} {n p c : Nat} {s : TS} {cl : Bool} (hp : spP t n s.2.2 = p) (h : p < n) (hc : srt (t p) = c) (h3 : ¬ c = 3) (hcl : cl = decide ((s.1 = 1 ∨ s.1 = 2) ∧ p = s.2.2)) : nxT t n s = (if cl = true then 4 else c, p, rnP t n c p) := by
  unfold nxT
  rw [hp, if_neg (by omega), hc, if_neg h3, rn_go h hc, hcl]
  by_cases q : (s.1 = 1 ∨ s.1 = 2) ∧ p = s.2.2
  · rw [if_pos q, if_pos (decide_eq_true q)]
  · rw [if_neg q, if_neg (by rw [decide_eq_false q]; decide)]
theorem clo {t : Ar} {n p : Nat} {s : TS} {e : Int32} (hs : s.2.2 ≤ p) (hp : p ≤ 96) (h1 : s.1 = 1 ∨ s.1 = 2 → e = nI s.2.2) (h2 : ¬ (s.1 = 1 ∨ s.1 = 2) → e.toInt < s.2.2) : nI p = e ↔ ((s.1 = 1 ∨ s.1 = 2) ∧ p = s.2.2) := by
  by_cases q : s.1 = 1 ∨ s.1 = 2
  · rw [h1 q, nI_eq (by omega) (by omega)]
    exact ⟨fun z => ⟨q, z⟩, fun z => z.2⟩
  · refine ⟨fun z => ?_, fun z => absurd z.1 q⟩
    have := h2 q
    rw [← z, nI_toInt (by omega)] at this
    omega

set_option maxRecDepth 100000 in
set_option maxHeartbeats 1000000 in
theorem k_X11_isLetter {ro : Ro} {S : St} {I : In} {m n p : Nat} {t : Ar} (L : LayM S m) (h7 : I m 7 = nI n) (hn : n ≤ 96) (ht : I (m + 6) = t) (hp : p ≤ 96) : Ok mX11_isLetter ro 0 0 0 [.ref m, .int (nI p)] S I (RI (bi (decide (p < n ∧ srt (t p) = 1))) S I) := by
  refine ok_of (al := [.ref m, .int (nI p)]) (by decide) (l8 rfl) rfl ?_
  refine v_iload_n (n := 1) dX11_isLetter_0 rfl rfl rfl ?_
  refine v_aload_n (n := 2) dX11_isLetter_1 rfl rfl rfl ?_
  refine v_getI (n := 5) f_X11_186 rfl L.s dX11_isLetter_2 rfl ?_
  rw [h7]
  refine v_icmp_ge (n := 8) (tgt := 34) dX11_isLetter_5 (by decide) rfl (fun hq5 => ?_) (fun hq5 => ?_)
  · refine v_iconst (n := 35) (v := 0) dX11_isLetter_34 c_0 rfl ?_
    exact v_rZ rfl (by rw [decide_eq_false (fun z => absurd (le_out hq5 (by omega) (by omega)) (by omega))]; rfl) rfl rfl ⟨l8 rfl, l8 rfl⟩ dX11_isLetter_35
  · have hlt := nle_in hq5 (by omega) (by omega)
    refine v_aload_n (n := 9) dX11_isLetter_8 rfl rfl rfl ?_
    refine v_getR (n := 12) f_X11_25 rfl L.s L.g6 dX11_isLetter_9 rfl ?_
    refine v_iload_n (n := 13) dX11_isLetter_12 rfl rfl rfl ?_
    refine v_iald (n := 14) (j := p) L.c6 (ix_nI (by omega) (by decide)) dX11_isLetter_13 rfl ?_
    rw [ht]
    refine v_bipush (n := 16) (v := 97) dX11_isLetter_14 b_97 rfl ?_
    refine v_icmp_lt (n := 19) (tgt := 34) dX11_isLetter_16 (by decide) rfl (fun hq16 => ?_) (fun hq16 => ?_)
    · refine v_iconst (n := 35) (v := 0) dX11_isLetter_34 c_0 rfl ?_
      exact v_rZ rfl (by rw [decide_eq_false (fun z => Int32.not_lt.mpr (srt_1.mp z.2).1 hq16)]; rfl) rfl rfl ⟨l8 rfl, l8 rfl⟩ dX11_isLetter_35
    · refine v_aload_n (n := 20) dX11_isLetter_19 rfl rfl rfl ?_
      refine v_getR (n := 23) f_X11_25 rfl L.s L.g6 dX11_isLetter_20 rfl ?_
      refine v_iload_n (n := 24) dX11_isLetter_23 rfl rfl rfl ?_
      refine v_iald (n := 25) (j := p) L.c6 (ix_nI (by omega) (by decide)) dX11_isLetter_24 rfl ?_
      rw [ht]
      refine v_bipush (n := 27) (v := 122) dX11_isLetter_25 b_122 rfl ?_
      refine v_icmp_gt (n := 30) (tgt := 34) dX11_isLetter_27 (by decide) rfl (fun hq27 => ?_) (fun hq27 => ?_)
      · refine v_iconst (n := 35) (v := 0) dX11_isLetter_34 c_0 rfl ?_
        exact v_rZ rfl (by rw [decide_eq_false (fun z => Int32.not_lt.mpr (srt_1.mp z.2).2 hq27)]; rfl) rfl rfl ⟨l8 rfl, l8 rfl⟩ dX11_isLetter_35
      · refine v_iconst (n := 31) (v := 1) dX11_isLetter_30 c_1 rfl ?_
        refine v_goto (tgt := 35) dX11_isLetter_31 (by decide) ?_
        exact v_rZ rfl (by rw [decide_eq_true ⟨hlt, srt_1.mpr ⟨Int32.not_lt.mp hq16, Int32.not_lt.mp hq27⟩⟩]; rfl) rfl rfl ⟨l8 rfl, l8 rfl⟩ dX11_isLetter_35

set_option maxRecDepth 100000 in
set_option maxHeartbeats 1000000 in
theorem k_X11_isFigure {ro : Ro} {S : St} {I : In} {m n p : Nat} {t : Ar} (L : LayM S m) (h7 : I m 7 = nI n) (hn : n ≤ 96) (ht : I (m + 6) = t) (hp : p ≤ 96) : Ok mX11_isFigure ro 0 0 0 [.ref m, .int (nI p)] S I (RI (bi (decide (p < n ∧ srt (t p) = 2))) S I) := by
  refine ok_of (al := [.ref m, .int (nI p)]) (by decide) (l8 rfl) rfl ?_
  refine v_iload_n (n := 1) dX11_isFigure_0 rfl rfl rfl ?_
  refine v_aload_n (n := 2) dX11_isFigure_1 rfl rfl rfl ?_
  refine v_getI (n := 5) f_X11_186 rfl L.s dX11_isFigure_2 rfl ?_
  rw [h7]
  refine v_icmp_ge (n := 8) (tgt := 34) dX11_isFigure_5 (by decide) rfl (fun hq5 => ?_) (fun hq5 => ?_)
  · refine v_iconst (n := 35) (v := 0) dX11_isFigure_34 c_0 rfl ?_
    exact v_rZ rfl (by rw [decide_eq_false (fun z => absurd (le_out hq5 (by omega) (by omega)) (by omega))]; rfl) rfl rfl ⟨l8 rfl, l8 rfl⟩ dX11_isFigure_35
  · have hlt := nle_in hq5 (by omega) (by omega)
    refine v_aload_n (n := 9) dX11_isFigure_8 rfl rfl rfl ?_
    refine v_getR (n := 12) f_X11_25 rfl L.s L.g6 dX11_isFigure_9 rfl ?_
    refine v_iload_n (n := 13) dX11_isFigure_12 rfl rfl rfl ?_
    refine v_iald (n := 14) (j := p) L.c6 (ix_nI (by omega) (by decide)) dX11_isFigure_13 rfl ?_
    rw [ht]
    refine v_bipush (n := 16) (v := 48) dX11_isFigure_14 b_48 rfl ?_
    refine v_icmp_lt (n := 19) (tgt := 34) dX11_isFigure_16 (by decide) rfl (fun hq16 => ?_) (fun hq16 => ?_)
    · refine v_iconst (n := 35) (v := 0) dX11_isFigure_34 c_0 rfl ?_
      exact v_rZ rfl (by rw [decide_eq_false (fun z => Int32.not_lt.mpr (srt_2.mp z.2).1 hq16)]; rfl) rfl rfl ⟨l8 rfl, l8 rfl⟩ dX11_isFigure_35
    · refine v_aload_n (n := 20) dX11_isFigure_19 rfl rfl rfl ?_
      refine v_getR (n := 23) f_X11_25 rfl L.s L.g6 dX11_isFigure_20 rfl ?_
      refine v_iload_n (n := 24) dX11_isFigure_23 rfl rfl rfl ?_
      refine v_iald (n := 25) (j := p) L.c6 (ix_nI (by omega) (by decide)) dX11_isFigure_24 rfl ?_
      rw [ht]
      refine v_bipush (n := 27) (v := 57) dX11_isFigure_25 b_57 rfl ?_
      refine v_icmp_gt (n := 30) (tgt := 34) dX11_isFigure_27 (by decide) rfl (fun hq27 => ?_) (fun hq27 => ?_)
      · refine v_iconst (n := 35) (v := 0) dX11_isFigure_34 c_0 rfl ?_
        exact v_rZ rfl (by rw [decide_eq_false (fun z => Int32.not_lt.mpr (srt_2.mp z.2).2 hq27)]; rfl) rfl rfl ⟨l8 rfl, l8 rfl⟩ dX11_isFigure_35
      · refine v_iconst (n := 31) (v := 1) dX11_isFigure_30 c_1 rfl ?_
        refine v_goto (tgt := 35) dX11_isFigure_31 (by decide) ?_
        exact v_rZ rfl (by rw [decide_eq_true ⟨hlt, srt_2.mpr ⟨Int32.not_lt.mp hq16, Int32.not_lt.mp hq27⟩⟩]; rfl) rfl rfl ⟨l8 rfl, l8 rfl⟩ dX11_isFigure_35

set_option maxRecDepth 100000 in
set_option maxHeartbeats 1000000 in
theorem l1_X11_go {ro : Ro} {S : St} {I : In} {m n : Nat} {t : Ar} {Q : Option Value → St → In → Prop} (L : LayM S m) (h7 : I m 7 = nI n) (hn : n ≤ 96) (ht : I (m + 6) = t) {e : Int32} : ∀ k p J, n - p = k → p ≤ n → Fr m K5 I J → J m 8 = nI p → J m 12 = e → (∀ J2, Fr m K5 I J2 → J2 m 8 = nI (spP t n p) → J2 m 12 = e → V RX11 cX11_go 2 (none) "go" ro (rmD 1 0 0) (QM 0 0 Q) 0 0 38 [.ref m, JJ] [] S J2) → V RX11 cX11_go 2 (none) "go" ro (rmD 1 0 0) (QM 0 0 Q) 0 0 0 [.ref m, JJ] [] S J := by
  intro k
  induction k with
  | zero =>
    intro p J hk hpn hJ h8 he kk
    have j7 : J m 7 = nI n := by rw [hJ.1 7 (fun z => absurd z.1 (by decide)), h7]
    have j6 : J (m + 6) = t := by rw [hJ.2 _ (by omega), ht]
    refine v_aload_n (n := 1) dX11_go_0 rfl rfl rfl ?_
    refine v_getI (n := 4) f_X11_190 rfl L.s dX11_go_1 rfl ?_
    rw [h8]
    refine v_aload_n (n := 5) dX11_go_4 rfl rfl rfl ?_
    refine v_getI (n := 8) f_X11_186 rfl L.s dX11_go_5 rfl ?_
    rw [j7]
    refine v_icmp_ge (n := 11) (tgt := 38) dX11_go_8 (by decide) rfl (fun hq8 => ?_) (fun hq8 => ?_)
    · exact kk J hJ (by rw [sp_no (fun z => absurd (le_out hq8 (by omega) (by omega)) (by omega))]; exact h8) he
    · have hlt := nle_in hq8 (by omega) (by omega)
      refine v_aload_n (n := 12) dX11_go_11 rfl rfl rfl ?_
      refine v_getR (n := 15) f_X11_25 rfl L.s L.g6 dX11_go_12 rfl ?_
      refine v_aload_n (n := 16) dX11_go_15 rfl rfl rfl ?_
      refine v_getI (n := 19) f_X11_190 rfl L.s dX11_go_16 rfl ?_
      rw [h8]
      refine v_iald (n := 20) (j := p) L.c6 (ix_nI (by omega) (by decide)) dX11_go_19 rfl ?_
      rw [j6]
      refine v_bipush (n := 22) (v := 32) dX11_go_20 b_32 rfl ?_
      refine v_icmp_ne (n := 25) (tgt := 38) dX11_go_22 (by decide) rfl (fun hq22 => ?_) (fun hq22 => ?_)
      · exact kk J hJ (by rw [sp_no (fun z => hq22 z.2)]; exact h8) he
      · refine v_aload_n (n := 26) dX11_go_25 rfl rfl rfl ?_
        refine v_dup (n := 27) dX11_go_26 rfl rfl ?_
        refine v_getI (n := 30) f_X11_190 rfl L.s dX11_go_27 rfl ?_
        rw [h8]
        refine v_iconst (n := 31) (v := 1) dX11_go_30 c_1 rfl ?_
        refine v_iadd (n := 32) dX11_go_31 rfl ?_
        rw [nI_1]
        refine v_putI (n := 35) f_X11_190 rfl (Or.inl rfl) L.s dX11_go_32 rfl ?_
        refine v_goto (tgt := 0) dX11_go_35 (by decide) ?_
        exact absurd hlt (by omega)
  | succ k ih =>
    intro p J hk hpn hJ h8 he kk
    have j7 : J m 7 = nI n := by rw [hJ.1 7 (fun z => absurd z.1 (by decide)), h7]
    have j6 : J (m + 6) = t := by rw [hJ.2 _ (by omega), ht]
    refine v_aload_n (n := 1) dX11_go_0 rfl rfl rfl ?_
    refine v_getI (n := 4) f_X11_190 rfl L.s dX11_go_1 rfl ?_
    rw [h8]
    refine v_aload_n (n := 5) dX11_go_4 rfl rfl rfl ?_
    refine v_getI (n := 8) f_X11_186 rfl L.s dX11_go_5 rfl ?_
    rw [j7]
    refine v_icmp_ge (n := 11) (tgt := 38) dX11_go_8 (by decide) rfl (fun hq8 => ?_) (fun hq8 => ?_)
    · exact kk J hJ (by rw [sp_no (fun z => absurd (le_out hq8 (by omega) (by omega)) (by omega))]; exact h8) he
    · have hlt := nle_in hq8 (by omega) (by omega)
      refine v_aload_n (n := 12) dX11_go_11 rfl rfl rfl ?_
      refine v_getR (n := 15) f_X11_25 rfl L.s L.g6 dX11_go_12 rfl ?_
      refine v_aload_n (n := 16) dX11_go_15 rfl rfl rfl ?_
      refine v_getI (n := 19) f_X11_190 rfl L.s dX11_go_16 rfl ?_
      rw [h8]
      refine v_iald (n := 20) (j := p) L.c6 (ix_nI (by omega) (by decide)) dX11_go_19 rfl ?_
      rw [j6]
      refine v_bipush (n := 22) (v := 32) dX11_go_20 b_32 rfl ?_
      refine v_icmp_ne (n := 25) (tgt := 38) dX11_go_22 (by decide) rfl (fun hq22 => ?_) (fun hq22 => ?_)
      · exact kk J hJ (by rw [sp_no (fun z => hq22 z.2)]; exact h8) he
      · refine v_aload_n (n := 26) dX11_go_25 rfl rfl rfl ?_
        refine v_dup (n := 27) dX11_go_26 rfl rfl ?_
        refine v_getI (n := 30) f_X11_190 rfl L.s dX11_go_27 rfl ?_
        rw [h8]
        refine v_iconst (n := 31) (v := 1) dX11_go_30 c_1 rfl ?_
        refine v_iadd (n := 32) dX11_go_31 rfl ?_
        rw [nI_1]
        refine v_putI (n := 35) f_X11_190 rfl (Or.inl rfl) L.s dX11_go_32 rfl ?_
        refine v_goto (tgt := 0) dX11_go_35 (by decide) ?_
        exact ih (p + 1) _ (by omega) (by omega) (hJ.set ⟨by decide, by decide⟩) sI_s (by rw [sI_k (by decide)]; exact he) (fun J2 a b c => kk J2 a (by rw [sp_go hlt hq22]; exact b) c)

set_option maxRecDepth 100000 in
set_option maxHeartbeats 1000000 in
theorem l2_X11_go {ro : Ro} {S : St} {I : In} {m n : Nat} {t : Ar} {Q : Option Value → St → In → Prop} (L : LayM S m) (h7 : I m 7 = nI n) (hn : n ≤ 96) (ht : I (m + 6) = t) {p : Nat} {cl : Bool} : ∀ k q J, n - q = k → q ≤ n → Fr m K5 I J → J m 8 = nI q → J m 9 = nI p → (∀ J2, Fr m K5 I J2 → J2 m 8 = nI (rnP t n 1 q) → J2 m 9 = nI p → V RX11 cX11_go 2 (none) "go" ro (rmD 1 0 0) (QM 0 0 Q) 0 0 117 [.ref m, .int (bi cl)] [] S J2) → V RX11 cX11_go 2 (none) "go" ro (rmD 1 0 0) (QM 0 0 Q) 0 0 93 [.ref m, .int (bi cl)] [] S J := by
  intro k
  induction k with
  | zero =>
    intro q J hk hqn hJ h8 h9 kk
    have j7 : J m 7 = nI n := by rw [hJ.1 7 (fun z => absurd z.1 (by decide)), h7]
    have j6 : J (m + 6) = t := by rw [hJ.2 _ (by omega), ht]
    refine v_aload_n (n := 94) dX11_go_93 rfl rfl rfl ?_
    refine v_aload_n (n := 95) dX11_go_94 rfl rfl rfl ?_
    refine v_getI (n := 98) f_X11_190 rfl L.s dX11_go_95 rfl ?_
    rw [h8]
    refine v_cVi (n := 101) (x := (bi (decide (q < n ∧ srt (t q) = 1)))) mc_X11_isLetter l_X11_202 iv_X11_isLetter se_X11_isLetter (ci := 10) ⟨by decide, rfl⟩ L.s (k_X11_isLetter L j7 hn j6 (by omega)) ⟨rfl, rfl⟩ (l8 rfl) ⟨l8 rfl, l8 rfl⟩ rfl rfl (l8 rfl) dX11_go_98 rfl ?_
    refine v_if_eq (n := 104) (tgt := 117) dX11_go_101 (by decide) rfl (fun hq101 => ?_) (fun hq101 => ?_)
    · exact kk J hJ (by rw [rn_no (of_decide_eq_false (bi_0.mp hq101))]; exact h8) h9
    · refine v_aload_n (n := 105) dX11_go_104 rfl rfl rfl ?_
      refine v_dup (n := 106) dX11_go_105 rfl rfl ?_
      refine v_getI (n := 109) f_X11_190 rfl L.s dX11_go_106 rfl ?_
      rw [h8]
      refine v_iconst (n := 110) (v := 1) dX11_go_109 c_1 rfl ?_
      refine v_iadd (n := 111) dX11_go_110 rfl ?_
      rw [nI_1]
      refine v_putI (n := 114) f_X11_190 rfl (Or.inl rfl) L.s dX11_go_111 rfl ?_
      refine v_goto (tgt := 93) dX11_go_114 (by decide) ?_
      have hd := of_decide_eq_true (bi_n0.mp hq101)
      exact absurd hd.1 (by omega)
  | succ k ih =>
    intro q J hk hqn hJ h8 h9 kk
    have j7 : J m 7 = nI n := by rw [hJ.1 7 (fun z => absurd z.1 (by decide)), h7]
    have j6 : J (m + 6) = t := by rw [hJ.2 _ (by omega), ht]
    refine v_aload_n (n := 94) dX11_go_93 rfl rfl rfl ?_
    refine v_aload_n (n := 95) dX11_go_94 rfl rfl rfl ?_
    refine v_getI (n := 98) f_X11_190 rfl L.s dX11_go_95 rfl ?_
    rw [h8]
    refine v_cVi (n := 101) (x := (bi (decide (q < n ∧ srt (t q) = 1)))) mc_X11_isLetter l_X11_202 iv_X11_isLetter se_X11_isLetter (ci := 10) ⟨by decide, rfl⟩ L.s (k_X11_isLetter L j7 hn j6 (by omega)) ⟨rfl, rfl⟩ (l8 rfl) ⟨l8 rfl, l8 rfl⟩ rfl rfl (l8 rfl) dX11_go_98 rfl ?_
    refine v_if_eq (n := 104) (tgt := 117) dX11_go_101 (by decide) rfl (fun hq101 => ?_) (fun hq101 => ?_)
    · exact kk J hJ (by rw [rn_no (of_decide_eq_false (bi_0.mp hq101))]; exact h8) h9
    · refine v_aload_n (n := 105) dX11_go_104 rfl rfl rfl ?_
      refine v_dup (n := 106) dX11_go_105 rfl rfl ?_
      refine v_getI (n := 109) f_X11_190 rfl L.s dX11_go_106 rfl ?_
      rw [h8]
      refine v_iconst (n := 110) (v := 1) dX11_go_109 c_1 rfl ?_
      refine v_iadd (n := 111) dX11_go_110 rfl ?_
      rw [nI_1]
      refine v_putI (n := 114) f_X11_190 rfl (Or.inl rfl) L.s dX11_go_111 rfl ?_
      refine v_goto (tgt := 93) dX11_go_114 (by decide) ?_
      have hd := of_decide_eq_true (bi_n0.mp hq101)
      exact ih (q + 1) _ (by omega) (by omega) (hJ.set ⟨by decide, by decide⟩) sI_s (by rw [sI_k (by decide)]; exact h9) (fun J2 a b c => kk J2 a (by rw [rn_go hd.1 hd.2]; exact b) c)

theorem nI_4 {q : Nat} (h : 4 ≤ nI q) (hq : q < 2 ^ 31) : 4 ≤ q := (nI_leI (a := 4) (by decide) hq).mp h
theorem nI_n4 {q : Nat} (h : ¬ 4 ≤ nI q) (hq : q < 2 ^ 31) : q < 4 := by
  rcases Nat.lt_or_ge q 4 with z | z
  · exact z
  · exact absurd ((nI_leI (a := 4) (by decide) hq).mpr z) h
theorem num_4 {t : Ar} {p q : Nat} (h : 4 ≤ q - p) : numV t p (min (q - p) 4) = numV t p (min (q + 1 - p) 4) := by rw [Nat.min_eq_right h, Nat.min_eq_right (by omega)]
theorem num_5 {t : Ar} {p q : Nat} (hpq : p ≤ q) (h : q - p < 4) : 10 * numV t p (min (q - p) 4) + t q - 48 = numV t p (min (q + 1 - p) 4) := by
  rw [Nat.min_eq_left (by omega), Nat.min_eq_left (by omega), show q + 1 - p = q - p + 1 by omega, numV, Int32.mul_comm, show p + (q - p) = q by omega]
set_option maxRecDepth 100000 in
set_option maxHeartbeats 1000000 in
theorem l3_X11_go {ro : Ro} {S : St} {I : In} {m n : Nat} {t : Ar} {Q : Option Value → St → In → Prop} (L : LayM S m) (h7 : I m 7 = nI n) (hn : n ≤ 96) (ht : I (m + 6) = t) {p : Nat} {cl : Bool} : ∀ k q J, n - q = k → q ≤ n → p ≤ q → Fr m K5 I J → J m 8 = nI q → J m 9 = nI p → J m 11 = (numV t p (min (q - p) 4)) → (∀ J2, Fr m K5 I J2 → J2 m 8 = nI (rnP t n 2 q) → J2 m 9 = nI p → J2 m 11 = numV t p (min (rnP t n 2 q - p) 4) → V RX11 cX11_go 2 (none) "go" ro (rmD 1 0 0) (QM 0 0 Q) 0 0 238 [.ref m, .int (bi cl)] [] S J2) → V RX11 cX11_go 2 (none) "go" ro (rmD 1 0 0) (QM 0 0 Q) 0 0 170 [.ref m, .int (bi cl)] [] S J := by
  intro k
  induction k with
  | zero =>
    intro q J hk hqn hpq hJ h8 h9 h11 kk
    have j7 : J m 7 = nI n := by rw [hJ.1 7 (fun z => absurd z.1 (by decide)), h7]
    have j6 : J (m + 6) = t := by rw [hJ.2 _ (by omega), ht]
    refine v_aload_n (n := 171) dX11_go_170 rfl rfl rfl ?_
    refine v_aload_n (n := 172) dX11_go_171 rfl rfl rfl ?_
    refine v_getI (n := 175) f_X11_190 rfl L.s dX11_go_172 rfl ?_
    rw [h8]
    refine v_cVi (n := 178) (x := (bi (decide (q < n ∧ srt (t q) = 2)))) mc_X11_isFigure l_X11_208 iv_X11_isFigure se_X11_isFigure (ci := 10) ⟨by decide, rfl⟩ L.s (k_X11_isFigure L j7 hn j6 (by omega)) ⟨rfl, rfl⟩ (l8 rfl) ⟨l8 rfl, l8 rfl⟩ rfl rfl (l8 rfl) dX11_go_175 rfl ?_
    refine v_if_eq (n := 181) (tgt := 238) dX11_go_178 (by decide) rfl (fun hq178 => ?_) (fun hq178 => ?_)
    · exact kk J hJ (by rw [rn_no (of_decide_eq_false (bi_0.mp hq178))]; exact h8) h9 (by rw [rn_no (of_decide_eq_false (bi_0.mp hq178))]; exact h11)
    · have hd := of_decide_eq_true (bi_n0.mp hq178)
      refine v_aload_n (n := 182) dX11_go_181 rfl rfl rfl ?_
      refine v_aload_n (n := 183) dX11_go_182 rfl rfl rfl ?_
      refine v_getI (n := 186) f_X11_190 rfl L.s dX11_go_183 rfl ?_
      rw [h8]
      refine v_aload_n (n := 187) dX11_go_186 rfl rfl rfl ?_
      refine v_getI (n := 190) f_X11_193 rfl L.s dX11_go_187 rfl ?_
      rw [h9]
      refine v_isub (n := 191) dX11_go_190 rfl ?_
      rw [pk_sub hpq]
      refine v_iconst (n := 192) (v := 4) dX11_go_191 c_4 rfl ?_
      refine v_icmp_ge (n := 195) (tgt := 218) dX11_go_192 (by decide) rfl (fun hq192 => ?_) (fun hq192 => ?_)
      · refine v_aload_n (n := 219) dX11_go_218 rfl rfl rfl ?_
        refine v_getI (n := 222) f_X11_205 rfl L.s dX11_go_219 rfl ?_
        rw [h11]
        refine v_putI (n := 225) f_X11_205 rfl (Or.inl rfl) L.s dX11_go_222 rfl ?_
        refine v_aload_n (n := 226) dX11_go_225 rfl rfl rfl ?_
        refine v_dup (n := 227) dX11_go_226 rfl rfl ?_
        refine v_getI (n := 230) f_X11_190 rfl L.s dX11_go_227 rfl ?_
        rw [sI_k (by decide), h8]
        refine v_iconst (n := 231) (v := 1) dX11_go_230 c_1 rfl ?_
        refine v_iadd (n := 232) dX11_go_231 rfl ?_
        rw [nI_1]
        refine v_putI (n := 235) f_X11_190 rfl (Or.inl rfl) L.s dX11_go_232 rfl ?_
        refine v_goto (tgt := 170) dX11_go_235 (by decide) ?_
        exact absurd hd.1 (by omega)
      · refine v_bipush (n := 197) (v := 10) dX11_go_195 b_10 rfl ?_
        refine v_aload_n (n := 198) dX11_go_197 rfl rfl rfl ?_
        refine v_getI (n := 201) f_X11_205 rfl L.s dX11_go_198 rfl ?_
        rw [h11]
        refine v_imul (n := 202) dX11_go_201 rfl ?_
        refine v_aload_n (n := 203) dX11_go_202 rfl rfl rfl ?_
        refine v_getR (n := 206) f_X11_25 rfl L.s L.g6 dX11_go_203 rfl ?_
        refine v_aload_n (n := 207) dX11_go_206 rfl rfl rfl ?_
        refine v_getI (n := 210) f_X11_190 rfl L.s dX11_go_207 rfl ?_
        rw [h8]
        refine v_iald (n := 211) (j := q) L.c6 (ix_nI (by omega) (by decide)) dX11_go_210 rfl ?_
        rw [j6]
        refine v_iadd (n := 212) dX11_go_211 rfl ?_
        refine v_bipush (n := 214) (v := 48) dX11_go_212 b_48 rfl ?_
        refine v_isub (n := 215) dX11_go_214 rfl ?_
        refine v_goto (tgt := 222) dX11_go_215 (by decide) ?_
        refine v_putI (n := 225) f_X11_205 rfl (Or.inl rfl) L.s dX11_go_222 rfl ?_
        refine v_aload_n (n := 226) dX11_go_225 rfl rfl rfl ?_
        refine v_dup (n := 227) dX11_go_226 rfl rfl ?_
        refine v_getI (n := 230) f_X11_190 rfl L.s dX11_go_227 rfl ?_
        rw [sI_k (by decide), h8]
        refine v_iconst (n := 231) (v := 1) dX11_go_230 c_1 rfl ?_
        refine v_iadd (n := 232) dX11_go_231 rfl ?_
        rw [nI_1]
        refine v_putI (n := 235) f_X11_190 rfl (Or.inl rfl) L.s dX11_go_232 rfl ?_
        refine v_goto (tgt := 170) dX11_go_235 (by decide) ?_
        exact absurd hd.1 (by omega)
  | succ k ih =>
    intro q J hk hqn hpq hJ h8 h9 h11 kk
    have j7 : J m 7 = nI n := by rw [hJ.1 7 (fun z => absurd z.1 (by decide)), h7]
    have j6 : J (m + 6) = t := by rw [hJ.2 _ (by omega), ht]
    refine v_aload_n (n := 171) dX11_go_170 rfl rfl rfl ?_
    refine v_aload_n (n := 172) dX11_go_171 rfl rfl rfl ?_
    refine v_getI (n := 175) f_X11_190 rfl L.s dX11_go_172 rfl ?_
    rw [h8]
    refine v_cVi (n := 178) (x := (bi (decide (q < n ∧ srt (t q) = 2)))) mc_X11_isFigure l_X11_208 iv_X11_isFigure se_X11_isFigure (ci := 10) ⟨by decide, rfl⟩ L.s (k_X11_isFigure L j7 hn j6 (by omega)) ⟨rfl, rfl⟩ (l8 rfl) ⟨l8 rfl, l8 rfl⟩ rfl rfl (l8 rfl) dX11_go_175 rfl ?_
    refine v_if_eq (n := 181) (tgt := 238) dX11_go_178 (by decide) rfl (fun hq178 => ?_) (fun hq178 => ?_)
    · exact kk J hJ (by rw [rn_no (of_decide_eq_false (bi_0.mp hq178))]; exact h8) h9 (by rw [rn_no (of_decide_eq_false (bi_0.mp hq178))]; exact h11)
    · have hd := of_decide_eq_true (bi_n0.mp hq178)
      refine v_aload_n (n := 182) dX11_go_181 rfl rfl rfl ?_
      refine v_aload_n (n := 183) dX11_go_182 rfl rfl rfl ?_
      refine v_getI (n := 186) f_X11_190 rfl L.s dX11_go_183 rfl ?_
      rw [h8]
      refine v_aload_n (n := 187) dX11_go_186 rfl rfl rfl ?_
      refine v_getI (n := 190) f_X11_193 rfl L.s dX11_go_187 rfl ?_
      rw [h9]
      refine v_isub (n := 191) dX11_go_190 rfl ?_
      rw [pk_sub hpq]
      refine v_iconst (n := 192) (v := 4) dX11_go_191 c_4 rfl ?_
      refine v_icmp_ge (n := 195) (tgt := 218) dX11_go_192 (by decide) rfl (fun hq192 => ?_) (fun hq192 => ?_)
      · refine v_aload_n (n := 219) dX11_go_218 rfl rfl rfl ?_
        refine v_getI (n := 222) f_X11_205 rfl L.s dX11_go_219 rfl ?_
        rw [h11]
        refine v_putI (n := 225) f_X11_205 rfl (Or.inl rfl) L.s dX11_go_222 rfl ?_
        refine v_aload_n (n := 226) dX11_go_225 rfl rfl rfl ?_
        refine v_dup (n := 227) dX11_go_226 rfl rfl ?_
        refine v_getI (n := 230) f_X11_190 rfl L.s dX11_go_227 rfl ?_
        rw [sI_k (by decide), h8]
        refine v_iconst (n := 231) (v := 1) dX11_go_230 c_1 rfl ?_
        refine v_iadd (n := 232) dX11_go_231 rfl ?_
        rw [nI_1]
        refine v_putI (n := 235) f_X11_190 rfl (Or.inl rfl) L.s dX11_go_232 rfl ?_
        refine v_goto (tgt := 170) dX11_go_235 (by decide) ?_
        exact ih (q + 1) _ (by omega) (by omega) (by omega) ((hJ.set (k := 11) ⟨by decide, by decide⟩).set ⟨by decide, by decide⟩) sI_s (by rw [sI_k (by decide), sI_k (by decide)]; exact h9) (by rw [sI_k (by decide), sI_s]; exact num_4 (nI_4 hq192 (by omega))) (fun J2 a b c d => kk J2 a (by rw [rn_go hd.1 hd.2]; exact b) c (by rw [rn_go hd.1 hd.2]; exact d))
      · refine v_bipush (n := 197) (v := 10) dX11_go_195 b_10 rfl ?_
        refine v_aload_n (n := 198) dX11_go_197 rfl rfl rfl ?_
        refine v_getI (n := 201) f_X11_205 rfl L.s dX11_go_198 rfl ?_
        rw [h11]
        refine v_imul (n := 202) dX11_go_201 rfl ?_
        refine v_aload_n (n := 203) dX11_go_202 rfl rfl rfl ?_
        refine v_getR (n := 206) f_X11_25 rfl L.s L.g6 dX11_go_203 rfl ?_
        refine v_aload_n (n := 207) dX11_go_206 rfl rfl rfl ?_
        refine v_getI (n := 210) f_X11_190 rfl L.s dX11_go_207 rfl ?_
        rw [h8]
        refine v_iald (n := 211) (j := q) L.c6 (ix_nI (by omega) (by decide)) dX11_go_210 rfl ?_
        rw [j6]
        refine v_iadd (n := 212) dX11_go_211 rfl ?_
        refine v_bipush (n := 214) (v := 48) dX11_go_212 b_48 rfl ?_
        refine v_isub (n := 215) dX11_go_214 rfl ?_
        refine v_goto (tgt := 222) dX11_go_215 (by decide) ?_
        refine v_putI (n := 225) f_X11_205 rfl (Or.inl rfl) L.s dX11_go_222 rfl ?_
        refine v_aload_n (n := 226) dX11_go_225 rfl rfl rfl ?_
        refine v_dup (n := 227) dX11_go_226 rfl rfl ?_
        refine v_getI (n := 230) f_X11_190 rfl L.s dX11_go_227 rfl ?_
        rw [sI_k (by decide), h8]
        refine v_iconst (n := 231) (v := 1) dX11_go_230 c_1 rfl ?_
        refine v_iadd (n := 232) dX11_go_231 rfl ?_
        rw [nI_1]
        refine v_putI (n := 235) f_X11_190 rfl (Or.inl rfl) L.s dX11_go_232 rfl ?_
        refine v_goto (tgt := 170) dX11_go_235 (by decide) ?_
        exact ih (q + 1) _ (by omega) (by omega) (by omega) ((hJ.set (k := 11) ⟨by decide, by decide⟩).set ⟨by decide, by decide⟩) sI_s (by rw [sI_k (by decide), sI_k (by decide)]; exact h9) (by rw [sI_k (by decide), sI_s]; exact num_5 hpq (nI_n4 hq192 (by omega))) (fun J2 a b c d => kk J2 a (by rw [rn_go hd.1 hd.2]; exact b) c (by rw [rn_go hd.1 hd.2]; exact d))

theorem bi_f {b : Bool} (h : bi b = 0) : b = false := bi_0.mp h
theorem bi_t {b : Bool} (h : ¬ bi b = 0) : b = true := bi_n0.mp h
set_option maxRecDepth 100000 in
set_option maxHeartbeats 1000000 in
theorem e2_X11_go {ro : Ro} {S : St} {I : In} {m n : Nat} {t : Ar} (L : LayM S m) (h7 : I m 7 = nI n) (hn : n ≤ 96) (ht : I (m + 6) = t) {p q : Nat} {cl : Bool} {s : TS} {J : In} (hp : p < n) (hJ : Fr m K5 I J) (h8 : J m 8 = nI q) (h9 : J m 9 = nI p) (hnx : nxT t n s = (if cl = true then 4 else 1, p, q)) : V RX11 cX11_go 2 (none) "go" ro (rmD 1 0 0) (QM 0 0 (GoR S I m t n s)) 0 0 117 [.ref m, .int (bi cl)] [] S J := by
  have j7 : J m 7 = nI n := by rw [hJ.1 7 (fun z => absurd z.1 (by decide)), h7]
  have j6 : J (m + 6) = t := by rw [hJ.2 _ (by omega), ht]
  refine v_aload_n (n := 118) dX11_go_117 rfl rfl rfl ?_
  refine v_iload_n (n := 119) dX11_go_118 rfl rfl rfl ?_
  refine v_if_eq (n := 122) (tgt := 126) dX11_go_119 (by decide) rfl (fun hq119 => ?_) (fun hq119 => ?_)
  · refine v_iconst (n := 127) (v := 1) dX11_go_126 c_1 rfl ?_
    refine v_putI (n := 130) f_X11_199 rfl (Or.inl rfl) L.s dX11_go_127 rfl ?_
    refine v_aload_n (n := 131) dX11_go_130 rfl rfl rfl ?_
    refine v_aload_n (n := 132) dX11_go_131 rfl rfl rfl ?_
    refine v_getR (n := 135) f_X11_25 rfl L.s L.g6 dX11_go_132 rfl ?_
    refine v_aload_n (n := 136) dX11_go_135 rfl rfl rfl ?_
    refine v_getI (n := 139) f_X11_193 rfl L.s dX11_go_136 rfl ?_
    rw [sI_k (by decide), h9]
    refine v_iald (n := 140) (j := p) L.c6 (ix_nI (by omega) (by decide)) dX11_go_139 rfl ?_
    rw [setI_ne (by omega), j6]
    refine v_putI (n := 143) f_X11_205 rfl (Or.inl rfl) L.s dX11_go_140 rfl ?_
    refine v_aload_n (n := 144) dX11_go_143 rfl rfl rfl ?_
    refine v_aload_n (n := 145) dX11_go_144 rfl rfl rfl ?_
    refine v_getI (n := 148) f_X11_190 rfl L.s dX11_go_145 rfl ?_
    rw [sI_k (by decide), sI_k (by decide), h8]
    refine v_putI (n := 151) f_X11_196 rfl (Or.inl rfl) L.s dX11_go_148 rfl ?_
    refine v_goto (tgt := 303) dX11_go_151 (by decide) ?_
    refine v_vret rfl ⟨rfl, rfl, ?_, ((hJ.set (k := 10) ⟨by decide, by decide⟩).set (k := 11) ⟨by decide, by decide⟩).set ⟨by decide, by decide⟩⟩ ⟨l8 rfl, l8 rfl⟩ dX11_go_303
    rw [hnx]
    obtain rfl := bi_f hq119
    refine ⟨by rw [sI_k (by decide), sI_k (by decide), sI_k (by decide)]; exact h8, by rw [sI_k (by decide), sI_k (by decide), sI_k (by decide)]; exact h9, by rw [sI_k (by decide), sI_k (by decide), sI_s]; rfl, fun _ => by rw [sI_k (by decide), sI_s], (fun z => by cases z), fun _ => sI_s, (fun z => by cases z)⟩
  · refine v_iconst (n := 123) (v := 4) dX11_go_122 c_4 rfl ?_
    refine v_goto (tgt := 127) dX11_go_123 (by decide) ?_
    refine v_putI (n := 130) f_X11_199 rfl (Or.inl rfl) L.s dX11_go_127 rfl ?_
    refine v_aload_n (n := 131) dX11_go_130 rfl rfl rfl ?_
    refine v_aload_n (n := 132) dX11_go_131 rfl rfl rfl ?_
    refine v_getR (n := 135) f_X11_25 rfl L.s L.g6 dX11_go_132 rfl ?_
    refine v_aload_n (n := 136) dX11_go_135 rfl rfl rfl ?_
    refine v_getI (n := 139) f_X11_193 rfl L.s dX11_go_136 rfl ?_
    rw [sI_k (by decide), h9]
    refine v_iald (n := 140) (j := p) L.c6 (ix_nI (by omega) (by decide)) dX11_go_139 rfl ?_
    rw [setI_ne (by omega), j6]
    refine v_putI (n := 143) f_X11_205 rfl (Or.inl rfl) L.s dX11_go_140 rfl ?_
    refine v_aload_n (n := 144) dX11_go_143 rfl rfl rfl ?_
    refine v_aload_n (n := 145) dX11_go_144 rfl rfl rfl ?_
    refine v_getI (n := 148) f_X11_190 rfl L.s dX11_go_145 rfl ?_
    rw [sI_k (by decide), sI_k (by decide), h8]
    refine v_putI (n := 151) f_X11_196 rfl (Or.inl rfl) L.s dX11_go_148 rfl ?_
    refine v_goto (tgt := 303) dX11_go_151 (by decide) ?_
    refine v_vret rfl ⟨rfl, rfl, ?_, ((hJ.set (k := 10) ⟨by decide, by decide⟩).set (k := 11) ⟨by decide, by decide⟩).set ⟨by decide, by decide⟩⟩ ⟨l8 rfl, l8 rfl⟩ dX11_go_303
    rw [hnx]
    obtain rfl := bi_t hq119
    refine ⟨by rw [sI_k (by decide), sI_k (by decide), sI_k (by decide)]; exact h8, by rw [sI_k (by decide), sI_k (by decide), sI_k (by decide)]; exact h9, by rw [sI_k (by decide), sI_k (by decide), sI_s]; rfl, fun _ => by rw [sI_k (by decide), sI_s], (fun z => by cases z), fun _ => sI_s, (fun z => by cases z)⟩

theorem nI_le4 {q : Nat} (h : nI q ≤ 4) (hq : q < 2 ^ 31) : q ≤ 4 := (nI_leI (b := 4) hq (by decide)).mp h
theorem nI_gt4 {q : Nat} (h : ¬ nI q ≤ 4) (hq : q < 2 ^ 31) : 4 < q := by
  rcases Nat.lt_or_ge 4 q with z | z
  · exact z
  · exact absurd ((nI_leI (b := 4) hq (by decide)).mpr z) h
set_option maxRecDepth 100000 in
set_option maxHeartbeats 1000000 in
theorem e3_X11_go {ro : Ro} {S : St} {I : In} {m n : Nat} {t : Ar} (L : LayM S m) (h7 : I m 7 = nI n) (hn : n ≤ 96) (ht : I (m + 6) = t) {p q : Nat} {cl : Bool} {s : TS} {J : In} (hp : p < n) (hpq : p ≤ q) (hqn : q ≤ n) (hJ : Fr m K5 I J) (h8 : J m 8 = nI q) (h9 : J m 9 = nI p) (h11 : J m 11 = (numV t p (min (q - p) 4))) (hnx : nxT t n s = (if cl = true then 4 else 2, p, q)) : V RX11 cX11_go 2 (none) "go" ro (rmD 1 0 0) (QM 0 0 (GoR S I m t n s)) 0 0 238 [.ref m, .int (bi cl)] [] S J := by
  have j7 : J m 7 = nI n := by rw [hJ.1 7 (fun z => absurd z.1 (by decide)), h7]
  have j6 : J (m + 6) = t := by rw [hJ.2 _ (by omega), ht]
  refine v_aload_n (n := 239) dX11_go_238 rfl rfl rfl ?_
  refine v_iload_n (n := 240) dX11_go_239 rfl rfl rfl ?_
  refine v_if_ne (n := 243) (tgt := 256) dX11_go_240 (by decide) rfl (fun hq240 => ?_) (fun hq240 => ?_)
  · refine v_iconst (n := 257) (v := 4) dX11_go_256 c_4 rfl ?_
    refine v_goto (tgt := 261) dX11_go_257 (by decide) ?_
    refine v_putI (n := 264) f_X11_199 rfl (Or.inl rfl) L.s dX11_go_261 rfl ?_
    refine v_aload_n (n := 265) dX11_go_264 rfl rfl rfl ?_
    refine v_aload_n (n := 266) dX11_go_265 rfl rfl rfl ?_
    refine v_getI (n := 269) f_X11_190 rfl L.s dX11_go_266 rfl ?_
    rw [sI_k (by decide), h8]
    refine v_putI (n := 272) f_X11_196 rfl (Or.inl rfl) L.s dX11_go_269 rfl ?_
    refine v_goto (tgt := 303) dX11_go_272 (by decide) ?_
    refine v_vret rfl ⟨rfl, rfl, ?_, (hJ.set (k := 10) ⟨by decide, by decide⟩).set ⟨by decide, by decide⟩⟩ ⟨l8 rfl, l8 rfl⟩ dX11_go_303
    rw [hnx]
    obtain rfl := bi_t hq240
    refine ⟨by rw [sI_k (by decide), sI_k (by decide)]; exact h8, by rw [sI_k (by decide), sI_k (by decide)]; exact h9, by rw [sI_k (by decide), sI_s]; exact rfl, (fun z => by rcases z with z | z <;> cases z), (fun z => by cases z), fun _ => sI_s, (fun z => by cases z)⟩
  · refine v_aload_n (n := 244) dX11_go_243 rfl rfl rfl ?_
    refine v_getI (n := 247) f_X11_190 rfl L.s dX11_go_244 rfl ?_
    rw [h8]
    refine v_aload_n (n := 248) dX11_go_247 rfl rfl rfl ?_
    refine v_getI (n := 251) f_X11_193 rfl L.s dX11_go_248 rfl ?_
    rw [h9]
    refine v_isub (n := 252) dX11_go_251 rfl ?_
    rw [pk_sub hpq]
    refine v_iconst (n := 253) (v := 4) dX11_go_252 c_4 rfl ?_
    refine v_icmp_le (n := 256) (tgt := 260) dX11_go_253 (by decide) rfl (fun hq253 => ?_) (fun hq253 => ?_)
    · refine v_iconst (n := 261) (v := 2) dX11_go_260 c_2 rfl ?_
      refine v_putI (n := 264) f_X11_199 rfl (Or.inl rfl) L.s dX11_go_261 rfl ?_
      refine v_aload_n (n := 265) dX11_go_264 rfl rfl rfl ?_
      refine v_aload_n (n := 266) dX11_go_265 rfl rfl rfl ?_
      refine v_getI (n := 269) f_X11_190 rfl L.s dX11_go_266 rfl ?_
      rw [sI_k (by decide), h8]
      refine v_putI (n := 272) f_X11_196 rfl (Or.inl rfl) L.s dX11_go_269 rfl ?_
      refine v_goto (tgt := 303) dX11_go_272 (by decide) ?_
      refine v_vret rfl ⟨rfl, rfl, ?_, (hJ.set (k := 10) ⟨by decide, by decide⟩).set ⟨by decide, by decide⟩⟩ ⟨l8 rfl, l8 rfl⟩ dX11_go_303
      rw [hnx]
      obtain rfl := bi_0.mp hq240
      refine ⟨by rw [sI_k (by decide), sI_k (by decide)]; exact h8, by rw [sI_k (by decide), sI_k (by decide)]; exact h9, by rw [sI_k (by decide), sI_s]; exact (by rw [if_neg (fun z => absurd z.2 (by have := nI_le4 hq253 (by omega); exact Nat.not_lt.mpr this))]; rfl), (fun z => by rcases z with z | z <;> cases z), fun _ z => by rw [sI_k (by decide), sI_k (by decide)]; rw [h11, Nat.min_eq_left z], fun _ => sI_s, (fun z => by cases z)⟩
    · refine v_iconst (n := 257) (v := 4) dX11_go_256 c_4 rfl ?_
      refine v_goto (tgt := 261) dX11_go_257 (by decide) ?_
      refine v_putI (n := 264) f_X11_199 rfl (Or.inl rfl) L.s dX11_go_261 rfl ?_
      refine v_aload_n (n := 265) dX11_go_264 rfl rfl rfl ?_
      refine v_aload_n (n := 266) dX11_go_265 rfl rfl rfl ?_
      refine v_getI (n := 269) f_X11_190 rfl L.s dX11_go_266 rfl ?_
      rw [sI_k (by decide), h8]
      refine v_putI (n := 272) f_X11_196 rfl (Or.inl rfl) L.s dX11_go_269 rfl ?_
      refine v_goto (tgt := 303) dX11_go_272 (by decide) ?_
      refine v_vret rfl ⟨rfl, rfl, ?_, (hJ.set (k := 10) ⟨by decide, by decide⟩).set ⟨by decide, by decide⟩⟩ ⟨l8 rfl, l8 rfl⟩ dX11_go_303
      rw [hnx]
      obtain rfl := bi_0.mp hq240
      refine ⟨by rw [sI_k (by decide), sI_k (by decide)]; exact h8, by rw [sI_k (by decide), sI_k (by decide)]; exact h9, by rw [sI_k (by decide), sI_s]; exact (by rw [if_pos ⟨rfl, (by have := nI_gt4 hq253 (by omega); exact this)⟩]; rfl), (fun z => by rcases z with z | z <;> cases z), fun _ z => by rw [sI_k (by decide), sI_k (by decide)]; rw [h11, Nat.min_eq_left z], fun _ => sI_s, (fun z => by cases z)⟩

set_option maxRecDepth 100000 in
set_option maxHeartbeats 1000000 in
theorem f_X11_go {ro : Ro} {S : St} {I : In} {m n : Nat} {t : Ar} (L : LayM S m) (h7 : I m 7 = nI n) (hn : n ≤ 96) (ht : I (m + 6) = t) {p : Nat} {cl : Bool} {s : TS} {J : In} (hpn : p ≤ n) (hsp : spP t n s.2.2 = p) (hcl : cl = decide ((s.1 = 1 ∨ s.1 = 2) ∧ p = s.2.2)) (hJ : Fr m K5 I J) (h8 : J m 8 = nI p) (h9 : J m 9 = nI p) (h12 : (J m 12).toInt < (p + 1 : Nat)) : V RX11 cX11_go 2 (none) "go" ro (rmD 1 0 0) (QM 0 0 (GoR S I m t n s)) 0 0 63 [.ref m, .int (bi cl)] [] S J := by
  have j7 : J m 7 = nI n := by rw [hJ.1 7 (fun z => absurd z.1 (by decide)), h7]
  have j6 : J (m + 6) = t := by rw [hJ.2 _ (by omega), ht]
  refine v_aload_n (n := 64) dX11_go_63 rfl rfl rfl ?_
  refine v_getI (n := 67) f_X11_193 rfl L.s dX11_go_64 rfl ?_
  rw [h9]
  refine v_aload_n (n := 68) dX11_go_67 rfl rfl rfl ?_
  refine v_getI (n := 71) f_X11_186 rfl L.s dX11_go_68 rfl ?_
  rw [j7]
  refine v_icmp_ne (n := 74) (tgt := 82) dX11_go_71 (by decide) rfl (fun hq71 => ?_) (fun hq71 => ?_)
  · have hlt : p < n := by have : ¬ p = n := fun z => hq71 (by rw [z]); omega
    refine v_aload_n (n := 83) dX11_go_82 rfl rfl rfl ?_
    refine v_aload_n (n := 84) dX11_go_83 rfl rfl rfl ?_
    refine v_getI (n := 87) f_X11_193 rfl L.s dX11_go_84 rfl ?_
    rw [h9]
    refine v_cVi (n := 90) (x := (bi (decide (p < n ∧ srt (t p) = 1)))) mc_X11_isLetter l_X11_202 iv_X11_isLetter se_X11_isLetter (ci := 10) ⟨by decide, rfl⟩ L.s (k_X11_isLetter L j7 hn j6 (by omega)) ⟨rfl, rfl⟩ (l8 rfl) ⟨l8 rfl, l8 rfl⟩ rfl rfl (l8 rfl) dX11_go_87 rfl ?_
    refine v_if_eq (n := 93) (tgt := 154) dX11_go_90 (by decide) rfl (fun hq90 => ?_) (fun hq90 => ?_)
    · refine v_aload_n (n := 155) dX11_go_154 rfl rfl rfl ?_
      refine v_aload_n (n := 156) dX11_go_155 rfl rfl rfl ?_
      refine v_getI (n := 159) f_X11_193 rfl L.s dX11_go_156 rfl ?_
      rw [h9]
      refine v_cVi (n := 162) (x := (bi (decide (p < n ∧ srt (t p) = 2)))) mc_X11_isFigure l_X11_208 iv_X11_isFigure se_X11_isFigure (ci := 10) ⟨by decide, rfl⟩ L.s (k_X11_isFigure L j7 hn j6 (by omega)) ⟨rfl, rfl⟩ (l8 rfl) ⟨l8 rfl, l8 rfl⟩ rfl rfl (l8 rfl) dX11_go_159 rfl ?_
      refine v_if_eq (n := 165) (tgt := 275) dX11_go_162 (by decide) rfl (fun hq162 => ?_) (fun hq162 => ?_)
      · refine v_aload_n (n := 276) dX11_go_275 rfl rfl rfl ?_
        refine v_iconst (n := 277) (v := 3) dX11_go_276 c_3 rfl ?_
        refine v_putI (n := 280) f_X11_199 rfl (Or.inl rfl) L.s dX11_go_277 rfl ?_
        refine v_aload_n (n := 281) dX11_go_280 rfl rfl rfl ?_
        refine v_aload_n (n := 282) dX11_go_281 rfl rfl rfl ?_
        refine v_getR (n := 285) f_X11_25 rfl L.s L.g6 dX11_go_282 rfl ?_
        refine v_aload_n (n := 286) dX11_go_285 rfl rfl rfl ?_
        refine v_getI (n := 289) f_X11_193 rfl L.s dX11_go_286 rfl ?_
        rw [sI_k (by decide), h9]
        refine v_iald (n := 290) (j := p) L.c6 (ix_nI (by omega) (by decide)) dX11_go_289 rfl ?_
        rw [setI_ne (by omega), j6]
        refine v_putI (n := 293) f_X11_205 rfl (Or.inl rfl) L.s dX11_go_290 rfl ?_
        refine v_aload_n (n := 294) dX11_go_293 rfl rfl rfl ?_
        refine v_dup (n := 295) dX11_go_294 rfl rfl ?_
        refine v_getI (n := 298) f_X11_190 rfl L.s dX11_go_295 rfl ?_
        rw [sI_k (by decide), sI_k (by decide), h8]
        refine v_iconst (n := 299) (v := 1) dX11_go_298 c_1 rfl ?_
        refine v_iadd (n := 300) dX11_go_299 rfl ?_
        rw [nI_1]
        refine v_putI (n := 303) f_X11_190 rfl (Or.inl rfl) L.s dX11_go_300 rfl ?_
        refine v_vret rfl ⟨rfl, rfl, ?_, ((hJ.set (k := 10) ⟨by decide, by decide⟩).set (k := 11) ⟨by decide, by decide⟩).set ⟨by decide, by decide⟩⟩ ⟨l8 rfl, l8 rfl⟩ dX11_go_303
        have hs3 : srt (t p) = 3 := srt_3 (fun z => absurd ⟨hlt, z⟩ (of_decide_eq_false (bi_0.mp hq90))) (fun z => absurd ⟨hlt, z⟩ (of_decide_eq_false (bi_0.mp hq162)))
        rw [nx_3 hsp hlt hs3]
        exact ⟨sI_s, by rw [sI_k (by decide), sI_k (by decide), sI_k (by decide)]; exact h9, by rw [sI_k (by decide), sI_k (by decide), sI_s]; rfl, fun _ => by rw [sI_k (by decide), sI_s], (fun z => by cases z), (fun z => by rcases z with z | z <;> cases z), fun _ => by rw [sI_k (by decide), sI_k (by decide), sI_k (by decide)]; exact h12⟩
      · have hd := of_decide_eq_true (bi_n0.mp hq162)
        refine v_aload_n (n := 166) dX11_go_165 rfl rfl rfl ?_
        refine v_iconst (n := 167) (v := 0) dX11_go_166 c_0 rfl ?_
        refine v_putI (n := 170) f_X11_205 rfl (Or.inl rfl) L.s dX11_go_167 rfl ?_
        refine l3_X11_go L h7 hn ht (p := p) (n - p) p _ rfl hpn (Nat.le_refl _) (hJ.set ⟨by decide, by decide⟩) (by rw [sI_k (by decide)]; exact h8) (by rw [sI_k (by decide)]; exact h9) (by rw [sI_s, Nat.sub_self]; rfl) (fun J2 a b c d => ?_)
        have hrn := rn_le (t := t) (c := 2) (n - p) p rfl hpn
        exact e3_X11_go L h7 hn ht hlt hrn.1 hrn.2.1 a b c d (nx_w hsp hlt hd.2 (by decide) hcl)
    · have hd := of_decide_eq_true (bi_n0.mp hq90)
      refine l2_X11_go L h7 hn ht (n - p) p J rfl hpn hJ h8 h9 (fun J2 a b c => ?_)
      exact e2_X11_go L h7 hn ht hlt a b c (nx_w hsp hlt hd.2 (by decide) hcl)
  · have hpe : p = n := (nI_eq (by omega) (by omega)).mp hq71
    refine v_aload_n (n := 75) dX11_go_74 rfl rfl rfl ?_
    refine v_iconst (n := 76) (v := 0) dX11_go_75 c_0 rfl ?_
    refine v_putI (n := 79) f_X11_199 rfl (Or.inl rfl) L.s dX11_go_76 rfl ?_
    refine v_goto (tgt := 303) dX11_go_79 (by decide) ?_
    refine v_vret rfl ⟨rfl, rfl, ?_, hJ.set ⟨by decide, by decide⟩⟩ ⟨l8 rfl, l8 rfl⟩ dX11_go_303
    rw [nx_0 hsp (by omega)]
    exact ⟨by rw [sI_k (by decide)]; exact h8, by rw [sI_k (by decide)]; exact h9, by rw [sI_s]; rfl, (fun z => by rcases z with z | z <;> cases z), (fun z => by cases z), (fun z => by rcases z with z | z <;> cases z), (fun z => by cases z)⟩

set_option maxRecDepth 100000 in
set_option maxHeartbeats 1000000 in
theorem k_X11_go {ro : Ro} {S : St} {I : In} {m n : Nat} {t : Ar} {s : TS} (L : LayM S m) (h7 : I m 7 = nI n) (hn : n ≤ 96) (ht : I (m + 6) = t) (h8 : I m 8 = nI s.2.2) (hsn : s.2.2 ≤ n) (he1 : s.1 = 1 ∨ s.1 = 2 → I m 12 = nI s.2.2) (he2 : ¬ (s.1 = 1 ∨ s.1 = 2) → (I m 12).toInt < s.2.2) : Ok mX11_go ro 1 0 0 [.ref m] S I (GoR S I m t n s) := by
  refine ok_of (al := [.ref m, JJ]) (by decide) (l8 rfl) rfl ?_
  refine l1_X11_go L h7 hn ht (n - s.2.2) s.2.2 I rfl hsn Fr.rf h8 rfl (fun J2 aF a8 a12 => ?_)
  obtain ⟨hp1, hp2⟩ := sp_le (t := t) (n - s.2.2) s.2.2 rfl hsn
  obtain ⟨p, hpe⟩ : ∃ p, p = spP t n s.2.2 := ⟨_, rfl⟩
  rw [← hpe] at a8 hp1 hp2
  have hpL : p ≤ n := hp2
  have hclo := clo (t := t) (n := n) (p := p) (s := s) (e := I m 12) hp1 (by omega) he1 he2
  have h12 : (I m 12).toInt < (p + 1 : Nat) := by
    by_cases q : s.1 = 1 ∨ s.1 = 2
    · rw [he1 q, nI_toInt (by omega)]; omega
    · have := he2 q; omega
  refine v_aload_n (n := 39) dX11_go_38 rfl rfl rfl ?_
  refine v_aload_n (n := 40) dX11_go_39 rfl rfl rfl ?_
  refine v_getI (n := 43) f_X11_190 rfl L.s dX11_go_40 rfl ?_
  rw [a8]
  refine v_putI (n := 46) f_X11_193 rfl (Or.inl rfl) L.s dX11_go_43 rfl ?_
  refine v_aload_n (n := 47) dX11_go_46 rfl rfl rfl ?_
  refine v_getI (n := 50) f_X11_193 rfl L.s dX11_go_47 rfl ?_
  rw [sI_s]
  refine v_aload_n (n := 51) dX11_go_50 rfl rfl rfl ?_
  refine v_getI (n := 54) f_X11_196 rfl L.s dX11_go_51 rfl ?_
  rw [sI_k (by decide), a12]
  refine v_icmp_ne (n := 57) (tgt := 61) dX11_go_54 (by decide) rfl (fun hq54 => ?_) (fun hq54 => ?_)
  · refine v_iconst (n := 62) (v := 0) dX11_go_61 c_0 rfl ?_
    refine v_istore_n (n := 63) (al' := [.ref m, .int 0]) dX11_go_62 rfl rfl rfl rfl ?_
    have hcl : false = decide ((s.1 = 1 ∨ s.1 = 2) ∧ p = s.2.2) := (decide_eq_false (fun z => hq54 (hclo.mpr z))).symm
    rw [show (0 : Int32) = bi false from rfl]
    exact f_X11_go L h7 hn ht hpL hpe.symm hcl (aF.set ⟨by decide, by decide⟩) (by rw [sI_k (by decide)]; exact a8) sI_s (by rw [sI_k (by decide), a12]; exact h12)
  · refine v_iconst (n := 58) (v := 1) dX11_go_57 c_1 rfl ?_
    refine v_goto (tgt := 62) dX11_go_58 (by decide) ?_
    refine v_istore_n (n := 63) (al' := [.ref m, .int 1]) dX11_go_62 rfl rfl rfl rfl ?_
    have hcl : true = decide ((s.1 = 1 ∨ s.1 = 2) ∧ p = s.2.2) := (decide_eq_true (hclo.mp hq54)).symm
    rw [show (1 : Int32) = bi true from rfl]
    exact f_X11_go L h7 hn ht hpL hpe.symm hcl (aF.set ⟨by decide, by decide⟩) (by rw [sI_k (by decide)]; exact a8) sI_s (by rw [sI_k (by decide), a12]; exact h12)

