theorem sI_o {I : In} {a b k j : Nat} {x : Int32} (h : b ≠ a) : setI I a k x b j = I b j := by rw [setI_ne h]
theorem sI_s {I : In} {a k : Nat} {x : Int32} : setI I a k x a k = x := if_pos ⟨rfl, rfl⟩
theorem sI_k {I : In} {a k j : Nat} {x : Int32} (h : j ≠ k) : setI I a k x a j = I a j := if_neg (fun q => h q.2)
/-- the first n places of the row a are those of f -/
def uP (I : In) (a : Nat) (f : Nat → Int32) (n : Nat) : In := fun b j => if b = a ∧ j < n then f j else I b j
theorem uP_0 {I : In} {a : Nat} {f : Nat → Int32} : uP I a f 0 = I := by funext b j; simp [uP]
theorem uP_s {I : In} {a n : Nat} {f : Nat → Int32} : setI (uP I a f n) a n (f n) = uP I a f (n + 1) := by
  funext b j
  unfold setI uP
  by_cases h1 : b = a
  · subst h1
    by_cases h2 : j = n
    · subst h2
      simp
    · have h3 : (j < n + 1) = (j < n) := by simp only [eq_iff_iff]; omega
      simp [h2, h3]
  · simp [h1]
theorem uP_o {I : In} {a b n j : Nat} {f : Nat → Int32} (h : b ≠ a) : uP I a f n b j = I b j := if_neg (fun q => h q.1)
theorem uP_ne {I : In} {a b n : Nat} {f : Nat → Int32} (h : b ≠ a) : uP I a f n b = I b := by funext j; exact uP_o h
theorem uP_k {I : In} {a n j : Nat} {f : Nat → Int32} (h : n ≤ j) : uP I a f n a j = I a j := if_neg (fun q => absurd q.2 (by omega))
theorem uP_in {I : In} {a n j : Nat} {f : Nat → Int32} (h : j < n) : uP I a f n a j = f j := if_pos ⟨rfl, h⟩
theorem le_out {a b : Nat} (h : nI a ≤ nI b) (ha : a < 2 ^ 31) (hb : b < 2 ^ 31) : a ≤ b := (nI_leI ha hb).mp h
theorem nle_in {a b : Nat} (h : ¬ nI a ≤ nI b) (ha : a < 2 ^ 31) (hb : b < 2 ^ 31) : b < a := by
  rcases Nat.lt_or_ge b a with q | q
  · exact q
  · exact absurd ((nI_leI ha hb).mpr q) h
def sm (f : Nat → Int32) : Nat → Int32
  | 0 => 0
  | n + 1 => sm f n + f n
def smY (f g : Nat → Int32) (y : Int32) : Nat → Int32
  | 0 => 0
  | n + 1 => if f n = y then smY f g y n + g n else smY f g y n

set_option maxRecDepth 100000 in
set_option maxHeartbeats 1000000 in
theorem k_X5_add {ro : Ro} {S : St} {I : In} {r n : Nat} {x y w : Int32} (L : LayR S r) (hn : I r 4 = nI n) (hlt : n < 10) : Ok mX5_add ro 0 0 0 [.ref r, .int x, .int y, .int w] S I (RI (nI n) S (setI (setI (setI (setI (setI I (r + 1) n x) (r + 2) n y) (r + 3) n w) (r + 4) n 0) r 4 (nI (n + 1)))) := by
  refine ok_of (al := [.ref r, .int x, .int y, .int w]) (by decide) (l8 rfl) rfl ?_
  refine v_aload_n (n := 1) dX5_add_0 rfl rfl rfl ?_
  refine v_getI (n := 4) f_X5_24 rfl L.s dX5_add_1 rfl ?_
  refine v_bipush (n := 6) (v := 10) dX5_add_4 b_10 rfl ?_
  refine v_icmp_lt (n := 9) (tgt := 12) dX5_add_6 (by decide) rfl (fun hq6 => ?_) (fun hq6 => ?_)
  · refine v_aload_n (n := 13) dX5_add_12 rfl rfl rfl ?_
    refine v_getR (n := 16) f_X5_9 rfl L.s L.g0 dX5_add_13 rfl ?_
    refine v_aload_n (n := 17) dX5_add_16 rfl rfl rfl ?_
    refine v_getI (n := 20) f_X5_24 rfl L.s dX5_add_17 rfl ?_
    refine v_iload_n (n := 21) dX5_add_20 rfl rfl rfl ?_
    refine v_iast (n := 22) (j := n) L.c0 (ix_of (by simp [setI, hn]) hlt (by decide)) dX5_add_21 rfl ?_
    refine v_aload_n (n := 23) dX5_add_22 rfl rfl rfl ?_
    refine v_getR (n := 26) f_X5_15 rfl L.s L.g1 dX5_add_23 rfl ?_
    refine v_aload_n (n := 27) dX5_add_26 rfl rfl rfl ?_
    refine v_getI (n := 30) f_X5_24 rfl L.s dX5_add_27 rfl ?_
    refine v_iload_n (n := 31) dX5_add_30 rfl rfl rfl ?_
    refine v_iast (n := 32) (j := n) L.c1 (ix_of (by simp [setI, hn]) hlt (by decide)) dX5_add_31 rfl ?_
    refine v_aload_n (n := 33) dX5_add_32 rfl rfl rfl ?_
    refine v_getR (n := 36) f_X5_18 rfl L.s L.g2 dX5_add_33 rfl ?_
    refine v_aload_n (n := 37) dX5_add_36 rfl rfl rfl ?_
    refine v_getI (n := 40) f_X5_24 rfl L.s dX5_add_37 rfl ?_
    refine v_iload_n (n := 41) dX5_add_40 rfl rfl rfl ?_
    refine v_iast (n := 42) (j := n) L.c2 (ix_of (by simp [setI, hn]) hlt (by decide)) dX5_add_41 rfl ?_
    refine v_aload_n (n := 43) dX5_add_42 rfl rfl rfl ?_
    refine v_getR (n := 46) f_X5_21 rfl L.s L.g3 dX5_add_43 rfl ?_
    refine v_aload_n (n := 47) dX5_add_46 rfl rfl rfl ?_
    refine v_getI (n := 50) f_X5_24 rfl L.s dX5_add_47 rfl ?_
    refine v_iconst (n := 51) (v := 0) dX5_add_50 c_0 rfl ?_
    refine v_iast (n := 52) (j := n) L.c3 (ix_of (by simp [setI, hn]) hlt (by decide)) dX5_add_51 rfl ?_
    refine v_aload_n (n := 53) dX5_add_52 rfl rfl rfl ?_
    refine v_dup (n := 54) dX5_add_53 rfl rfl ?_
    refine v_getI (n := 57) f_X5_24 rfl L.s dX5_add_54 rfl ?_
    refine v_iconst (n := 58) (v := 1) dX5_add_57 c_1 rfl ?_
    refine v_iadd (n := 59) dX5_add_58 rfl ?_
    refine v_putI (n := 62) f_X5_24 rfl (Or.inl rfl) L.s dX5_add_59 rfl ?_
    refine v_aload_n (n := 63) dX5_add_62 rfl rfl rfl ?_
    refine v_getI (n := 66) f_X5_24 rfl L.s dX5_add_63 rfl ?_
    refine v_iconst (n := 67) (v := 1) dX5_add_66 c_1 rfl ?_
    refine v_isub (n := 68) dX5_add_67 rfl ?_
    exact v_rI rfl (by simp [setI, hn]) rfl (by simp [hn, setI, nI_succ]) ⟨l8 rfl, l8 rfl⟩ dX5_add_68
  · exact absurd (by rw [hn]; exact nI_lt hlt (by decide)) hq6

set_option maxRecDepth 100000 in
set_option maxHeartbeats 1000000 in
theorem k_X5_squeezeThrough {ro : Ro} {S : St} {I : In} {r n y : Nat} {w : Int32} (L : LayR S r) (hn : I r 4 = nI n) (hn10 : n ≤ 10) (hy : y < n) : Ok mX5_squeezeThrough ro 1 0 0 [.ref r, .int (nI y), .int w] S I (RI (if I (r + 3) y < w then 1 else 0) S (if I (r + 3) y < w then setI (setI I (r + 4) y (I (r + 4) y + 1)) (r + 3) y w else I)) := by
  refine ok_of (al := [.ref r, .int (nI y), .int w]) (by decide) (l8 rfl) rfl ?_
  refine v_aload_n (n := 1) dX5_squeezeThrough_0 rfl rfl rfl ?_
  refine v_iload_n (n := 2) dX5_squeezeThrough_1 rfl rfl rfl ?_
  refine v_cVi (n := 5) (x := (bi (rHas (I r 4) (nI y)))) mc_X5_has l_X5_29 iv_X5_has se_X5_has (ci := 4) ⟨by decide, rfl⟩ L.s (k_X5_has L) ⟨rfl, rfl⟩ (l8 rfl) ⟨l8 rfl, l8 rfl⟩ rfl rfl (l8 rfl) dX5_squeezeThrough_2 rfl ?_
  refine v_if_eq (n := 8) (tgt := 18) dX5_squeezeThrough_5 (by decide) rfl (fun hq5 => ?_) (fun hq5 => ?_)
  · exact absurd (bi_0.mp hq5) (by rw [hn]; simp [rHas, nI_pos (show y < 2 ^ 31 by omega), nI_ge hy (show n < 2 ^ 31 by omega)])
  · refine v_iload_n (n := 9) dX5_squeezeThrough_8 rfl rfl rfl ?_
    refine v_aload_n (n := 10) dX5_squeezeThrough_9 rfl rfl rfl ?_
    refine v_getR (n := 13) f_X5_18 rfl L.s L.g2 dX5_squeezeThrough_10 rfl ?_
    refine v_iload_n (n := 14) dX5_squeezeThrough_13 rfl rfl rfl ?_
    refine v_iald (n := 15) (j := y) L.c2 (ix_nI (by omega) (by decide)) dX5_squeezeThrough_14 rfl ?_
    refine v_icmp_gt (n := 18) (tgt := 20) dX5_squeezeThrough_15 (by decide) rfl (fun hq15 => ?_) (fun hq15 => ?_)
    · refine v_aload_n (n := 21) dX5_squeezeThrough_20 rfl rfl rfl ?_
      refine v_getR (n := 24) f_X5_21 rfl L.s L.g3 dX5_squeezeThrough_21 rfl ?_
      refine v_iload_n (n := 25) dX5_squeezeThrough_24 rfl rfl rfl ?_
      refine v_dup2 (n := 26) dX5_squeezeThrough_25 ⟨rfl, rfl⟩ rfl ?_
      refine v_iald (n := 27) (j := y) L.c3 (ix_nI (by omega) (by decide)) dX5_squeezeThrough_26 rfl ?_
      refine v_iconst (n := 28) (v := 1) dX5_squeezeThrough_27 c_1 rfl ?_
      refine v_iadd (n := 29) dX5_squeezeThrough_28 rfl ?_
      refine v_iast (n := 30) (j := y) L.c3 (ix_nI (by omega) (by decide)) dX5_squeezeThrough_29 rfl ?_
      refine v_aload_n (n := 31) dX5_squeezeThrough_30 rfl rfl rfl ?_
      refine v_getR (n := 34) f_X5_18 rfl L.s L.g2 dX5_squeezeThrough_31 rfl ?_
      refine v_iload_n (n := 35) dX5_squeezeThrough_34 rfl rfl rfl ?_
      refine v_iload_n (n := 36) dX5_squeezeThrough_35 rfl rfl rfl ?_
      refine v_iast (n := 37) (j := y) L.c2 (ix_nI (by omega) (by decide)) dX5_squeezeThrough_36 rfl ?_
      refine v_iconst (n := 38) (v := 1) dX5_squeezeThrough_37 c_1 rfl ?_
      exact v_rI rfl (by rw [if_pos hq15]) rfl (by rw [if_pos hq15]) ⟨l8 rfl, l8 rfl⟩ dX5_squeezeThrough_38
    · refine v_iconst (n := 19) (v := 0) dX5_squeezeThrough_18 c_0 rfl ?_
      exact v_rI rfl (by rw [if_neg hq15]) rfl (by rw [if_neg hq15]) ⟨l8 rfl, l8 rfl⟩ dX5_squeezeThrough_19

set_option maxRecDepth 100000 in
set_option maxHeartbeats 1000000 in
theorem l_X5_snowOn {ro : Ro} {S : St} {I : In} {r n : Nat} {x : Int32} (L : LayR S r) (hn : I r 4 = nI n) (hn10 : n ≤ 10) : ∀ k i, i ≤ n → n < i + k → V RX5 cX5_snowOn 3 (none) "snowOn" ro (rmD 1 0 0) (QM 0 0 (RV S (uP I (r + 2) (fun j => mn 999 (I (r + 2) j + x)) n))) 0 0 2 [.ref r, .int x, .int (nI i)] [] S (uP I (r + 2) (fun j => mn 999 (I (r + 2) j + x)) i) := by
  intro k
  induction k with
  | zero => intro i hi hk; exact absurd hk (by omega)
  | succ k ih =>
    intro i hi hk
    refine v_iload_n (n := 3) dX5_snowOn_2 rfl rfl rfl ?_
    refine v_aload_n (n := 4) dX5_snowOn_3 rfl rfl rfl ?_
    refine v_getI (n := 7) f_X5_24 rfl L.s dX5_snowOn_4 rfl ?_
    refine v_icmp_ge (n := 10) (tgt := 36) dX5_snowOn_7 (by decide) rfl (fun hq7 => ?_) (fun hq7 => ?_)
    · rw [uP_o (by omega), hn] at hq7
      obtain rfl : i = n := Nat.le_antisymm hi (le_out hq7 (by omega) (by omega))
      exact v_rV rfl rfl rfl ⟨l8 rfl, l8 rfl⟩ dX5_snowOn_36
    · rw [uP_o (by omega), hn] at hq7
      have hlt := nle_in hq7 (by omega) (by omega)
      refine v_aload_n (n := 11) dX5_snowOn_10 rfl rfl rfl ?_
      refine v_getR (n := 14) f_X5_15 rfl L.s L.g1 dX5_snowOn_11 rfl ?_
      refine v_iload_n (n := 15) dX5_snowOn_14 rfl rfl rfl ?_
      refine v_sipush (n := 18) (v := 999) dX5_snowOn_15 s_999 rfl ?_
      refine v_aload_n (n := 19) dX5_snowOn_18 rfl rfl rfl ?_
      refine v_getR (n := 22) f_X5_15 rfl L.s L.g1 dX5_snowOn_19 rfl ?_
      refine v_iload_n (n := 23) dX5_snowOn_22 rfl rfl rfl ?_
      refine v_iald (n := 24) (j := i) L.c1 (ix_nI (by omega) (by decide)) dX5_snowOn_23 rfl ?_
      refine v_iload_n (n := 25) dX5_snowOn_24 rfl rfl rfl ?_
      refine v_iadd (n := 26) dX5_snowOn_25 rfl ?_
      refine v_min (n := 29) l_X5_33 min_sta ini_J9 min_code ⟨rfl, rfl⟩ ⟨l8 rfl, l8 rfl⟩ (l8 rfl) dX5_snowOn_26 rfl ?_
      refine v_iast (n := 30) (j := i) L.c1 (ix_nI (by omega) (by decide)) dX5_snowOn_29 rfl ?_
      refine v_iinc (n := 33) (v := (nI i) + 1) (al' := [.ref r, .int x, .int ((nI i) + 1)]) dX5_snowOn_30 rfl (by rw [c_1]) rfl rfl rfl ?_
      refine v_goto (tgt := 2) dX5_snowOn_33 (by decide) ?_
      rw [nI_1]
      refine v_I (I' := uP I (r + 2) (fun j => mn 999 (I (r + 2) j + x)) (i + 1)) (by rw [uP_k (Nat.le_refl _)]; exact uP_s (f := (fun j => mn 999 (I (r + 2) j + x)))) ?_
      exact ih (i + 1) hlt (by omega)

set_option maxRecDepth 100000 in
set_option maxHeartbeats 1000000 in
theorem k_X5_snowOn {ro : Ro} {S : St} {I : In} {r n : Nat} {x : Int32} (L : LayR S r) (hn : I r 4 = nI n) (hn10 : n ≤ 10) : Ok mX5_snowOn ro 1 0 0 [.ref r, .int x] S I (RV S (uP I (r + 2) (fun j => mn 999 (I (r + 2) j + x)) n)) := by
  refine ok_of (al := [.ref r, .int x, JJ]) (by decide) (l8 rfl) rfl ?_
  refine v_iconst (n := 1) (v := 0) dX5_snowOn_0 c_0 rfl ?_
  refine v_istore_n (n := 2) (al' := [.ref r, .int x, .int 0]) dX5_snowOn_1 rfl rfl rfl rfl ?_
  refine v_I (I' := uP I (r + 2) (fun j => mn 999 (I (r + 2) j + x)) 0) uP_0.symm ?_
  exact l_X5_snowOn L hn hn10 (n + 1) 0 (Nat.zero_le _) (by omega)

set_option maxRecDepth 100000 in
set_option maxHeartbeats 1000000 in
theorem l_X5_brokenOfAll {ro : Ro} {S : St} {I : In} {r n : Nat} (L : LayR S r) (hn : I r 4 = nI n) (hn10 : n ≤ 10) : ∀ k i, i ≤ n → n < i + k → V RX5 cX5_brokenOfAll 3 (some .int) "brokenOfAll" ro (rmD 0 0 0) (QM 0 0 (RI (sm (I (r + 4)) n) S I)) 0 0 4 [.ref r, .int (sm (I (r + 4)) i), .int (nI i)] [] S I := by
  intro k
  induction k with
  | zero => intro i hi hk; exact absurd hk (by omega)
  | succ k ih =>
    intro i hi hk
    refine v_iload_n (n := 5) dX5_brokenOfAll_4 rfl rfl rfl ?_
    refine v_aload_n (n := 6) dX5_brokenOfAll_5 rfl rfl rfl ?_
    refine v_getI (n := 9) f_X5_24 rfl L.s dX5_brokenOfAll_6 rfl ?_
    refine v_icmp_ge (n := 12) (tgt := 27) dX5_brokenOfAll_9 (by decide) rfl (fun hq9 => ?_) (fun hq9 => ?_)
    · rw [hn] at hq9
      obtain rfl : i = n := Nat.le_antisymm hi (le_out hq9 (by omega) (by omega))
      refine v_iload_n (n := 28) dX5_brokenOfAll_27 rfl rfl rfl ?_
      exact v_rI rfl rfl rfl rfl ⟨l8 rfl, l8 rfl⟩ dX5_brokenOfAll_28
    · rw [hn] at hq9
      have hlt := nle_in hq9 (by omega) (by omega)
      refine v_iload_n (n := 13) dX5_brokenOfAll_12 rfl rfl rfl ?_
      refine v_aload_n (n := 14) dX5_brokenOfAll_13 rfl rfl rfl ?_
      refine v_getR (n := 17) f_X5_21 rfl L.s L.g3 dX5_brokenOfAll_14 rfl ?_
      refine v_iload_n (n := 18) dX5_brokenOfAll_17 rfl rfl rfl ?_
      refine v_iald (n := 19) (j := i) L.c3 (ix_nI (by omega) (by decide)) dX5_brokenOfAll_18 rfl ?_
      refine v_iadd (n := 20) dX5_brokenOfAll_19 rfl ?_
      refine v_istore_n (n := 21) (al' := [.ref r, .int ((sm (I (r + 4)) i) + (I (r + 4) i)), .int (nI i)]) dX5_brokenOfAll_20 rfl rfl rfl rfl ?_
      refine v_iinc (n := 24) (v := (nI i) + 1) (al' := [.ref r, .int ((sm (I (r + 4)) i) + (I (r + 4) i)), .int ((nI i) + 1)]) dX5_brokenOfAll_21 rfl (by rw [c_1]) rfl rfl rfl ?_
      refine v_goto (tgt := 4) dX5_brokenOfAll_24 (by decide) ?_
      rw [nI_1]
      exact ih (i + 1) hlt (by omega)

set_option maxRecDepth 100000 in
set_option maxHeartbeats 1000000 in
theorem k_X5_brokenOfAll {ro : Ro} {S : St} {I : In} {r n : Nat} (L : LayR S r) (hn : I r 4 = nI n) (hn10 : n ≤ 10) : Ok mX5_brokenOfAll ro 0 0 0 [.ref r] S I (RI (sm (I (r + 4)) n) S I) := by
  refine ok_of (al := [.ref r, JJ, JJ]) (by decide) (l8 rfl) rfl ?_
  refine v_iconst (n := 1) (v := 0) dX5_brokenOfAll_0 c_0 rfl ?_
  refine v_istore_n (n := 2) (al' := [.ref r, .int 0, JJ]) dX5_brokenOfAll_1 rfl rfl rfl rfl ?_
  refine v_iconst (n := 3) (v := 0) dX5_brokenOfAll_2 c_0 rfl ?_
  refine v_istore_n (n := 4) (al' := [.ref r, .int 0, .int 0]) dX5_brokenOfAll_3 rfl rfl rfl rfl ?_
  exact l_X5_brokenOfAll L hn hn10 (n + 1) 0 (Nat.zero_le _) (by omega)

set_option maxRecDepth 100000 in
set_option maxHeartbeats 1000000 in
theorem l_X5_snowOfAll {ro : Ro} {S : St} {I : In} {r n : Nat} (L : LayR S r) (hn : I r 4 = nI n) (hn10 : n ≤ 10) : ∀ k i, i ≤ n → n < i + k → V RX5 cX5_snowOfAll 3 (some .int) "snowOfAll" ro (rmD 0 0 0) (QM 0 0 (RI (sm (I (r + 2)) n) S I)) 0 0 4 [.ref r, .int (sm (I (r + 2)) i), .int (nI i)] [] S I := by
  intro k
  induction k with
  | zero => intro i hi hk; exact absurd hk (by omega)
  | succ k ih =>
    intro i hi hk
    refine v_iload_n (n := 5) dX5_snowOfAll_4 rfl rfl rfl ?_
    refine v_aload_n (n := 6) dX5_snowOfAll_5 rfl rfl rfl ?_
    refine v_getI (n := 9) f_X5_24 rfl L.s dX5_snowOfAll_6 rfl ?_
    refine v_icmp_ge (n := 12) (tgt := 27) dX5_snowOfAll_9 (by decide) rfl (fun hq9 => ?_) (fun hq9 => ?_)
    · rw [hn] at hq9
      obtain rfl : i = n := Nat.le_antisymm hi (le_out hq9 (by omega) (by omega))
      refine v_iload_n (n := 28) dX5_snowOfAll_27 rfl rfl rfl ?_
      exact v_rI rfl rfl rfl rfl ⟨l8 rfl, l8 rfl⟩ dX5_snowOfAll_28
    · rw [hn] at hq9
      have hlt := nle_in hq9 (by omega) (by omega)
      refine v_iload_n (n := 13) dX5_snowOfAll_12 rfl rfl rfl ?_
      refine v_aload_n (n := 14) dX5_snowOfAll_13 rfl rfl rfl ?_
      refine v_getR (n := 17) f_X5_15 rfl L.s L.g1 dX5_snowOfAll_14 rfl ?_
      refine v_iload_n (n := 18) dX5_snowOfAll_17 rfl rfl rfl ?_
      refine v_iald (n := 19) (j := i) L.c1 (ix_nI (by omega) (by decide)) dX5_snowOfAll_18 rfl ?_
      refine v_iadd (n := 20) dX5_snowOfAll_19 rfl ?_
      refine v_istore_n (n := 21) (al' := [.ref r, .int ((sm (I (r + 2)) i) + (I (r + 2) i)), .int (nI i)]) dX5_snowOfAll_20 rfl rfl rfl rfl ?_
      refine v_iinc (n := 24) (v := (nI i) + 1) (al' := [.ref r, .int ((sm (I (r + 2)) i) + (I (r + 2) i)), .int ((nI i) + 1)]) dX5_snowOfAll_21 rfl (by rw [c_1]) rfl rfl rfl ?_
      refine v_goto (tgt := 4) dX5_snowOfAll_24 (by decide) ?_
      rw [nI_1]
      exact ih (i + 1) hlt (by omega)

set_option maxRecDepth 100000 in
set_option maxHeartbeats 1000000 in
theorem k_X5_snowOfAll {ro : Ro} {S : St} {I : In} {r n : Nat} (L : LayR S r) (hn : I r 4 = nI n) (hn10 : n ≤ 10) : Ok mX5_snowOfAll ro 0 0 0 [.ref r] S I (RI (sm (I (r + 2)) n) S I) := by
  refine ok_of (al := [.ref r, JJ, JJ]) (by decide) (l8 rfl) rfl ?_
  refine v_iconst (n := 1) (v := 0) dX5_snowOfAll_0 c_0 rfl ?_
  refine v_istore_n (n := 2) (al' := [.ref r, .int 0, JJ]) dX5_snowOfAll_1 rfl rfl rfl rfl ?_
  refine v_iconst (n := 3) (v := 0) dX5_snowOfAll_2 c_0 rfl ?_
  refine v_istore_n (n := 4) (al' := [.ref r, .int 0, .int 0]) dX5_snowOfAll_3 rfl rfl rfl rfl ?_
  exact l_X5_snowOfAll L hn hn10 (n + 1) 0 (Nat.zero_le _) (by omega)

set_option maxRecDepth 100000 in
set_option maxHeartbeats 1000000 in
theorem l_X0_led {ro : Ro} {S : St} {I : In} {b n : Nat} {y : Int32} (L : LayB S b) (hn : I b 3 = nI n) (hn10 : n ≤ 30) : ∀ k i, i ≤ n → n < i + k → V RX0 cX0_led 4 (some .int) "led" ro (rmD 0 0 0) (QM 0 0 (RI (smY (I (b + 1)) (I (b + 2)) y n) S I)) 0 0 4 [.ref b, .int y, .int (smY (I (b + 1)) (I (b + 2)) y i), .int (nI i)] [] S I := by
  intro k
  induction k with
  | zero => intro i hi hk; exact absurd hk (by omega)
  | succ k ih =>
    intro i hi hk
    refine v_iload_n (n := 5) dX0_led_4 rfl rfl rfl ?_
    refine v_aload_n (n := 6) dX0_led_5 rfl rfl rfl ?_
    refine v_getI (n := 9) f_X0_21 rfl L.s dX0_led_6 rfl ?_
    refine v_icmp_ge (n := 12) (tgt := 37) dX0_led_9 (by decide) rfl (fun hq9 => ?_) (fun hq9 => ?_)
    · rw [hn] at hq9
      obtain rfl : i = n := Nat.le_antisymm hi (le_out hq9 (by omega) (by omega))
      refine v_iload_n (n := 38) dX0_led_37 rfl rfl rfl ?_
      exact v_rI rfl rfl rfl rfl ⟨l8 rfl, l8 rfl⟩ dX0_led_38
    · rw [hn] at hq9
      have hlt := nle_in hq9 (by omega) (by omega)
      refine v_aload_n (n := 13) dX0_led_12 rfl rfl rfl ?_
      refine v_getR (n := 16) f_X0_9 rfl L.s L.g0 dX0_led_13 rfl ?_
      refine v_iload_n (n := 17) dX0_led_16 rfl rfl rfl ?_
      refine v_iald (n := 18) (j := i) L.c0 (ix_nI (by omega) (by decide)) dX0_led_17 rfl ?_
      refine v_iload_n (n := 19) dX0_led_18 rfl rfl rfl ?_
      refine v_icmp_ne (n := 22) (tgt := 31) dX0_led_19 (by decide) rfl (fun hq19 => ?_) (fun hq19 => ?_)
      · refine v_iinc (n := 34) (v := (nI i) + 1) (al' := [.ref b, .int y, .int (smY (I (b + 1)) (I (b + 2)) y i), .int ((nI i) + 1)]) dX0_led_31 rfl (by rw [c_1]) rfl rfl rfl ?_
        refine v_goto (tgt := 4) dX0_led_34 (by decide) ?_
        rw [nI_1]
        rw [show smY (I (b + 1)) (I (b + 2)) y i = smY (I (b + 1)) (I (b + 2)) y (i + 1) from (if_neg hq19).symm]
        exact ih (i + 1) hlt (by omega)
      · refine v_iload_n (n := 23) dX0_led_22 rfl rfl rfl ?_
        refine v_aload_n (n := 24) dX0_led_23 rfl rfl rfl ?_
        refine v_getR (n := 27) f_X0_15 rfl L.s L.g1 dX0_led_24 rfl ?_
        refine v_iload_n (n := 28) dX0_led_27 rfl rfl rfl ?_
        refine v_iald (n := 29) (j := i) L.c1 (ix_nI (by omega) (by decide)) dX0_led_28 rfl ?_
        refine v_iadd (n := 30) dX0_led_29 rfl ?_
        refine v_istore_n (n := 31) (al' := [.ref b, .int y, .int ((smY (I (b + 1)) (I (b + 2)) y i) + (I (b + 2) i)), .int (nI i)]) dX0_led_30 rfl rfl rfl rfl ?_
        refine v_iinc (n := 34) (v := (nI i) + 1) (al' := [.ref b, .int y, .int ((smY (I (b + 1)) (I (b + 2)) y i) + (I (b + 2) i)), .int ((nI i) + 1)]) dX0_led_31 rfl (by rw [c_1]) rfl rfl rfl ?_
        refine v_goto (tgt := 4) dX0_led_34 (by decide) ?_
        rw [nI_1]
        rw [show smY (I (b + 1)) (I (b + 2)) y i + I (b + 2) i = smY (I (b + 1)) (I (b + 2)) y (i + 1) from (if_pos hq19).symm]
        exact ih (i + 1) hlt (by omega)

set_option maxRecDepth 100000 in
set_option maxHeartbeats 1000000 in
theorem k_X0_led {ro : Ro} {S : St} {I : In} {b n : Nat} {y : Int32} (L : LayB S b) (hn : I b 3 = nI n) (hn10 : n ≤ 30) : Ok mX0_led ro 0 0 0 [.ref b, .int y] S I (RI (smY (I (b + 1)) (I (b + 2)) y n) S I) := by
  refine ok_of (al := [.ref b, .int y, JJ, JJ]) (by decide) (l8 rfl) rfl ?_
  refine v_iconst (n := 1) (v := 0) dX0_led_0 c_0 rfl ?_
  refine v_istore_n (n := 2) (al' := [.ref b, .int y, .int 0, JJ]) dX0_led_1 rfl rfl rfl rfl ?_
  refine v_iconst (n := 3) (v := 0) dX0_led_2 c_0 rfl ?_
  refine v_istore_n (n := 4) (al' := [.ref b, .int y, .int 0, .int 0]) dX0_led_3 rfl rfl rfl rfl ?_
  exact l_X0_led L hn hn10 (n + 1) 0 (Nat.zero_le _) (by omega)

