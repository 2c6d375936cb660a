/-! ===== sheets and slots of the class ===== -/
def hmF (z p k : Int32) : Bool := !decide (p < 0) && !decide (k < 0) && !decide (z < k) && !decide (z - k < p)
set_option maxRecDepth 100000 in
set_option maxHeartbeats 1000000 in
theorem k_X6_has {ro : Ro} {S : St} {I : In} {a : Nat} {xp : Int32} (L : LaySh S a) : Ok mX6_has ro 0 0 0 [.ref a, .int xp] S I (RI (bi (rHas (I a 2) xp)) S I) := by
  refine ok_of (al := [.ref a, .int xp]) (by decide) (l8 rfl) rfl ?_
  refine v_iload_n (n := 1) dX6_has_0 rfl rfl rfl ?_
  refine v_if_lt (n := 4) (tgt := 16) dX6_has_1 (by decide) rfl (fun hq1 => ?_) (fun hq1 => ?_)
  · refine v_iconst (n := 17) (v := 0) dX6_has_16 c_0 rfl ?_
    exact v_rZ rfl (by simp [rHas, bi, *]) rfl rfl ⟨l8 rfl, l8 rfl⟩ dX6_has_17
  · refine v_iload_n (n := 5) dX6_has_4 rfl rfl rfl ?_
    refine v_aload_n (n := 6) dX6_has_5 rfl rfl rfl ?_
    refine v_getI (n := 9) f_X6_19 rfl L.s dX6_has_6 rfl ?_
    refine v_icmp_ge (n := 12) (tgt := 16) dX6_has_9 (by decide) rfl (fun hq9 => ?_) (fun hq9 => ?_)
    · refine v_iconst (n := 17) (v := 0) dX6_has_16 c_0 rfl ?_
      exact v_rZ rfl (by simp [rHas, bi, *]) rfl rfl ⟨l8 rfl, l8 rfl⟩ dX6_has_17
    · refine v_iconst (n := 13) (v := 1) dX6_has_12 c_1 rfl ?_
      refine v_goto (tgt := 17) dX6_has_13 (by decide) ?_
      exact v_rZ rfl (by simp [rHas, bi, *]) rfl rfl ⟨l8 rfl, l8 rfl⟩ dX6_has_17

set_option maxRecDepth 100000 in
set_option maxHeartbeats 1000000 in
theorem k_X6_hasMany {ro : Ro} {S : St} {I : In} {a : Nat} {xp xk : Int32} (L : LaySh S a) : Ok mX6_hasMany ro 0 0 0 [.ref a, .int xp, .int xk] S I (RI (bi (hmF (I a 2) xp xk)) S I) := by
  refine ok_of (al := [.ref a, .int xp, .int xk]) (by decide) (l8 rfl) rfl ?_
  refine v_iload_n (n := 1) dX6_hasMany_0 rfl rfl rfl ?_
  refine v_if_lt (n := 4) (tgt := 30) dX6_hasMany_1 (by decide) rfl (fun hq1 => ?_) (fun hq1 => ?_)
  · refine v_iconst (n := 31) (v := 0) dX6_hasMany_30 c_0 rfl ?_
    exact v_rZ rfl (by simp [hmF, bi, *]) rfl rfl ⟨l8 rfl, l8 rfl⟩ dX6_hasMany_31
  · refine v_iload_n (n := 5) dX6_hasMany_4 rfl rfl rfl ?_
    refine v_if_lt (n := 8) (tgt := 30) dX6_hasMany_5 (by decide) rfl (fun hq5 => ?_) (fun hq5 => ?_)
    · refine v_iconst (n := 31) (v := 0) dX6_hasMany_30 c_0 rfl ?_
      exact v_rZ rfl (by simp [hmF, bi, *]) rfl rfl ⟨l8 rfl, l8 rfl⟩ dX6_hasMany_31
    · refine v_iload_n (n := 9) dX6_hasMany_8 rfl rfl rfl ?_
      refine v_aload_n (n := 10) dX6_hasMany_9 rfl rfl rfl ?_
      refine v_getI (n := 13) f_X6_19 rfl L.s dX6_hasMany_10 rfl ?_
      refine v_icmp_gt (n := 16) (tgt := 30) dX6_hasMany_13 (by decide) rfl (fun hq13 => ?_) (fun hq13 => ?_)
      · refine v_iconst (n := 31) (v := 0) dX6_hasMany_30 c_0 rfl ?_
        exact v_rZ rfl (by simp [hmF, bi, *]) rfl rfl ⟨l8 rfl, l8 rfl⟩ dX6_hasMany_31
      · refine v_iload_n (n := 17) dX6_hasMany_16 rfl rfl rfl ?_
        refine v_aload_n (n := 18) dX6_hasMany_17 rfl rfl rfl ?_
        refine v_getI (n := 21) f_X6_19 rfl L.s dX6_hasMany_18 rfl ?_
        refine v_iload_n (n := 22) dX6_hasMany_21 rfl rfl rfl ?_
        refine v_isub (n := 23) dX6_hasMany_22 rfl ?_
        refine v_icmp_gt (n := 26) (tgt := 30) dX6_hasMany_23 (by decide) rfl (fun hq23 => ?_) (fun hq23 => ?_)
        · refine v_iconst (n := 31) (v := 0) dX6_hasMany_30 c_0 rfl ?_
          exact v_rZ rfl (by simp [hmF, bi, *]) rfl rfl ⟨l8 rfl, l8 rfl⟩ dX6_hasMany_31
        · refine v_iconst (n := 27) (v := 1) dX6_hasMany_26 c_1 rfl ?_
          refine v_goto (tgt := 31) dX6_hasMany_27 (by decide) ?_
          exact v_rZ rfl (by simp [hmF, bi, *]) rfl rfl ⟨l8 rfl, l8 rfl⟩ dX6_hasMany_31

set_option maxRecDepth 100000 in
set_option maxHeartbeats 1000000 in
theorem l_X6_become {ro : Ro} {S : St} {I : In} {a : Nat} {xs xn : Int32} (L : LaySh S a) : ∀ k i, i ≤ 24 → 24 < i + k → V RX6 cX6_become 4 (none) "become" ro (rmD 0 0 0) (QM 0 0 (RV S (uP (setI (setI I a 1 xs) a 2 xn) (a + 1) (fun _ => 0) 24))) 0 0 12 [.ref a, JJ, JJ, .int (nI i)] [] S (uP (setI (setI I a 1 xs) a 2 xn) (a + 1) (fun _ => 0) i) := by
  intro k
  induction k with
  | zero => intro i hi hk; exact absurd hk (by omega)
  | succ k ih =>
    intro i hi hk
    refine v_iload_n (n := 13) dX6_become_12 rfl rfl rfl ?_
    refine v_bipush (n := 15) (v := 24) dX6_become_13 b_24 rfl ?_
    refine v_icmp_ge (n := 18) (tgt := 31) dX6_become_15 (by decide) rfl (fun hq15 => ?_) (fun hq15 => ?_)
    · obtain rfl : i = 24 := Nat.le_antisymm hi (le_out (a := 24) hq15 (by decide) (by omega))
      exact v_rV rfl rfl rfl ⟨l8 rfl, l8 rfl⟩ dX6_become_31
    · have hlt := nle_in (a := 24) hq15 (by decide) (by omega)
      refine v_aload_n (n := 19) dX6_become_18 rfl rfl rfl ?_
      refine v_getR (n := 22) f_X6_9 rfl L.s L.g0 dX6_become_19 rfl ?_
      refine v_iload_n (n := 23) dX6_become_22 rfl rfl rfl ?_
      refine v_iconst (n := 24) (v := 0) dX6_become_23 c_0 rfl ?_
      refine v_iast (n := 25) (j := i) L.c0 (ix_nI (by omega) (by decide)) dX6_become_24 rfl ?_
      refine v_iinc (n := 28) (v := (nI i) + 1) (al' := [.ref a, JJ, JJ, .int ((nI i) + 1)]) dX6_become_25 rfl (by rw [c_1]) rfl rfl rfl ?_
      refine v_goto (tgt := 12) dX6_become_28 (by decide) ?_
      rw [nI_1, uP_s (f := fun _ => 0)]
      exact ih (i + 1) hlt (by omega)

set_option maxRecDepth 100000 in
set_option maxHeartbeats 1000000 in
theorem k_X6_become {ro : Ro} {S : St} {I : In} {a : Nat} {xs xn : Int32} (L : LaySh S a) : Ok mX6_become ro 0 0 0 [.ref a, .int xs, .int xn] S I (RV S (uP (setI (setI I a 1 xs) a 2 xn) (a + 1) (fun _ => 0) 24)) := by
  refine ok_of (al := [.ref a, .int xs, .int xn, JJ]) (by decide) (l8 rfl) rfl ?_
  refine v_aload_n (n := 1) dX6_become_0 rfl rfl rfl ?_
  refine v_iload_n (n := 2) dX6_become_1 rfl rfl rfl ?_
  refine v_putI (n := 5) f_X6_15 rfl (Or.inl rfl) L.s dX6_become_2 rfl ?_
  refine v_aload_n (n := 6) dX6_become_5 rfl rfl rfl ?_
  refine v_iload_n (n := 7) dX6_become_6 rfl rfl rfl ?_
  refine v_putI (n := 10) f_X6_19 rfl (Or.inl rfl) L.s dX6_become_7 rfl ?_
  refine v_iconst (n := 11) (v := 0) dX6_become_10 c_0 rfl ?_
  refine v_istore_n (n := 12) (al' := [.ref a, .int xs, .int xn, .int 0]) dX6_become_11 rfl rfl rfl rfl ?_
  refine v_drop 1 (al' := [.ref a, JJ, .int xn, .int 0]) rfl ?_
  refine v_drop 2 (al' := [.ref a, JJ, JJ, .int 0]) rfl ?_
  have q := l_X6_become (ro := ro) (I := I) (xs := xs) (xn := xn) L 25 0 (by decide) (by decide)
  rw [uP_0] at q
  exact q

set_option maxRecDepth 100000 in
set_option maxHeartbeats 1000000 in
theorem k_X6_take {ro : Ro} {S : St} {I : In} {a c : Nat} (L : LaySh S a) (L2 : LaySh S c) (hac : a + 2 ≤ c ∨ c + 2 ≤ a) : Ok mX6_take ro 1 0 0 [.ref a, .ref c] S I (fun r S' I' => r = none ∧ S' = S ∧ I' a 1 = I c 1 ∧ I' a 2 = I c 2 ∧ (∀ j, j < 24 → I' (a + 1) j = I (c + 1) j) ∧ ∀ b, b ≠ a → b ≠ a + 1 → I' b = I b) := by
  refine ok_of (al := [.ref a, .ref c]) (by decide) (l8 rfl) rfl ?_
  refine v_aload_n (n := 1) dX6_take_0 rfl rfl rfl ?_
  refine v_aload_n (n := 2) dX6_take_1 rfl rfl rfl ?_
  refine v_getI (n := 5) f_X6_15 rfl L2.s dX6_take_2 rfl ?_
  refine v_putI (n := 8) f_X6_15 rfl (Or.inl rfl) L.s dX6_take_5 rfl ?_
  refine v_aload_n (n := 9) dX6_take_8 rfl rfl rfl ?_
  refine v_aload_n (n := 10) dX6_take_9 rfl rfl rfl ?_
  refine v_getI (n := 13) f_X6_19 rfl L2.s dX6_take_10 rfl ?_
  refine v_putI (n := 16) f_X6_19 rfl (Or.inl rfl) L.s dX6_take_13 rfl ?_
  refine v_aload_n (n := 17) dX6_take_16 rfl rfl rfl ?_
  refine v_getR (n := 20) f_X6_9 rfl L2.s L2.g0 dX6_take_17 rfl ?_
  refine v_iconst (n := 21) (v := 0) dX6_take_20 c_0 rfl ?_
  refine v_aload_n (n := 22) dX6_take_21 rfl rfl rfl ?_
  refine v_getR (n := 25) f_X6_9 rfl L.s L.g0 dX6_take_22 rfl ?_
  refine v_iconst (n := 26) (v := 0) dX6_take_25 c_0 rfl ?_
  refine v_bipush (n := 28) (v := 24) dX6_take_26 b_24 rfl ?_
  refine v_copy (n := 31) (sp := 0) (dp := 0) (k := 24) l_X6_22 ac_nat ac_sta ini_J10 L2.c0 L.c0 ⟨by decide, by decide⟩ ⟨by decide, by decide⟩ ⟨by decide, by decide⟩ ⟨by decide, by decide⟩ ⟨rfl, rfl⟩ (l8 rfl) dX6_take_28 rfl ?_
  refine v_vret rfl ⟨rfl, rfl, ?_, ?_, fun j hj => ?_, fun b hb1 hb2 => ?_⟩ ⟨l8 rfl, l8 rfl⟩ dX6_take_31
  · rw [cpyI_ne (by omega), sI_k (by decide), sI_s]
  · rw [cpyI_ne (by omega), sI_s, sI_o (by omega)]
  · rw [cpy_0 hj, sI_o (by omega), sI_o (by omega)]
  · rw [cpyI_ne hb2, setI_ne hb1, setI_ne hb1]

set_option maxRecDepth 100000 in
set_option maxHeartbeats 1000000 in
theorem k_X7_takeYard {ro : Ro} {S : St} {I : In} {a r n y : Nat} (L : LaySl S a) (L2 : LayR S r) (hn : I r 4 = nI n) (hn10 : n ≤ 10) (hy : y < n) (har : r + 5 ≤ a ∨ a + 3 ≤ r) : Ok mX7_takeYard ro 1 0 0 [.ref a, .ref r, .int (nI y)] S I (fun r0 S' I' => r0 = none ∧ S' = S ∧ I' a 2 = I (r + 1) y ∧ I' a 3 = I (r + 2) y ∧ I' a 4 = I (r + 3) y ∧ (∀ k, k ≠ 2 → k ≠ 3 → k ≠ 4 → I' a k = I a k) ∧ ∀ b, b ≠ a → I' b = I b) := by
  refine ok_of (al := [.ref a, .ref r, .int (nI y)]) (by decide) (l8 rfl) rfl ?_
  refine v_aload_n (n := 1) dX7_takeYard_0 rfl rfl rfl ?_
  refine v_iload_n (n := 2) dX7_takeYard_1 rfl rfl rfl ?_
  refine v_cVi (n := 5) (x := (bi (rHas (I r 4) (nI y)))) mc_X5_has l_X7_34 iv_X5_has se_X5_has (ci := 4) ⟨by decide, rfl⟩ L2.s (k_X5_has L2) ⟨rfl, rfl⟩ (l8 rfl) ⟨l8 rfl, l8 rfl⟩ rfl rfl (l8 rfl) dX7_takeYard_2 rfl ?_
  refine v_if_eq (n := 8) (tgt := 38) dX7_takeYard_5 (by decide) rfl (fun hq5 => ?_) (fun hq5 => ?_)
  · exact absurd hq5 (by rw [hn, rHas_t hy hn10]; decide)
  · refine v_aload_n (n := 9) dX7_takeYard_8 rfl rfl rfl ?_
    refine v_aload_n (n := 10) dX7_takeYard_9 rfl rfl rfl ?_
    refine v_getR (n := 13) f_X7_40 rfl L2.s L2.g0 dX7_takeYard_10 rfl ?_
    refine v_iload_n (n := 14) dX7_takeYard_13 rfl rfl rfl ?_
    refine v_iald (n := 15) (j := y) L2.c0 (ix_nI (by omega) (by decide)) dX7_takeYard_14 rfl ?_
    refine v_putI (n := 18) f_X7_22 rfl (Or.inl rfl) L.s dX7_takeYard_15 rfl ?_
    refine v_aload_n (n := 19) dX7_takeYard_18 rfl rfl rfl ?_
    refine v_aload_n (n := 20) dX7_takeYard_19 rfl rfl rfl ?_
    refine v_getR (n := 23) f_X7_44 rfl L2.s L2.g1 dX7_takeYard_20 rfl ?_
    refine v_iload_n (n := 24) dX7_takeYard_23 rfl rfl rfl ?_
    refine v_iald (n := 25) (j := y) L2.c1 (ix_nI (by omega) (by decide)) dX7_takeYard_24 rfl ?_
    refine v_putI (n := 28) f_X7_25 rfl (Or.inl rfl) L.s dX7_takeYard_25 rfl ?_
    refine v_aload_n (n := 29) dX7_takeYard_28 rfl rfl rfl ?_
    refine v_aload_n (n := 30) dX7_takeYard_29 rfl rfl rfl ?_
    refine v_getR (n := 33) f_X7_46 rfl L2.s L2.g2 dX7_takeYard_30 rfl ?_
    refine v_iload_n (n := 34) dX7_takeYard_33 rfl rfl rfl ?_
    refine v_iald (n := 35) (j := y) L2.c2 (ix_nI (by omega) (by decide)) dX7_takeYard_34 rfl ?_
    refine v_putI (n := 38) f_X7_28 rfl (Or.inl rfl) L.s dX7_takeYard_35 rfl ?_
    refine v_vret rfl ⟨rfl, rfl, ?_, ?_, ?_, fun k h2 h3 h4 => ?_, fun b hb => ?_⟩ ⟨l8 rfl, l8 rfl⟩ dX7_takeYard_38
    · rw [sI_k (by decide), sI_k (by decide), sI_s]
    · rw [sI_k (by decide), sI_s, sI_o (by omega)]
    · rw [sI_s, sI_o (by omega), sI_o (by omega)]
    · rw [sI_k h4, sI_k h3, sI_k h2]
    · rw [setI_ne hb, setI_ne hb, setI_ne hb]

/-- how a call ends that moves sheets alone -/
def shP (x a : Nat) : Prop := x + 88 ≤ a ∧ a < x + 96
def QS (S : St) (I : In) (x m : Nat) (F : Int32 × In) : Option Value → St → In → Prop := fun r S' I' => r = some (.int F.1) ∧ S' = S ∧ ShR I' F.2 x m ∧ Eqx (shP x) I I'
theorem v_qs {own : String} {cc : ByteArray} {nL : Nat} {ret : Option FieldType} {nm : String} {ro : Ro} {R : Room} {cells slots pc mc ms : Nat} {al : List Value} {S : St} {I I1 J1 : In} {x m : Nat} {F : Int32 × In} {y : Int32} (hr : ret = some .int) (hF : F = (y, J1)) (hV : ShR I1 J1 x m) (hE : Eqx (shP x) I I1) (hc : cells ≤ mc ∧ slots ≤ ms) (hd : decode cc pc = .ok (.ireturn, 1)) : V own cc nL ret nm ro R (QM mc ms (QS S I x m F)) cells slots pc al [.int y] S I1 := by
  subst hF
  exact v_iret hr ⟨rfl, rfl, hV, hE⟩ hc hd
theorem sh_new {I J : In} {x m s : Nat} {so z : Int32} (h : ShR I J x m) (hs : s < 4) : ShR (uP (setI (setI I (x + 88 + 2 * s) 1 so) (x + 88 + 2 * s) 2 z) (x + 88 + 2 * s + 1) (fun _ => 0) 24) (uO (setI (setI J (m + 14) s so) (m + 15) s z) (m + 16) (24 * s) (fun _ => 0) 24) x m := by
  intro t ht
  obtain ⟨a1, a2, a3⟩ := h t ht
  by_cases c : t = s
  · subst c
    refine ⟨?_, ?_, fun j hj => ?_⟩
    · rw [uP_o (by omega), sI_k (by decide), sI_s, uO_ne (by omega), sI_o (by omega), sI_s]
    · rw [uP_o (by omega), sI_s, uO_ne (by omega), sI_s]
    · rw [uP_in hj, uO_in hj]
  · refine ⟨?_, ?_, fun j hj => ?_⟩
    · rw [uP_o (by omega), sI_o (by omega), sI_o (by omega), uO_ne (by omega), sI_o (by omega), sI_k c]; exact a1
    · rw [uP_o (by omega), sI_o (by omega), sI_o (by omega), uO_ne (by omega), sI_k c, sI_o (by omega)]; exact a2
    · rw [uP_o (by omega), sI_o (by omega), sI_o (by omega), uO_k (by omega), sI_o (by omega), sI_o (by omega)]; exact a3 j hj
theorem sh_mark {I J : In} {x m s p : Nat} {v : Int32} (h : ShR I J x m) (hs : s < 4) (hp : p < 24) : ShR (setI I (x + 88 + 2 * s + 1) p v) (setI J (m + 16) (24 * s + p) v) x m := by
  intro t ht
  obtain ⟨a1, a2, a3⟩ := h t ht
  refine ⟨by rw [sI_o (by omega), sI_o (by omega)]; exact a1, by rw [sI_o (by omega), sI_o (by omega)]; exact a2, fun j hj => ?_⟩
  by_cases c : t = s ∧ j = p
  · obtain ⟨rfl, rfl⟩ := c
    rw [sI_s, sI_s]
  · rw [sI_k (show 24 * t + j ≠ 24 * s + p by omega), ← a3 j hj]
    unfold setI
    rw [if_neg (by omega)]
theorem sh_copy {I J : In} {x m s t p q k : Nat} {g : Ar} (h : ShR I J x m) (hs : s < 4) (ht : t < 4) (hp : p + k ≤ 24) (hq : q + k ≤ 24) (hg : ∀ j, j < k → g j = J (m + 16) (24 * s + p + j)) : ShR (cpyI I (x + 88 + 2 * s + 1) p (x + 88 + 2 * t + 1) q k) (uO (uP J (m + 21) g k) (m + 16) (24 * t + q) g k) x m := by
  intro u hu
  obtain ⟨a1, a2, a3⟩ := h u hu
  refine ⟨by rw [cpyI_ne (by omega), uO_ne (by omega), uP_o (by omega)]; exact a1, by rw [cpyI_ne (by omega), uO_ne (by omega), uP_o (by omega)]; exact a2, fun j hj => ?_⟩
  by_cases c : u = t ∧ q ≤ j ∧ j < q + k
  · obtain ⟨rfl, c1, c2⟩ := c
    obtain ⟨i, rfl⟩ : ∃ i, j = q + i := ⟨j - q, by omega⟩
    rw [← Nat.add_assoc, uO_in (by omega), hg i (by omega)]
    unfold cpyI
    rw [if_pos ⟨rfl, c1, c2⟩, show p + (q + i - q) = p + i by omega, (h s hs).2.2 (p + i) (by omega), Nat.add_assoc]
  · rw [uO_k (by omega), uP_o (by omega), ← a3 j hj]
    unfold cpyI
    rw [if_neg (by omega)]
theorem sheet_m {J : In} {m s : Nat} {c : Int32} (hi : inn (nI s) 0 3 = true) (hc : (nI s).toNatClampNeg = s) : sheetM J m (nI s) (-1) c = (0, uO (setI (setI J (m + 14) s (-1)) (m + 15) s 0) (m + 16) (24 * s) (fun _ => 0) 24) := by
  rw [sheetM, if_pos (by rw [hi]; decide), if_neg (fun z => z.1 (by decide)), if_neg (fun z => z.1 (by decide)), if_neg (by decide), hc]
theorem sheet_p {J : In} {m s : Nat} {b c : Int32} (hi : inn (nI s) 0 3 = true) (hc : (nI s).toNatClampNeg = s) (hb : inn b (-1) 1 = true) (hb0 : 0 ≤ b) (h24 : c ≤ 24) (h0 : 0 ≤ c) : sheetM J m (nI s) b c = (c, uO (setI (setI J (m + 14) s b) (m + 15) s c) (m + 16) (24 * s) (fun _ => 0) 24) := by
  rw [sheetM, if_pos (by rw [hi, hb]; rfl), if_neg (fun z => z.2 h24), if_neg (fun z => z.2 h0), if_pos hb0, hc]
theorem sh_b0 {b : Int32} (h1 : ¬ b < -1) (h2 : ¬ b = -1) : 0 ≤ b := by
  rw [Int32.lt_iff_toInt_lt] at h1
  rw [Int32.le_iff_toInt_le]
  have e1 : (-1 : Int32).toInt = -1 := by decide
  have e0 : (0 : Int32).toInt = 0 := rfl
  have : ¬ b.toInt = -1 := fun q => h2 (Int32.toInt_inj.mp (q.trans e1.symm))
  omega

set_option maxRecDepth 100000 in
set_option maxHeartbeats 1000000 in
theorem c_X10_sheet {ro : Ro} {S : St} {I : In} {xa xb xc : Int32} {x m : Nat} {J : In} (L : LayX S x) (hSh : ShR I J x m) (hM : MW J m) : Ok mX10_sheet ro 1 0 0 [.ref x, .int xa, .int xb, .int xc] S I (QS S I x m (sheetM J m xa xb xc)) := by
  refine ok_of (al := [.ref x, .int xa, .int xb, .int xc]) (by decide) (l8 rfl) rfl ?_
  refine v_iload_n (n := 1) dX10_sheet_0 rfl rfl rfl ?_
  refine v_cSi (n := 4) (x := (bi (inn xa 0 3))) mc_X10_isSheet l_X10_220 sta_X10_isSheet k_sh ⟨rfl, rfl⟩ (l8 rfl) ⟨l8 rfl, l8 rfl⟩ rfl rfl (l8 rfl) dX10_sheet_1 rfl ?_
  refine v_if_eq (n := 7) (tgt := 17) dX10_sheet_4 (by decide) rfl (fun hq4 => ?_) (fun hq4 => ?_)
  · refine v_ldc (n := 19) k_X10_84 dX10_sheet_17 rfl ?_
    exact v_qs rfl (by rw [sheetM, if_neg (by rw [bi_0.mp hq4, Bool.false_and]; decide)]) hSh Eqx.rf ⟨l8 rfl, l8 rfl⟩ dX10_sheet_19
  · refine v_iload_n (n := 8) dX10_sheet_7 rfl rfl rfl ?_
    refine v_iconst (n := 9) (v := (-1)) dX10_sheet_8 c_m1 rfl ?_
    refine v_icmp_lt (n := 12) (tgt := 17) dX10_sheet_9 (by decide) rfl (fun hq9 => ?_) (fun hq9 => ?_)
    · refine v_ldc (n := 19) k_X10_84 dX10_sheet_17 rfl ?_
      exact v_qs rfl (by rw [sheetM, if_neg (by rw [inn_no1 hq9, Bool.and_false]; decide)]) hSh Eqx.rf ⟨l8 rfl, l8 rfl⟩ dX10_sheet_19
    · refine v_iload_n (n := 13) dX10_sheet_12 rfl rfl rfl ?_
      refine v_iconst (n := 14) (v := 1) dX10_sheet_13 c_1 rfl ?_
      refine v_icmp_le (n := 17) (tgt := 20) dX10_sheet_14 (by decide) rfl (fun hq14 => ?_) (fun hq14 => ?_)
      · have his := bi_n0.mp hq4
        obtain ⟨s, hs3, rfl⟩ := inn_get (a := 3) his (by decide)
        have hs : s < 4 := by omega
        have hcs : (nI s).toNatClampNeg = s := nI_clamp (by omega)
        obtain ⟨es1, es2, es3⟩ := hSh s hs
        obtain ⟨ms1, zs, hzs, ms2⟩ := hM.1 s hs
        have hib := inn_of hq9 hq14
        refine v_iload_n (n := 21) dX10_sheet_20 rfl rfl rfl ?_
        refine v_iconst (n := 22) (v := (-1)) dX10_sheet_21 c_m1 rfl ?_
        refine v_icmp_ne (n := 25) (tgt := 38) dX10_sheet_22 (by decide) rfl (fun hq22 => ?_) (fun hq22 => ?_)
        · have hb0 := sh_b0 hq9 hq22
          refine v_iload_n (n := 39) dX10_sheet_38 rfl rfl rfl ?_
          refine v_bipush (n := 41) (v := 24) dX10_sheet_39 b_24 rfl ?_
          refine v_icmp_le (n := 44) (tgt := 47) dX10_sheet_41 (by decide) rfl (fun hq41 => ?_) (fun hq41 => ?_)
          · refine v_iload_n (n := 48) dX10_sheet_47 rfl rfl rfl ?_
            refine v_if_ge (n := 51) (tgt := 55) dX10_sheet_48 (by decide) rfl (fun hq48 => ?_) (fun hq48 => ?_)
            · refine v_aload_n (n := 56) dX10_sheet_55 rfl rfl rfl ?_
              refine v_getR (n := 59) f_X10_52 rfl L.s L.g7 dX10_sheet_56 rfl ?_
              refine v_iload_n (n := 60) dX10_sheet_59 rfl rfl rfl ?_
              refine v_aald (n := 61) (t := 5) (j := s) ⟨by decide, by decide⟩ L.c7 (ix_nI hs (by decide)) (L.sh hs).1 dX10_sheet_60 rfl ?_
              refine v_iload_n (n := 62) dX10_sheet_61 rfl rfl rfl ?_
              refine v_iload_n (n := 63) dX10_sheet_62 rfl rfl rfl ?_
              refine v_cVv (n := 66) mc_X6_become l_X10_268 iv_X6_become se_X6_become (ci := 5) ⟨by decide, rfl⟩ (L.sh hs).2.s (k_X6_become (L.sh hs).2) ⟨rfl, rfl⟩ (l8 rfl) ⟨l8 rfl, l8 rfl⟩ rfl rfl (l8 rfl) dX10_sheet_63 rfl ?_
              refine v_iload_n (n := 67) dX10_sheet_66 rfl rfl rfl ?_
              exact v_qs rfl (sheet_p his hcs hib hb0 hq41 hq48) (sh_new hSh hs) (fun a ha => by unfold shP at ha; rw [uP_ne (by omega), setI_ne (by omega), setI_ne (by omega)]) ⟨l8 rfl, l8 rfl⟩ dX10_sheet_67
            · refine v_ldcw (n := 54) k_X10_271 dX10_sheet_51 rfl ?_
              exact v_qs rfl (by rw [sheetM, if_pos (by rw [his, hib]; rfl), if_neg (fun z => z.2 hq41), if_pos ⟨Int32.not_lt.mpr hb0, hq48⟩]) hSh Eqx.rf ⟨l8 rfl, l8 rfl⟩ dX10_sheet_54
          · refine v_ldc (n := 46) k_X10_84 dX10_sheet_44 rfl ?_
            exact v_qs rfl (by rw [sheetM, if_pos (by rw [his, hib]; rfl), if_pos ⟨Int32.not_lt.mpr hb0, hq41⟩]) hSh Eqx.rf ⟨l8 rfl, l8 rfl⟩ dX10_sheet_46
        · refine v_aload_n (n := 26) dX10_sheet_25 rfl rfl rfl ?_
          refine v_getR (n := 29) f_X10_52 rfl L.s L.g7 dX10_sheet_26 rfl ?_
          refine v_iload_n (n := 30) dX10_sheet_29 rfl rfl rfl ?_
          refine v_aald (n := 31) (t := 5) (j := s) ⟨by decide, by decide⟩ L.c7 (ix_nI hs (by decide)) (L.sh hs).1 dX10_sheet_30 rfl ?_
          refine v_iconst (n := 32) (v := (-1)) dX10_sheet_31 c_m1 rfl ?_
          refine v_iconst (n := 33) (v := 0) dX10_sheet_32 c_0 rfl ?_
          refine v_cVv (n := 36) mc_X6_become l_X10_268 iv_X6_become se_X6_become (ci := 5) ⟨by decide, rfl⟩ (L.sh hs).2.s (k_X6_become (L.sh hs).2) ⟨rfl, rfl⟩ (l8 rfl) ⟨l8 rfl, l8 rfl⟩ rfl rfl (l8 rfl) dX10_sheet_33 rfl ?_
          refine v_iconst (n := 37) (v := 0) dX10_sheet_36 c_0 rfl ?_
          subst hq22
          exact v_qs rfl (sheet_m his hcs) (sh_new hSh hs) (fun a ha => by unfold shP at ha; rw [uP_ne (by omega), setI_ne (by omega), setI_ne (by omega)]) ⟨l8 rfl, l8 rfl⟩ dX10_sheet_37
      · refine v_ldc (n := 19) k_X10_84 dX10_sheet_17 rfl ?_
        exact v_qs rfl (by rw [sheetM, if_neg (by rw [inn_no2 hq14, Bool.and_false]; decide)]) hSh Eqx.rf ⟨l8 rfl, l8 rfl⟩ dX10_sheet_19

theorem mark_ix {J : In} {m s z : Nat} {b w : Int32} (hw : w = J (m + 15) s) (hz : J (m + 15) s = nI z) (hz24 : z ≤ 24) : rHas w b = inn b 0 (J (m + 15) s - 1) := by
  rw [hw]; exact has_inn hz (by omega)
theorem mark_w {J : In} {m s p : Nat} {c : Int32} (hi : inn (nI s) 0 3 = true) (hc : (nI s).toNatClampNeg = s) (h0 : 0 ≤ J (m + 14) s) (hp : inn (nI p) 0 (J (m + 15) s - 1) = true) (hcp : (nI p).toNatClampNeg = p) : markM J m (nI s) (nI p) c = if J (m + 14) s = 0 then (if c = -1000000005 then (-1000000012, J) else (1, setI J (m + 16) (24 * s + p) c.toInt16.toInt32)) else if c = -1000000005 ∨ inn c (-99999) 99999 = true then (1, setI J (m + 16) (24 * s + p) c) else (-1000000001, J) := by
  rw [markM, if_pos hi, hc, if_pos h0, if_pos hp, hcp]
set_option maxRecDepth 100000 in
set_option maxHeartbeats 1000000 in
theorem c_X10_mark {ro : Ro} {S : St} {I : In} {xa xb xc : Int32} {x m : Nat} {J : In} (L : LayX S x) (hSh : ShR I J x m) (hM : MW J m) : Ok mX10_mark ro 1 0 0 [.ref x, .int xa, .int xb, .int xc] S I (QS S I x m (markM J m xa xb xc)) := by
  refine ok_of (al := [.ref x, .int xa, .int xb, .int xc, JJ]) (by decide) (l8 rfl) rfl ?_
  refine v_iload_n (n := 1) dX10_mark_0 rfl rfl rfl ?_
  refine v_cSi (n := 4) (x := (bi (inn xa 0 3))) mc_X10_isSheet l_X10_220 sta_X10_isSheet k_sh ⟨rfl, rfl⟩ (l8 rfl) ⟨l8 rfl, l8 rfl⟩ rfl rfl (l8 rfl) dX10_mark_1 rfl ?_
  refine v_if_ne (n := 7) (tgt := 10) dX10_mark_4 (by decide) rfl (fun hq4 => ?_) (fun hq4 => ?_)
  · have his := bi_n0.mp hq4
    obtain ⟨s, hs3, rfl⟩ := inn_get (a := 3) his (by decide)
    have hs : s < 4 := by omega
    have hcs : (nI s).toNatClampNeg = s := nI_clamp (by omega)
    obtain ⟨es1, es2, es3⟩ := hSh s hs
    obtain ⟨ms1, zs, hzs, ms2⟩ := hM.1 s hs
    refine v_aload_n (n := 11) dX10_mark_10 rfl rfl rfl ?_
    refine v_getR (n := 14) f_X10_52 rfl L.s L.g7 dX10_mark_11 rfl ?_
    refine v_iload_n (n := 15) dX10_mark_14 rfl rfl rfl ?_
    refine v_aald (n := 16) (t := 5) (j := s) ⟨by decide, by decide⟩ L.c7 (ix_nI hs (by decide)) (L.sh hs).1 dX10_mark_15 rfl ?_
    refine v_astore (n := 18) (al' := [.ref x, .int (nI s), .int xb, .int xc, .ref ((x + 88 + 2 * s))]) dX10_mark_16 rfl rfl rfl ?_
    refine v_aload (n := 20) dX10_mark_18 rfl rfl ?_
    refine v_getI (n := 23) f_X10_223 rfl (L.sh hs).2.s dX10_mark_20 rfl ?_
    rw [es1]
    refine v_iconst (n := 24) (v := (-1)) dX10_mark_23 c_m1 rfl ?_
    refine v_icmp_ne (n := 27) (tgt := 30) dX10_mark_24 (by decide) rfl (fun hq24 => ?_) (fun hq24 => ?_)
    · have h0 : 0 ≤ J (m + 14) s := sort_0 ms1 hq24
      refine v_aload (n := 32) dX10_mark_30 rfl rfl ?_
      refine v_iload_n (n := 33) dX10_mark_32 rfl rfl rfl ?_
      refine v_cVi (n := 36) (x := (bi (rHas (I (x + 88 + 2 * s) 2) xb))) mc_X6_has l_X10_272 iv_X6_has se_X6_has (ci := 5) ⟨by decide, rfl⟩ (L.sh hs).2.s (k_X6_has (L.sh hs).2) ⟨rfl, rfl⟩ (l8 rfl) ⟨l8 rfl, l8 rfl⟩ rfl rfl (l8 rfl) dX10_mark_33 rfl ?_
      rw [mark_ix es2 ms2 hzs]
      refine v_if_ne (n := 39) (tgt := 43) dX10_mark_36 (by decide) rfl (fun hq36 => ?_) (fun hq36 => ?_)
      · have hip := bi_n0.mp hq36
        obtain ⟨p, hp, rfl⟩ := sz_get hip ms2 (by omega)
        have hcp : (nI p).toNatClampNeg = p := nI_clamp (by omega)
        refine v_aload (n := 45) dX10_mark_43 rfl rfl ?_
        refine v_getI (n := 48) f_X10_223 rfl (L.sh hs).2.s dX10_mark_45 rfl ?_
        rw [es1]
        refine v_if_ne (n := 51) (tgt := 71) dX10_mark_48 (by decide) rfl (fun hq48 => ?_) (fun hq48 => ?_)
        · refine v_iload_n (n := 72) dX10_mark_71 rfl rfl rfl ?_
          refine v_ldc (n := 74) k_X10_193 dX10_mark_72 rfl ?_
          refine v_icmp_eq (n := 77) (tgt := 94) dX10_mark_74 (by decide) rfl (fun hq74 => ?_) (fun hq74 => ?_)
          · refine v_aload (n := 96) dX10_mark_94 rfl rfl ?_
            refine v_getR (n := 99) f_X10_274 rfl (L.sh hs).2.s (L.sh hs).2.g0 dX10_mark_96 rfl ?_
            refine v_iload_n (n := 100) dX10_mark_99 rfl rfl rfl ?_
            refine v_iload_n (n := 101) dX10_mark_100 rfl rfl rfl ?_
            refine v_iast (n := 102) (j := p) (L.sh hs).2.c0 (ix_nI (by omega) (by decide)) dX10_mark_101 rfl ?_
            refine v_iconst (n := 103) (v := 1) dX10_mark_102 c_1 rfl ?_
            exact v_qs rfl (by rw [mark_w his hcs h0 hip hcp, if_neg hq48, if_pos (Or.inl hq74)]) (sh_mark hSh hs (by omega)) (Eqx.rf.set (by unfold shP; omega)) ⟨l8 rfl, l8 rfl⟩ dX10_mark_103
          · refine v_iload_n (n := 78) dX10_mark_77 rfl rfl rfl ?_
            refine v_ldcw (n := 81) k_X10_277 dX10_mark_78 rfl ?_
            refine v_icmp_lt (n := 84) (tgt := 91) dX10_mark_81 (by decide) rfl (fun hq81 => ?_) (fun hq81 => ?_)
            · refine v_ldc (n := 93) k_X10_84 dX10_mark_91 rfl ?_
              exact v_qs rfl (by rw [mark_w his hcs h0 hip hcp, if_neg hq48, if_neg (fun z => z.elim hq74 (fun z => by rw [inn_no1 hq81] at z; cases z))]) hSh Eqx.rf ⟨l8 rfl, l8 rfl⟩ dX10_mark_93
            · refine v_iload_n (n := 85) dX10_mark_84 rfl rfl rfl ?_
              refine v_ldcw (n := 88) k_X10_278 dX10_mark_85 rfl ?_
              refine v_icmp_le (n := 91) (tgt := 94) dX10_mark_88 (by decide) rfl (fun hq88 => ?_) (fun hq88 => ?_)
              · refine v_aload (n := 96) dX10_mark_94 rfl rfl ?_
                refine v_getR (n := 99) f_X10_274 rfl (L.sh hs).2.s (L.sh hs).2.g0 dX10_mark_96 rfl ?_
                refine v_iload_n (n := 100) dX10_mark_99 rfl rfl rfl ?_
                refine v_iload_n (n := 101) dX10_mark_100 rfl rfl rfl ?_
                refine v_iast (n := 102) (j := p) (L.sh hs).2.c0 (ix_nI (by omega) (by decide)) dX10_mark_101 rfl ?_
                refine v_iconst (n := 103) (v := 1) dX10_mark_102 c_1 rfl ?_
                exact v_qs rfl (by rw [mark_w his hcs h0 hip hcp, if_neg hq48, if_pos (Or.inr (inn_of hq81 hq88))]) (sh_mark hSh hs (by omega)) (Eqx.rf.set (by unfold shP; omega)) ⟨l8 rfl, l8 rfl⟩ dX10_mark_103
              · refine v_ldc (n := 93) k_X10_84 dX10_mark_91 rfl ?_
                exact v_qs rfl (by rw [mark_w his hcs h0 hip hcp, if_neg hq48, if_neg (fun z => z.elim hq74 (fun z => by rw [inn_no2 hq88] at z; cases z))]) hSh Eqx.rf ⟨l8 rfl, l8 rfl⟩ dX10_mark_93
        · refine v_iload_n (n := 52) dX10_mark_51 rfl rfl rfl ?_
          refine v_ldc (n := 54) k_X10_193 dX10_mark_52 rfl ?_
          refine v_icmp_ne (n := 57) (tgt := 60) dX10_mark_54 (by decide) rfl (fun hq54 => ?_) (fun hq54 => ?_)
          · refine v_aload (n := 62) dX10_mark_60 rfl rfl ?_
            refine v_getR (n := 65) f_X10_274 rfl (L.sh hs).2.s (L.sh hs).2.g0 dX10_mark_62 rfl ?_
            refine v_iload_n (n := 66) dX10_mark_65 rfl rfl rfl ?_
            refine v_iload_n (n := 67) dX10_mark_66 rfl rfl rfl ?_
            refine v_i2s (n := 68) dX10_mark_67 rfl ?_
            refine v_iast (n := 69) (j := p) (L.sh hs).2.c0 (ix_nI (by omega) (by decide)) dX10_mark_68 rfl ?_
            refine v_iconst (n := 70) (v := 1) dX10_mark_69 c_1 rfl ?_
            exact v_qs rfl (by rw [mark_w his hcs h0 hip hcp, if_pos hq48, if_neg hq54]) (sh_mark hSh hs (by omega)) (Eqx.rf.set (by unfold shP; omega)) ⟨l8 rfl, l8 rfl⟩ dX10_mark_70
          · refine v_ldc (n := 59) k_X10_139 dX10_mark_57 rfl ?_
            exact v_qs rfl (by rw [mark_w his hcs h0 hip hcp, if_pos hq48, if_pos hq54]) hSh Eqx.rf ⟨l8 rfl, l8 rfl⟩ dX10_mark_59
      · refine v_ldcw (n := 42) k_X10_273 dX10_mark_39 rfl ?_
        exact v_qs rfl (by rw [markM, if_pos his, hcs, if_pos h0, if_neg (by rw [bi_0.mp hq36]; decide)]) hSh Eqx.rf ⟨l8 rfl, l8 rfl⟩ dX10_mark_42
    · refine v_ldc (n := 29) k_X10_226 dX10_mark_27 rfl ?_
      exact v_qs rfl (by rw [markM, if_pos his, hcs, if_neg (by rw [hq24]; decide)]) hSh Eqx.rf ⟨l8 rfl, l8 rfl⟩ dX10_mark_29
  · refine v_ldc (n := 9) k_X10_84 dX10_mark_7 rfl ?_
    exact v_qs rfl (by rw [markM, if_neg (by rw [bi_0.mp hq4]; decide)]) hSh Eqx.rf ⟨l8 rfl, l8 rfl⟩ dX10_mark_9

theorem hm_ok {z p k : Nat} (hz : z ≤ 24) (hp : p < 2 ^ 31) (hk : k < 2 ^ 31) (h : hmF (nI z) (nI p) (nI k) = true) : p + k ≤ z := by
  unfold hmF at h
  simp only [Bool.and_eq_true, Bool.not_eq_true', decide_eq_false_iff_not] at h
  exact sub_fit hz hk hp h.2
theorem hm_pos {z p k : Int32} (h : hmF z p k = true) : ¬ p < 0 ∧ ¬ k < 0 ∧ ¬ z - k < p := by
  unfold hmF at h
  simp only [Bool.and_eq_true, Bool.not_eq_true', decide_eq_false_iff_not] at h
  exact ⟨h.1.1.1, h.1.1.2, h.2⟩
theorem hm_of {z : Nat} {p k : Int32} (hz : z ≤ 24) (hp : ¬ p < 0) (hk : ¬ k < 0) (h : ¬ nI z - k < p) : hmF (nI z) p k = true := by
  unfold hmF
  have : ¬ nI z < k := by
    intro q
    rw [Int32.lt_iff_toInt_lt] at *
    have e0 : (0 : Int32).toInt = 0 := rfl
    have e1 := nI_toInt (n := z) (by omega)
    have hk2 := k.toInt_lt
    have e2 : (nI z - k).toInt = (nI z).toInt - k.toInt := by rw [Int32.toInt_sub, bmod32 (by omega) (by omega)]
    omega
  simp [hp, hk, h, this]
theorem copy_no {J : In} {m s t z u : Nat} {b d e : Int32} (hi : (inn (nI s) 0 3 && inn (nI t) 0 3) = true) (hcs : (nI s).toNatClampNeg = s) (hct : (nI t).toNatClampNeg = t) (h0 : ¬ J (m + 14) s < 0) (h1 : 0 ≤ J (m + 14) t) (h2 : J (m + 14) s = J (m + 14) t) (hz : J (m + 15) s = nI z) (hu : J (m + 15) t = nI u) (hz24 : z ≤ 24) (hu24 : u ≤ 24) (hh : hmF (nI z) b e = false ∨ hmF (nI u) d e = false) : copyM J m (nI s) b (nI t) d e = (-1000000013, J) := by
  rw [copyM, if_pos hi, hcs, hct, if_neg h0, if_pos h1, if_pos h2]
  split
  · rfl
  split
  · rfl
  split
  · rfl
  split
  · rfl
  split
  · rename_i g1 g2 g3 g4 g5
    rw [hz] at g4
    rw [hu] at g5
    rcases hh with q | q
    · rw [hm_of hz24 g1 g3 g4] at q; cases q
    · rw [hm_of hu24 g2 g3 (Int32.not_lt.mpr g5)] at q; cases q
  · rfl
theorem copy_yes {J : In} {m s t : Nat} {b d e : Int32} (hi : (inn (nI s) 0 3 && inn (nI t) 0 3) = true) (hcs : (nI s).toNatClampNeg = s) (hct : (nI t).toNatClampNeg = t) (h0 : ¬ J (m + 14) s < 0) (h1 : 0 ≤ J (m + 14) t) (h2 : J (m + 14) s = J (m + 14) t) (g1 : hmF (J (m + 15) s) b e = true) (g2 : hmF (J (m + 15) t) d e = true) : copyM J m (nI s) b (nI t) d e = (e, uO (uP J (m + 21) (cpF J m (nI s) b) e.toNatClampNeg) (m + 16) (24 * t + d.toNatClampNeg) (cpF J m (nI s) b) e.toNatClampNeg) := by
  obtain ⟨a1, a2, a3⟩ := hm_pos g1
  obtain ⟨b1, -, b3⟩ := hm_pos g2
  rw [copyM, if_pos hi, hcs, hct, if_neg h0, if_pos h1, if_pos h2, if_neg a1, if_neg b1, if_neg a2, if_neg a3, if_pos (Int32.not_lt.mp b3)]
theorem nn_get {v : Int32} (h : ¬ v < 0) : ∃ k, k < 2 ^ 31 ∧ v = nI k := by
  refine ⟨v.toNatClampNeg, ?_, ?_⟩
  · have := v.toInt_lt
    rw [Int32.lt_iff_toInt_lt] at h
    have e0 : (0 : Int32).toInt = 0 := rfl
    show v.toInt.toNat < 2 ^ 31
    omega
  · apply Int32.toInt_inj.mp
    have := v.toInt_lt
    rw [Int32.lt_iff_toInt_lt] at h
    have e0 : (0 : Int32).toInt = 0 := rfl
    rw [nI_toInt (by show v.toInt.toNat < 2 ^ 31; omega)]
    show v.toInt = ((v.toInt.toNat : Nat) : Int)
    omega
set_option maxRecDepth 100000 in
set_option maxHeartbeats 1000000 in
theorem c_X10_copy {ro : Ro} {S : St} {I : In} {xa xb xc xd xe : Int32} {x m : Nat} {J : In} (L : LayX S x) (hSh : ShR I J x m) (hM : MW J m) : Ok mX10_copy ro 1 0 0 [.ref x, .int xa, .int xb, .int xc, .int xd, .int xe] S I (QS S I x m (copyM J m xa xb xc xd xe)) := by
  refine ok_of (al := [.ref x, .int xa, .int xb, .int xc, .int xd, .int xe, JJ, JJ]) (by decide) (l8 rfl) rfl ?_
  refine v_iload_n (n := 1) dX10_copy_0 rfl rfl rfl ?_
  refine v_cSi (n := 4) (x := (bi (inn xa 0 3))) mc_X10_isSheet l_X10_220 sta_X10_isSheet k_sh ⟨rfl, rfl⟩ (l8 rfl) ⟨l8 rfl, l8 rfl⟩ rfl rfl (l8 rfl) dX10_copy_1 rfl ?_
  refine v_if_eq (n := 7) (tgt := 14) dX10_copy_4 (by decide) rfl (fun hq4 => ?_) (fun hq4 => ?_)
  · refine v_ldc (n := 16) k_X10_84 dX10_copy_14 rfl ?_
    exact v_qs rfl (by rw [copyM, if_neg (by rw [bi_0.mp hq4, Bool.false_and]; decide)]) hSh Eqx.rf ⟨l8 rfl, l8 rfl⟩ dX10_copy_16
  · refine v_iload_n (n := 8) dX10_copy_7 rfl rfl rfl ?_
    refine v_cSi (n := 11) (x := (bi (inn xc 0 3))) mc_X10_isSheet l_X10_220 sta_X10_isSheet k_sh ⟨rfl, rfl⟩ (l8 rfl) ⟨l8 rfl, l8 rfl⟩ rfl rfl (l8 rfl) dX10_copy_8 rfl ?_
    refine v_if_ne (n := 14) (tgt := 17) dX10_copy_11 (by decide) rfl (fun hq11 => ?_) (fun hq11 => ?_)
    · have his := bi_n0.mp hq4
      obtain ⟨s, hs3, rfl⟩ := inn_get (a := 3) his (by decide)
      have hs : s < 4 := by omega
      have hcs : (nI s).toNatClampNeg = s := nI_clamp (by omega)
      obtain ⟨es1, es2, es3⟩ := hSh s hs
      obtain ⟨ms1, zs, hzs, ms2⟩ := hM.1 s hs
      have hit := bi_n0.mp hq11
      obtain ⟨t, ht3, rfl⟩ := inn_get (a := 3) hit (by decide)
      have ht : t < 4 := by omega
      have hct : (nI t).toNatClampNeg = t := nI_clamp (by omega)
      obtain ⟨et1, et2, et3⟩ := hSh t ht
      obtain ⟨mt1, zt, hzt, mt2⟩ := hM.1 t ht
      have hgt : (inn (nI s) 0 3 && inn (nI t) 0 3) = true := by rw [his, hit]; rfl
      refine v_aload_n (n := 18) dX10_copy_17 rfl rfl rfl ?_
      refine v_getR (n := 21) f_X10_52 rfl L.s L.g7 dX10_copy_18 rfl ?_
      refine v_iload_n (n := 22) dX10_copy_21 rfl rfl rfl ?_
      refine v_aald (n := 23) (t := 5) (j := s) ⟨by decide, by decide⟩ L.c7 (ix_nI hs (by decide)) (L.sh hs).1 dX10_copy_22 rfl ?_
      refine v_astore (n := 25) (al' := [.ref x, .int (nI s), .int xb, .int (nI t), .int xd, .int xe, .ref ((x + 88 + 2 * s)), JJ]) dX10_copy_23 rfl rfl rfl ?_
      refine v_aload_n (n := 26) dX10_copy_25 rfl rfl rfl ?_
      refine v_getR (n := 29) f_X10_52 rfl L.s L.g7 dX10_copy_26 rfl ?_
      refine v_iload_n (n := 30) dX10_copy_29 rfl rfl rfl ?_
      refine v_aald (n := 31) (t := 5) (j := t) ⟨by decide, by decide⟩ L.c7 (ix_nI ht (by decide)) (L.sh ht).1 dX10_copy_30 rfl ?_
      refine v_astore (n := 33) (al' := [.ref x, .int (nI s), .int xb, .int (nI t), .int xd, .int xe, .ref ((x + 88 + 2 * s)), .ref ((x + 88 + 2 * t))]) dX10_copy_31 rfl rfl rfl ?_
      refine v_aload (n := 35) dX10_copy_33 rfl rfl ?_
      refine v_getI (n := 38) f_X10_223 rfl (L.sh hs).2.s dX10_copy_35 rfl ?_
      rw [es1]
      refine v_iconst (n := 39) (v := (-1)) dX10_copy_38 c_m1 rfl ?_
      refine v_icmp_eq (n := 42) (tgt := 51) dX10_copy_39 (by decide) rfl (fun hq39 => ?_) (fun hq39 => ?_)
      · refine v_ldc (n := 53) k_X10_226 dX10_copy_51 rfl ?_
        exact v_qs rfl (by rw [copyM, if_pos hgt, hcs, hct, if_pos (by rw [hq39]; decide)]) hSh Eqx.rf ⟨l8 rfl, l8 rfl⟩ dX10_copy_53
      · refine v_aload (n := 44) dX10_copy_42 rfl rfl ?_
        refine v_getI (n := 47) f_X10_223 rfl (L.sh ht).2.s dX10_copy_44 rfl ?_
        rw [et1]
        refine v_iconst (n := 48) (v := (-1)) dX10_copy_47 c_m1 rfl ?_
        refine v_icmp_ne (n := 51) (tgt := 54) dX10_copy_48 (by decide) rfl (fun hq48 => ?_) (fun hq48 => ?_)
        · have h0 : 0 ≤ J (m + 14) s := sort_0 ms1 hq39
          have h1 : 0 ≤ J (m + 14) t := sort_0 mt1 hq48
          refine v_aload (n := 56) dX10_copy_54 rfl rfl ?_
          refine v_getI (n := 59) f_X10_223 rfl (L.sh hs).2.s dX10_copy_56 rfl ?_
          rw [es1]
          refine v_aload (n := 61) dX10_copy_59 rfl rfl ?_
          refine v_getI (n := 64) f_X10_223 rfl (L.sh ht).2.s dX10_copy_61 rfl ?_
          rw [et1]
          refine v_icmp_eq (n := 67) (tgt := 70) dX10_copy_64 (by decide) rfl (fun hq64 => ?_) (fun hq64 => ?_)
          · refine v_aload (n := 72) dX10_copy_70 rfl rfl ?_
            refine v_iload_n (n := 73) dX10_copy_72 rfl rfl rfl ?_
            refine v_iload (n := 75) dX10_copy_73 rfl rfl ?_
            refine v_cVi (n := 78) (x := (bi (hmF (I (x + 88 + 2 * s) 2) xb xe))) mc_X6_hasMany l_X10_285 iv_X6_hasMany se_X6_hasMany (ci := 5) ⟨by decide, rfl⟩ (L.sh hs).2.s (k_X6_hasMany (L.sh hs).2) ⟨rfl, rfl⟩ (l8 rfl) ⟨l8 rfl, l8 rfl⟩ rfl rfl (l8 rfl) dX10_copy_75 rfl ?_
            rw [es2, ms2]
            refine v_if_eq (n := 81) (tgt := 93) dX10_copy_78 (by decide) rfl (fun hq78 => ?_) (fun hq78 => ?_)
            · refine v_ldcw (n := 96) k_X10_273 dX10_copy_93 rfl ?_
              exact v_qs rfl (copy_no hgt hcs hct (Int32.not_lt.mpr h0) h1 hq64 ms2 mt2 hzs hzt (Or.inl (bi_0.mp hq78))) hSh Eqx.rf ⟨l8 rfl, l8 rfl⟩ dX10_copy_96
            · refine v_aload (n := 83) dX10_copy_81 rfl rfl ?_
              refine v_iload (n := 85) dX10_copy_83 rfl rfl ?_
              refine v_iload (n := 87) dX10_copy_85 rfl rfl ?_
              refine v_cVi (n := 90) (x := (bi (hmF (I (x + 88 + 2 * t) 2) xd xe))) mc_X6_hasMany l_X10_285 iv_X6_hasMany se_X6_hasMany (ci := 5) ⟨by decide, rfl⟩ (L.sh ht).2.s (k_X6_hasMany (L.sh ht).2) ⟨rfl, rfl⟩ (l8 rfl) ⟨l8 rfl, l8 rfl⟩ rfl rfl (l8 rfl) dX10_copy_87 rfl ?_
              rw [et2, mt2]
              refine v_if_ne (n := 93) (tgt := 97) dX10_copy_90 (by decide) rfl (fun hq90 => ?_) (fun hq90 => ?_)
              · have gs := bi_n0.mp hq78
                have gt := bi_n0.mp hq90
                obtain ⟨p, hp, rfl⟩ := nn_get (hm_pos gs).1
                obtain ⟨q, hq, rfl⟩ := nn_get (hm_pos gt).1
                obtain ⟨k, hk, rfl⟩ := nn_get (hm_pos gs).2.1
                have ks := hm_ok hzs hp hk gs
                have kt := hm_ok hzt hq hk gt
                have hcp : (nI p).toNatClampNeg = p := nI_clamp (by omega)
                have hcq : (nI q).toNatClampNeg = q := nI_clamp (by omega)
                have hck : (nI k).toNatClampNeg = k := nI_clamp (by omega)
                refine v_aload (n := 99) dX10_copy_97 rfl rfl ?_
                refine v_getR (n := 102) f_X10_274 rfl (L.sh hs).2.s (L.sh hs).2.g0 dX10_copy_99 rfl ?_
                refine v_iload_n (n := 103) dX10_copy_102 rfl rfl rfl ?_
                refine v_aload (n := 105) dX10_copy_103 rfl rfl ?_
                refine v_getR (n := 108) f_X10_274 rfl (L.sh ht).2.s (L.sh ht).2.g0 dX10_copy_105 rfl ?_
                refine v_iload (n := 110) dX10_copy_108 rfl rfl ?_
                refine v_iload (n := 112) dX10_copy_110 rfl rfl ?_
                refine v_copy (n := 115) (sp := p) (dp := q) (k := k) l_X10_288 ac_nat ac_sta ini_J10 (L.sh hs).2.c0 (L.sh ht).2.c0 ⟨nI_nlt0 hp, hcp⟩ ⟨nI_nlt0 hq, hcq⟩ ⟨nI_nlt0 hk, hck⟩ ⟨by omega, by omega⟩ ⟨rfl, rfl⟩ (l8 rfl) dX10_copy_112 rfl ?_
                refine v_iload (n := 117) dX10_copy_115 rfl rfl ?_
                have F9 := copy_yes hgt hcs hct (Int32.not_lt.mpr h0) h1 hq64 (by rw [ms2]; exact gs) (by rw [mt2]; exact gt)
                rw [hcq, hck] at F9
                exact v_qs rfl F9 (sh_copy hSh hs ht (by omega) (by omega) (fun j hj => by rw [cpF, hcs, hcp])) (fun a ha => by unfold shP at ha; rw [cpyI_ne (by omega)]) ⟨l8 rfl, l8 rfl⟩ dX10_copy_117
              · refine v_ldcw (n := 96) k_X10_273 dX10_copy_93 rfl ?_
                exact v_qs rfl (copy_no hgt hcs hct (Int32.not_lt.mpr h0) h1 hq64 ms2 mt2 hzs hzt (Or.inr (bi_0.mp hq90))) hSh Eqx.rf ⟨l8 rfl, l8 rfl⟩ dX10_copy_96
          · refine v_ldc (n := 69) k_X10_139 dX10_copy_67 rfl ?_
            exact v_qs rfl (by rw [copyM, if_pos hgt, hcs, hct, if_neg (Int32.not_lt.mpr h0), if_pos h1, if_neg hq64]) hSh Eqx.rf ⟨l8 rfl, l8 rfl⟩ dX10_copy_69
        · refine v_ldc (n := 53) k_X10_226 dX10_copy_51 rfl ?_
          exact v_qs rfl (by rw [copyM, if_pos hgt, hcs, hct, if_neg (Int32.not_lt.mpr (sort_0 ms1 hq39)), if_neg (by rw [hq48]; decide)]) hSh Eqx.rf ⟨l8 rfl, l8 rfl⟩ dX10_copy_53
    · refine v_ldc (n := 16) k_X10_84 dX10_copy_14 rfl ?_
      exact v_qs rfl (by rw [copyM, if_neg (by rw [bi_0.mp hq11, Bool.and_false]; decide)]) hSh Eqx.rf ⟨l8 rfl, l8 rfl⟩ dX10_copy_16

