/-! ===== a TEXT is made a Law ===== -/
theorem cd_last {c : Int32} {cs : List Int32} : cdL (c :: cs) cs.length = c := by
  unfold cdL
  rw [List.reverse_cons, List.getD_eq_getElem?_getD, List.getElem?_append_right (by rw [List.length_reverse]; omega), List.length_reverse, Nat.sub_self]
  rfl
theorem cd_lt {c : Int32} {cs : List Int32} {k : Nat} (h : k < cs.length) : cdL (c :: cs) k = cdL cs k := by
  unfold cdL
  rw [List.reverse_cons, List.getD_eq_getElem?_getD, List.getD_eq_getElem?_getD, List.getElem?_append_left (by rw [List.length_reverse]; exact h)]
theorem stk_cg {f g : Ar} : ∀ {cs : List Int32}, Stk f cs → (∀ k, k < cs.length → g k = f k) → Stk g cs
  | [], _, _ => trivial
  | c :: cs, h, e => ⟨by rw [e cs.length (by rw [List.length_cons]; omega)]; exact h.1, stk_cg h.2 (fun k hk => e k (by rw [List.length_cons]; omega))⟩
theorem stk_self : ∀ cs : List Int32, Stk (cdL cs) cs
  | [] => trivial
  | c :: cs => ⟨cd_last, stk_cg (stk_self cs) (fun k hk => cd_lt hk)⟩
theorem stk_map {g : Ar} {h : Int32 → Int32} : ∀ {cs : List Int32}, Stk g (cs.map h) → ∀ k, k < cs.length → g k = h (cdL cs k)
  | [], _, k, hk => absurd hk (by simp)
  | c :: cs, q, k, hk => by
    rw [List.length_cons] at hk
    by_cases e : k = cs.length
    · subst e
      rw [cd_last, ← q.1, List.length_map]
    · rw [cd_lt (by omega)]
      exact stk_map q.2 k (by omega)
theorem dl_dpt {f : Ar} : ∀ {cs : List Int32}, Stk f cs → dpt f cs.length = dl cs
  | [], _ => rfl
  | c :: cs, h => by rw [List.length_cons, dpt, dl, h.1, dl_dpt h.2]
theorem dl_nA : ∀ cs : List Int32, dl cs ≤ nA cs
  | [] => Nat.le_refl _
  | c :: cs => by
    have := dl_nA cs
    rw [dl, nA]
    by_cases h : c < 0
    · rw [if_pos h, if_pos h]; split <;> omega
    · rw [if_neg h, if_neg h]; omega
theorem nA_len : ∀ cs : List Int32, nA cs ≤ cs.length
  | [] => Nat.le_refl _
  | c :: cs => by
    have := nA_len cs
    rw [nA, List.length_cons]
    split <;> omega
theorem wl_all {f : Ar} {nf : Nat} : ∀ {cs : List Int32}, Stk f cs → WL nf cs → (∀ k, k < cs.length → (¬ f k < 0 → 10000 ≤ f k → ∃ i, i < nf ∧ f k = nI (10000 + i)) ∧ (f k < 0 → (f k = -10 → 1 ≤ dpt f k) ∧ (¬ f k = -10 → 2 ≤ dpt f k))) ∧ ∀ k, k ≤ cs.length → dpt f k ≤ nA cs
  | [], _, _ => ⟨fun k hk => absurd hk (by simp), fun k hk => by rw [List.length_nil] at hk; rw [Nat.le_zero.mp hk]; exact Nat.le_refl _⟩
  | c :: cs, h, w => by
    obtain ⟨q1, q2⟩ := wl_all h.2 w.1
    refine ⟨fun k hk => ?_, fun k hk => ?_⟩
    · rw [List.length_cons] at hk
      by_cases e : k = cs.length
      · subst e
        rw [h.1, dl_dpt h.2]
        exact w.2
      · exact q1 k (by omega)
    · rw [List.length_cons] at hk
      by_cases e : k = cs.length + 1
      · subst e
        have := dl_dpt (f := f) (cs := c :: cs) h
        rw [List.length_cons] at this
        rw [this]
        exact dl_nA _
      · have := q2 k (by omega)
        rw [nA]
        omega
theorem wl_WFT {f : Ar} {nf : Nat} {cs : List Int32} (h : Stk f cs) (w : WL nf cs) (h1 : dl cs = 1) (hl : cs.length ≤ 96) : WFT f nf cs.length (nA cs) :=
  ⟨(wl_all h w).1, by rw [dl_dpt h]; exact h1, hl, (wl_all h w).2, by have := nA_len cs; omega⟩
/-- a TEXT that is one -/
theorem ok_facts {t : Ar} {n : Nat} (hn : n ≤ 96) (h : okT t n = true) : kyT t n < 3 ∧ (psR t n).2.2.1.length ≤ 96 ∧ (psR t n).2.2.2 ≤ 96 ∧ WFT (cdL (psR t n).2.2.1) (nfs (kyT t n)) (psR t n).2.2.1.length (psR t n).2.2.2 := by
  have h1 := Bool.and_eq_true_iff.mp h
  have h2 := Bool.and_eq_true_iff.mp h1.2
  have hA := evA (t := t) (L := n) (key := kyT t n) (100 + 20 * n) 0 0 0 0 (nxT t n (fs1 t n), [], 0) (by decide) TW.f1.nx (of_decide_eq_true h2.1)
  have a1 : TW t n (psR t n).2.1 := hA.1
  have a2 : (nxT t n (fs1 t n)).2.1 + (psR t n).2.2.1.length ≤ (psR t n).2.1.2.1 + 0 := hA.2.1
  have hl : (psR t n).2.2.1.length ≤ 96 := by have := a1.fle; omega
  have a5 : WL (nfs (kyT t n)) (psR t n).2.2.1 ∧ dl (psR t n).2.2.1 = 0 + 1 := hA.2.2.2.2.1 trivial (fun z => by cases z)
  have a6 : nA (psR t n).2.2.1 = (psR t n).2.2.2 := hA.2.2.2.2.2 rfl
  refine ⟨of_decide_eq_true h1.1, hl, by rw [← a6]; have := nA_len (psR t n).2.2.1; omega, ?_⟩
  rw [← a6]
  exact wl_WFT (stk_self _) a5.1 a5.2 hl
section TXX
variable {X : Ar} {T key len na : Nat} {cd : Ar}
theorem tx_9 : txX X T key cd len na 9 = nI (T + 1) := pk_us
theorem tx_lo {j : Nat} (h : j < 116) (h9 : j ≠ 9) : txX X T key cd len na j = X j := by
  unfold txX
  rw [pk_un h9]; unfold uA
  rw [if_neg (by omega), pk_un (by omega), pk_un (by omega)]
theorem tx_a (hT : T < 14) : txX X T key cd len na (116 + 2 * T) = nI (1000 * key + len) := by
  unfold txX
  rw [pk_un (by omega)]; unfold uA
  rw [if_neg (by omega), pk_un (by omega), pk_us]
theorem tx_b (hT : T < 14) : txX X T key cd len na (117 + 2 * T) = nI na := by
  unfold txX
  rw [pk_un (by omega)]; unfold uA
  rw [if_neg (by omega), pk_us]
theorem tx_c {k : Nat} (h : k < len) : txX X T key cd len na (144 + 96 * T + k) = cd k := by
  unfold txX
  rw [pk_un (by omega)]; unfold uA
  rw [if_pos (by omega), show 144 + 96 * T + k - (144 + 96 * T) = k by omega]
theorem tx_o {j : Nat} (h9 : j ≠ 9) (h1 : j ≠ 116 + 2 * T) (h2 : j ≠ 117 + 2 * T) (h3 : j < 144 + 96 * T ∨ 144 + 96 * T + len ≤ j) : txX X T key cd len na j = X j := by
  unfold txX
  rw [pk_un h9]; unfold uA
  rw [if_neg (by omega), pk_un h2, pk_un h1]
theorem tx_t {t : Nat} (ht : t < T) (hT : T < 14) : txX X T key cd len na (116 + 2 * t) = X (116 + 2 * t) ∧ txX X T key cd len na (117 + 2 * t) = X (117 + 2 * t) ∧ ∀ j, j < 96 → txX X T key cd len na (144 + 96 * t + j) = X (144 + 96 * t + j) :=
  ⟨tx_o (by omega) (by omega) (by omega) (by omega), tx_o (by omega) (by omega) (by omega) (by omega), fun j hj => tx_o (by omega) (by omega) (by omega) (by omega)⟩
theorem tx_WFT (h : WFT cd (nfs key) len na) : WFT (fun j => txX X T key cd len na (144 + 96 * T + j)) (nfs key) len na := by
  have hd : ∀ k, k ≤ len → dpt (fun j => txX X T key cd len na (144 + 96 * T + j)) k = dpt cd k := dpt_cong (c := cd) (d := fun j => txX X T key cd len na (144 + 96 * T + j)) (fun j hj => tx_c hj)
  refine ⟨fun k hk => ?_, by rw [hd len (Nat.le_refl _)]; exact h.2.1, h.2.2.1, fun k hk => by rw [hd k hk]; exact h.2.2.2.1 k hk, h.2.2.2.2⟩
  show (¬ txX X T key cd len na (144 + 96 * T + k) < 0 → 10000 ≤ txX X T key cd len na (144 + 96 * T + k) → ∃ i, i < nfs key ∧ txX X T key cd len na (144 + 96 * T + k) = nI (10000 + i)) ∧ (txX X T key cd len na (144 + 96 * T + k) < 0 → (txX X T key cd len na (144 + 96 * T + k) = -10 → 1 ≤ dpt _ k) ∧ (¬ txX X T key cd len na (144 + 96 * T + k) = -10 → 2 ≤ dpt _ k))
  rw [tx_c hk, hd k (by omega)]
  exact h.1 k hk
theorem tx_TXW (h : TXW X T) (hT : T < 14) (hk : key < 3) (hl : len ≤ 96) (hw : WFT cd (nfs key) len na) : TXW (txX X T key cd len na) (T + 1) := by
  refine ⟨tx_9, by omega, fun t ht => ?_⟩
  by_cases e : t = T
  · subst e
    exact ⟨key, len, na, hk, hl, tx_a hT, tx_b hT, tx_WFT hw⟩
  · obtain ⟨k, n, a, h1, h2, h3, h4, h5⟩ := h.2.2 t (by omega)
    obtain ⟨q1, q2, q3⟩ := tx_t (X := X) (key := key) (cd := cd) (len := len) (na := na) (show t < T by omega) hT
    exact ⟨k, n, a, h1, h2, q1.trans h3, q2.trans h4, h5.cong q3⟩
theorem tx_WX {n l b : Nat} (h : WX X T n l b) (hT : T < 14) (hk : key < 3) (hl : len ≤ 96) (hw : WFT cd (nfs key) len na) : WX (txX X T key cd len na) (T + 1) n l b := by
  obtain ⟨h1, h2, h3, h4, h5, h6, ⟨p, h7, h7b⟩, ⟨w, h8, h8b⟩, ⟨f, h9, h9b⟩, h10⟩ := h
  refine ⟨by rw [tx_lo (by decide) (by decide)]; exact h1, h2, by rw [tx_lo (by decide) (by decide)]; exact h3, h4, tx_TXW h5 hT hk hl hw, h6.cong (fun i hi => tx_lo (by omega) (by omega)), ⟨p, by rw [tx_lo (by decide) (by decide)]; exact h7, h7b⟩, ⟨w, h8, by rw [tx_lo (by decide) (by decide)]; exact h8b⟩, ⟨f, h9, by rw [tx_lo (by decide) (by decide)]; exact h9b⟩, fun y hy => ?_⟩
  obtain ⟨⟨k, g1, g2⟩, s, g3, g4⟩ := h10 y hy
  exact ⟨⟨k, g1, by rw [tx_lo (by omega) (by omega)]; exact g2⟩, s, g3, by rw [tx_lo (by omega) (by omega)]; exact g4⟩
theorem tx_cnt (hT : T < 14) (hk : key < 3) (hl : len ≤ 96) (k : Nat) (hk3 : k < 3) : cnt (txX X T key cd len na) (nI k) (T + 1) = if k = key then nI T else cnt X (nI k) T := by
  rw [cnt, tx_a hT, key_div hk hl, cnt_cong2 T (fun t ht => (tx_t ht hT).1)]
  by_cases e : k = key
  · rw [if_pos e, if_pos (by rw [e])]
  · rw [if_neg e, if_neg (fun z => e ((nI_eq (by omega) (by omega)).mp z).symm)]
end TXX

set_option maxRecDepth 100000 in
set_option maxHeartbeats 1000000 in
theorem k_X2_init {ro : Ro} {S : St} {I : In} {l c na : Nat} {num ky : Int32} (hz : S.2.2 = l + 1) (h0 : S.1 l = some (1, 0)) (hna : na ≤ 96) : Ok mX2_init ro 1 1 96 [.ref l, .int num, .int ky, .int (nI na), .ref c] S I (fun r S' I' => r = none ∧ S'.2.2 = l + 2 ∧ S'.1 (l + 1) = some (20, na) ∧ (S'.2.1 l 3 = .ref c ∧ S'.2.1 l 4 = .ref (l + 1)) ∧ (∀ b, b ≤ l → S'.1 b = S.1 b) ∧ (∀ b, b < l → S'.2.1 b = S.2.1 b) ∧ (I' l 0 = num ∧ I' l 1 = ky ∧ I' l 2 = nI na) ∧ (∀ b, b < l → I' b = I b) ∧ (Fre S → Fre S')) := by
  refine ok_of (al := [.ref l, .int num, .int ky, .int (nI na), .ref c]) (by decide) (l8 rfl) rfl ?_
  refine v_aload_n (n := 1) dX2_init_0 rfl rfl rfl ?_
  refine v_objInit (n := 4) l_X2_1 oi_iv oi_code ⟨rfl, rfl⟩ (l8 rfl) dX2_init_1 rfl ?_
  refine v_aload_n (n := 5) dX2_init_4 rfl rfl rfl ?_
  refine v_iload_n (n := 6) dX2_init_5 rfl rfl rfl ?_
  refine v_putI (n := 9) f_X2_7 rfl (Or.inr ⟨rfl, rfl, rfl⟩) h0 dX2_init_6 rfl ?_
  refine v_aload_n (n := 10) dX2_init_9 rfl rfl rfl ?_
  refine v_iload_n (n := 11) dX2_init_10 rfl rfl rfl ?_
  refine v_putI (n := 14) f_X2_13 rfl (Or.inr ⟨rfl, rfl, rfl⟩) h0 dX2_init_11 rfl ?_
  refine v_aload_n (n := 15) dX2_init_14 rfl rfl rfl ?_
  refine v_iload_n (n := 16) dX2_init_15 rfl rfl rfl ?_
  refine v_putI (n := 19) f_X2_16 rfl (Or.inr ⟨rfl, rfl, rfl⟩) h0 dX2_init_16 rfl ?_
  refine v_aload_n (n := 20) dX2_init_19 rfl rfl rfl ?_
  refine v_aload (n := 22) dX2_init_20 rfl rfl ?_
  refine v_pO (n := 25) f_X2_19 rfl (Or.inr ⟨rfl, rfl, rfl⟩) h0 dX2_init_22 rfl (fun S1 p1 => ?_)
  refine v_aload_n (n := 26) dX2_init_25 rfl rfl rfl ?_
  refine v_iload_n (n := 27) dX2_init_26 rfl rfl rfl ?_
  refine v_nA (n := 29) (t := 0) (N := na) (e := l + 1) (by rw [p1.2.1]; exact hz) (by decide) rfl ac_int ⟨nI_nlt0 (by omega), nI_clamp (by omega), by omega⟩ ⟨l8 rfl, by show 0 + na ≤ 96; omega⟩ dX2_init_27 rfl (fun S2 I2 w2 => ?_)
  have h2 : S2.1 l = some (1, 0) := by rw [(w2.2.2.2.2.1 l (by omega)).1, p1.1]; exact h0
  refine v_pO (n := 32) f_X2_23 rfl (Or.inr ⟨rfl, rfl, rfl⟩) h2 dX2_init_29 rfl (fun S3 p3 => ?_)
  have hl2 := w2.2.2.2.2.1 l (by omega)
  refine v_vret rfl ⟨rfl, by rw [p3.2.1, w2.1], by rw [p3.1]; exact w2.2.1, ⟨by rw [p3.2.2.2.1 3 (by decide), hl2.2.1]; exact p1.2.2.1, p3.2.2.1⟩, fun b hb => by rw [p3.1, (w2.2.2.2.2.1 b (by omega)).1, p1.1], fun b hb => by rw [p3.2.2.2.2 b (by omega), (w2.2.2.2.2.1 b (by omega)).2.1, p1.2.2.2.2 b (by omega)], ?_, fun b hb => by rw [(w2.2.2.2.2.1 b (by omega)).2.2, setI_ne (by omega), setI_ne (by omega), setI_ne (by omega)], fun hf => p3.f (w2.2.2.2.2.2 (p1.f hf))⟩ ⟨l8 rfl, by show 0 + na ≤ 96; omega⟩ dX2_init_32
  rw [hl2.2.2]
  exact ⟨by rw [sI_k (by decide), sI_k (by decide), sI_s], by rw [sI_k (by decide), sI_s], sI_s⟩

set_option maxRecDepth 100000 in
set_option maxHeartbeats 1000000 in
theorem k_X4_lawNumbered {ro : Ro} {S : St} {I : In} {a c k na : Nat} {num ky : Int32} (L : LayRd S a) (hz : S.2.2 = c) (hac : a + 2 ≤ c) (h1 : I a 1 = nI k) (hk : k ≤ 96) (h2 : I a 2 = nI na) (hna : na ≤ 96) (h3 : I a 3 = ky) : Ok mX4_lawNumbered ro 2 3 197 [.ref a, .int num] S I (fun r S' I' => r = some (.ref (c + 1)) ∧ S'.2.2 = c + 3 ∧ LayL S' c k na ∧ (I' (c + 1) 0 = num ∧ I' (c + 1) 1 = ky ∧ I' (c + 1) 2 = nI na) ∧ (∀ j, j < k → I' c j = I (a + 1) j) ∧ EqB 0 c S I S' I' ∧ (Fre S → Fre S')) := by
  refine ok_of (al := [.ref a, .int num, JJ]) (by decide) (l8 rfl) rfl ?_
  refine v_aload_n (n := 1) dX4_lawNumbered_0 rfl rfl rfl ?_
  refine v_getI (n := 4) f_X4_15 rfl L.s dX4_lawNumbered_1 rfl ?_
  rw [h1]
  refine v_nA (n := 6) (t := 0) (N := k) (e := c) hz (by decide) rfl ac_int ⟨nI_nlt0 (by omega), nI_clamp (by omega), by omega⟩ ⟨l8 rfl, by show 0 + k ≤ 197; omega⟩ dX4_lawNumbered_4 rfl (fun S1 I1 w1 => ?_)
  refine v_astore_n (n := 7) (al' := [.ref a, .int num, .ref c]) dX4_lawNumbered_6 rfl rfl rfl rfl ?_
  have e1 : EqB 0 c S I S1 I1 := w1.b (Nat.le_refl _)
  have L1 : LayRd S1 a := L.eb (e1.sub (by omega) (by omega))
  have r1 : I1 a = I a := (e1 a (by omega) (by omega)).2.2
  refine v_aload_n (n := 8) dX4_lawNumbered_7 rfl rfl rfl ?_
  refine v_getR (n := 11) f_X4_9 rfl L1.s L1.g0 dX4_lawNumbered_8 rfl ?_
  refine v_iconst (n := 12) (v := 0) dX4_lawNumbered_11 c_0 rfl ?_
  refine v_aload_n (n := 13) dX4_lawNumbered_12 rfl rfl rfl ?_
  refine v_iconst (n := 14) (v := 0) dX4_lawNumbered_13 c_0 rfl ?_
  refine v_aload_n (n := 15) dX4_lawNumbered_14 rfl rfl rfl ?_
  refine v_getI (n := 18) f_X4_15 rfl L1.s dX4_lawNumbered_15 rfl ?_
  rw [r1, h1]
  refine v_copy (n := 21) (sp := 0) (dp := 0) (k := k) l_X4_61 ac_nat ac_sta ini_J10 L1.c0 w1.2.1 ⟨by decide, by decide⟩ ⟨by decide, by decide⟩ ⟨nI_nlt0 (by omega), nI_clamp (by omega)⟩ ⟨by omega, by omega⟩ ⟨rfl, rfl⟩ (l8 rfl) dX4_lawNumbered_18 rfl ?_
  obtain ⟨I2, hI2⟩ : ∃ I2, I2 = cpyI I1 (a + 1) 0 c 0 k := ⟨_, rfl⟩
  rw [← hI2]
  refine v_nO (n := 24) (ci := 1) (N := 5) (e := c + 1) w1.1 (by decide) rfl cl_X4_67 in_X2 ini_X2 ⟨l8 rfl, by show 0 + k + 5 ≤ 197; omega⟩ dX4_lawNumbered_21 rfl (fun S3 I3 w3 => ?_)
  refine v_dup (n := 25) dX4_lawNumbered_24 rfl rfl ?_
  have r2 : I2 a = I a := by rw [hI2, cpyI_ne (by omega)]; exact r1
  have r3 : I3 a = I a := by rw [(w3.2.2.2.2.1 a (by omega)).2.2]; exact r2
  have s3 : S3.1 a = some (3, 0) := by rw [(w3.2.2.2.2.1 a (by omega)).1]; exact L1.s
  refine v_iload_n (n := 26) dX4_lawNumbered_25 rfl rfl rfl ?_
  refine v_aload_n (n := 27) dX4_lawNumbered_26 rfl rfl rfl ?_
  refine v_getI (n := 30) f_X4_22 rfl s3 dX4_lawNumbered_27 rfl ?_
  refine v_aload_n (n := 31) dX4_lawNumbered_30 rfl rfl rfl ?_
  refine v_getI (n := 34) f_X4_19 rfl s3 dX4_lawNumbered_31 rfl ?_
  rw [r3, h3, h2]
  refine v_aload_n (n := 35) dX4_lawNumbered_34 rfl rfl rfl ?_
  refine v_callI (n := 38) mc_X2_init l_X4_69 iv_X2_init rfl (k_X2_init (c := c) (num := num) (ky := ky) w3.1 w3.2.1 hna) ⟨rfl, rfl⟩ (l8 rfl) ⟨l8 rfl, by show 0 + k + 5 + 96 ≤ 197; omega⟩ rfl rfl (l8 rfl) dX4_lawNumbered_35 rfl ?_
  rintro _ S4 I4 ⟨rfl, q1, q2, q3, q4, q5, q6, q7, q8⟩
  have hc0 : S4.1 c = some (20, k) := by rw [q4 c (by omega), (w3.2.2.2.2.1 c (by omega)).1]; exact w1.2.1
  refine v_aret rfl ⟨rfl, q1, ⟨hc0, by rw [q4 _ (Nat.le_refl _)]; exact w3.2.1, q2, q3⟩, q6, fun j hj => ?_, fun b _ hb => ?_, fun hf => q8 (w3.2.2.2.2.2 (w1.2.2.2.2.2 hf))⟩ ⟨l8 rfl, by show 0 + k + 5 + 96 ≤ 197; omega⟩ dX4_lawNumbered_38
  · rw [q7 c (by omega), (w3.2.2.2.2.1 c (by omega)).2.2, hI2]
    unfold cpyI
    rw [if_pos ⟨rfl, Nat.zero_le _, by omega⟩, (e1 (a + 1) (by omega) (by omega)).2.2, show 0 + (j - 0) = j by omega]
  · have q := e1 b (Nat.zero_le _) hb
    have u := w3.2.2.2.2.1 b (by omega)
    exact ⟨by rw [q4 b (by omega), u.1, q.1], by rw [q5 b (by omega), u.2.1, q.2.1], by rw [q7 b (by omega), u.2.2, hI2, cpyI_ne (by omega), q.2.2]⟩

set_option maxRecDepth 100000 in
set_option maxHeartbeats 1000000 in
theorem k_X9_adopt {ro : Ro} {S : St} {I : In} {v l key : Nat} (L : LayV S v) (hl : S.1 l = some (1, 0)) (hk : I l 1 = nI key) (hkey : key < 3) : Ok mX9_adopt ro 0 0 0 [.ref v, .ref l] S I (fun r S' I' => r = none ∧ PutO S (v + 10) key (.ref l) S' ∧ I' = setI I v 3 (I v 3 + 1)) := by
  refine ok_of (al := [.ref v, .ref l]) (by decide) (l8 rfl) rfl ?_
  refine v_aload_n (n := 1) dX9_adopt_0 rfl rfl rfl ?_
  refine v_getR (n := 4) f_X9_27 rfl L.s L.g2 dX9_adopt_1 rfl ?_
  refine v_aload_n (n := 5) dX9_adopt_4 rfl rfl rfl ?_
  refine v_getI (n := 8) f_X9_57 rfl hl dX9_adopt_5 rfl ?_
  rw [hk]
  refine v_aload_n (n := 9) dX9_adopt_8 rfl rfl rfl ?_
  refine v_aO (n := 10) (t := 4) (j := key) ⟨by decide, by decide⟩ L.c2 (ix_nI hkey (by decide)) hl dX9_adopt_9 rfl (fun S1 p1 => ?_)
  have s1 : S1.1 v = some (8, 0) := by rw [p1.1]; exact L.s
  refine v_aload_n (n := 11) dX9_adopt_10 rfl rfl rfl ?_
  refine v_dup (n := 12) dX9_adopt_11 rfl rfl ?_
  refine v_getI (n := 15) f_X9_31 rfl s1 dX9_adopt_12 rfl ?_
  refine v_iconst (n := 16) (v := 1) dX9_adopt_15 c_1 rfl ?_
  refine v_iadd (n := 17) dX9_adopt_16 rfl ?_
  refine v_putI (n := 20) f_X9_31 rfl (Or.inl rfl) s1 dX9_adopt_17 rfl ?_
  exact v_vret rfl ⟨rfl, p1, rfl⟩ ⟨l8 rfl, l8 rfl⟩ dX9_adopt_20

