/-! ===== the reference's rows: where they lie, and what its methods do, in words of its array 'now' ===== -/
def mOff (k : Nat) : Nat := match k with
  | 0 => 1
  | 1 => 2
  | 2 => 3
  | 4 => 4
  | 5 => 5
  | 6 => 6
  | 14 => 7
  | 15 => 8
  | 16 => 9
  | 19 => 10
  | 21 => 11
  | 22 => 12
  | 23 => 13
  | 24 => 14
  | 25 => 15
  | 26 => 16
  | 27 => 17
  | 28 => 18
  | 29 => 19
  | 30 => 20
  | 31 => 21
  | 32 => 22
  | _ => 0
def mSh (j : Nat) : Nat × Nat := match j with
  | 1 => (20, 1488)
  | 2 => (20, 1488)
  | 3 => (20, 1488)
  | 4 => (20, 116)
  | 5 => (20, 3)
  | 6 => (20, 96)
  | 7 => (22, 12)
  | 8 => (20, 4)
  | 9 => (20, 96)
  | 10 => (20, 96)
  | 11 => (21, 10)
  | 12 => (20, 96)
  | 13 => (20, 4)
  | 14 => (20, 4)
  | 15 => (20, 4)
  | 16 => (20, 96)
  | 17 => (20, 5)
  | 18 => (20, 5)
  | 19 => (20, 5)
  | 20 => (20, 120)
  | 21 => (20, 24)
  | 22 => (20, 60)
  | _ => (10, 0)
def LayM (S : St) (m : Nat) : Prop := S.1 m = some (10, 0) ∧ (∀ k, k < 34 → isR 10 k = true → S.2.1 m k = .ref (m + mOff k)) ∧ ∀ j, j < 23 → S.1 (m + j) = some (mSh j)
theorem LayM.s {S : St} {m : Nat} (h : LayM S m) : S.1 m = some (10, 0) := h.1
theorem LayM.g0 {S : St} {m : Nat} (h : LayM S m) : S.2.1 m 0 = .ref (m + 1) := h.2.1 0 (by decide) (by decide)
theorem LayM.c0 {S : St} {m : Nat} (h : LayM S m) : S.1 (m + 1) = some (20, 1488) := h.2.2 1 (by decide)
theorem LayM.g1 {S : St} {m : Nat} (h : LayM S m) : S.2.1 m 1 = .ref (m + 2) := h.2.1 1 (by decide) (by decide)
theorem LayM.c1 {S : St} {m : Nat} (h : LayM S m) : S.1 (m + 2) = some (20, 1488) := h.2.2 2 (by decide)
theorem LayM.g2 {S : St} {m : Nat} (h : LayM S m) : S.2.1 m 2 = .ref (m + 3) := h.2.1 2 (by decide) (by decide)
theorem LayM.c2 {S : St} {m : Nat} (h : LayM S m) : S.1 (m + 3) = some (20, 1488) := h.2.2 3 (by decide)
theorem LayM.g4 {S : St} {m : Nat} (h : LayM S m) : S.2.1 m 4 = .ref (m + 4) := h.2.1 4 (by decide) (by decide)
theorem LayM.c4 {S : St} {m : Nat} (h : LayM S m) : S.1 (m + 4) = some (20, 116) := h.2.2 4 (by decide)
theorem LayM.g5 {S : St} {m : Nat} (h : LayM S m) : S.2.1 m 5 = .ref (m + 5) := h.2.1 5 (by decide) (by decide)
theorem LayM.c5 {S : St} {m : Nat} (h : LayM S m) : S.1 (m + 5) = some (20, 3) := h.2.2 5 (by decide)
theorem LayM.g6 {S : St} {m : Nat} (h : LayM S m) : S.2.1 m 6 = .ref (m + 6) := h.2.1 6 (by decide) (by decide)
theorem LayM.c6 {S : St} {m : Nat} (h : LayM S m) : S.1 (m + 6) = some (20, 96) := h.2.2 6 (by decide)
theorem LayM.g14 {S : St} {m : Nat} (h : LayM S m) : S.2.1 m 14 = .ref (m + 7) := h.2.1 14 (by decide) (by decide)
theorem LayM.c14 {S : St} {m : Nat} (h : LayM S m) : S.1 (m + 7) = some (22, 12) := h.2.2 7 (by decide)
theorem LayM.g15 {S : St} {m : Nat} (h : LayM S m) : S.2.1 m 15 = .ref (m + 8) := h.2.1 15 (by decide) (by decide)
theorem LayM.c15 {S : St} {m : Nat} (h : LayM S m) : S.1 (m + 8) = some (20, 4) := h.2.2 8 (by decide)
theorem LayM.g16 {S : St} {m : Nat} (h : LayM S m) : S.2.1 m 16 = .ref (m + 9) := h.2.1 16 (by decide) (by decide)
theorem LayM.c16 {S : St} {m : Nat} (h : LayM S m) : S.1 (m + 9) = some (20, 96) := h.2.2 9 (by decide)
theorem LayM.g19 {S : St} {m : Nat} (h : LayM S m) : S.2.1 m 19 = .ref (m + 10) := h.2.1 19 (by decide) (by decide)
theorem LayM.c19 {S : St} {m : Nat} (h : LayM S m) : S.1 (m + 10) = some (20, 96) := h.2.2 10 (by decide)
theorem LayM.g21 {S : St} {m : Nat} (h : LayM S m) : S.2.1 m 21 = .ref (m + 11) := h.2.1 21 (by decide) (by decide)
theorem LayM.c21 {S : St} {m : Nat} (h : LayM S m) : S.1 (m + 11) = some (21, 10) := h.2.2 11 (by decide)
theorem LayM.g22 {S : St} {m : Nat} (h : LayM S m) : S.2.1 m 22 = .ref (m + 12) := h.2.1 22 (by decide) (by decide)
theorem LayM.c22 {S : St} {m : Nat} (h : LayM S m) : S.1 (m + 12) = some (20, 96) := h.2.2 12 (by decide)
theorem LayM.g23 {S : St} {m : Nat} (h : LayM S m) : S.2.1 m 23 = .ref (m + 13) := h.2.1 23 (by decide) (by decide)
theorem LayM.c23 {S : St} {m : Nat} (h : LayM S m) : S.1 (m + 13) = some (20, 4) := h.2.2 13 (by decide)
theorem LayM.g24 {S : St} {m : Nat} (h : LayM S m) : S.2.1 m 24 = .ref (m + 14) := h.2.1 24 (by decide) (by decide)
theorem LayM.c24 {S : St} {m : Nat} (h : LayM S m) : S.1 (m + 14) = some (20, 4) := h.2.2 14 (by decide)
theorem LayM.g25 {S : St} {m : Nat} (h : LayM S m) : S.2.1 m 25 = .ref (m + 15) := h.2.1 25 (by decide) (by decide)
theorem LayM.c25 {S : St} {m : Nat} (h : LayM S m) : S.1 (m + 15) = some (20, 4) := h.2.2 15 (by decide)
theorem LayM.g26 {S : St} {m : Nat} (h : LayM S m) : S.2.1 m 26 = .ref (m + 16) := h.2.1 26 (by decide) (by decide)
theorem LayM.c26 {S : St} {m : Nat} (h : LayM S m) : S.1 (m + 16) = some (20, 96) := h.2.2 16 (by decide)
theorem LayM.g27 {S : St} {m : Nat} (h : LayM S m) : S.2.1 m 27 = .ref (m + 17) := h.2.1 27 (by decide) (by decide)
theorem LayM.c27 {S : St} {m : Nat} (h : LayM S m) : S.1 (m + 17) = some (20, 5) := h.2.2 17 (by decide)
theorem LayM.g28 {S : St} {m : Nat} (h : LayM S m) : S.2.1 m 28 = .ref (m + 18) := h.2.1 28 (by decide) (by decide)
theorem LayM.c28 {S : St} {m : Nat} (h : LayM S m) : S.1 (m + 18) = some (20, 5) := h.2.2 18 (by decide)
theorem LayM.g29 {S : St} {m : Nat} (h : LayM S m) : S.2.1 m 29 = .ref (m + 19) := h.2.1 29 (by decide) (by decide)
theorem LayM.c29 {S : St} {m : Nat} (h : LayM S m) : S.1 (m + 19) = some (20, 5) := h.2.2 19 (by decide)
theorem LayM.g30 {S : St} {m : Nat} (h : LayM S m) : S.2.1 m 30 = .ref (m + 20) := h.2.1 30 (by decide) (by decide)
theorem LayM.c30 {S : St} {m : Nat} (h : LayM S m) : S.1 (m + 20) = some (20, 120) := h.2.2 20 (by decide)
theorem LayM.g31 {S : St} {m : Nat} (h : LayM S m) : S.2.1 m 31 = .ref (m + 21) := h.2.1 31 (by decide) (by decide)
theorem LayM.c31 {S : St} {m : Nat} (h : LayM S m) : S.1 (m + 21) = some (20, 24) := h.2.2 21 (by decide)
theorem LayM.g32 {S : St} {m : Nat} (h : LayM S m) : S.2.1 m 32 = .ref (m + 22) := h.2.1 32 (by decide) (by decide)
theorem LayM.c32 {S : St} {m : Nat} (h : LayM S m) : S.1 (m + 22) = some (20, 60) := h.2.2 22 (by decide)
abbrev Ar : Type := Nat → Int32
/-- the row a becomes f -/
def row (I : In) (a : Nat) (f : Ar) : In := fun b j => if b = a then f j else I b j
theorem row_s {I : In} {a : Nat} {f : Ar} : row I a f a = f := by funext j; exact if_pos rfl
theorem row_o {I : In} {a b : Nat} {f : Ar} (h : b ≠ a) : row I a f b = I b := by funext j; exact if_neg h
theorem row_set {I : In} {a k : Nat} {x : Int32} : setI I a k x = row I a (upd (I a) k x) := by
  funext b j
  unfold setI row upd
  by_cases h : b = a
  · subst h; simp
  · simp [h]
theorem row_row {I : In} {a : Nat} {f g : Ar} : row (row I a f) a g = row I a g := by
  funext b j
  unfold row
  by_cases h : b = a <;> simp [h]
theorem row_id {I : In} {a : Nat} : row I a (I a) = I := by
  funext b j
  unfold row
  by_cases h : b = a
  · subst h; simp
  · simp [h]
theorem row_setS {I : In} {a k : Nat} {f : Ar} {x : Int32} : setI (row I a f) a k x = row I a (upd f k x) := by rw [row_set, row_s, row_row]
/-- alike, but for some rows -/
def Eqx (P : Nat → Prop) (I I' : In) : Prop := ∀ a, ¬ P a → I' a = I a
theorem Eqx.rf {P : Nat → Prop} {I : In} : Eqx P I I := fun _ _ => rfl
theorem Eqx.tr {P : Nat → Prop} {I I' I'' : In} (h : Eqx P I I') (h2 : Eqx P I' I'') : Eqx P I I'' := fun a ha => (h2 a ha).trans (h a ha)
theorem Eqx.mono {P P' : Nat → Prop} {I I' : In} (h : Eqx P I I') (hp : ∀ a, P a → P' a) : Eqx P' I I' := fun a ha => h a (fun q => ha (hp a q))
theorem Eqx.set {P : Nat → Prop} {I I' : In} {a k : Nat} {x : Int32} (h : Eqx P I I') (ha : P a) : Eqx P I (setI I' a k x) := fun b hb => by
  rw [setI_ne (fun q => hb (by rw [q]; exact ha))]; exact h b hb
theorem ix_lit {j ln : Nat} {x : Int32} (hx : x = nI j) (h : Nat.blt j ln = true) (hl : Nat.blt ln 2147483648 = true) : ix x j ln := ix_of hx (by simpa using h) (by simpa using hl)
theorem i_of (y u : Nat) : 76 + 4 * nI y + nI u = nI (76 + 4 * y + u) := by
  rw [show (76 : Int32) = nI 76 from rfl, show (4 : Int32) = nI 4 from rfl, pk_mul, nI_add, nI_add]
theorem i_la (i : Nat) : 16 + 2 * nI i = nI (16 + 2 * i) := by
  rw [show (16 : Int32) = nI 16 from rfl, show (2 : Int32) = nI 2 from rfl, pk_mul, nI_add]
theorem i_lb (i : Nat) : 16 + 2 * nI i + 1 = nI (17 + 2 * i) := by
  rw [i_la, nI_1]; congr 1; omega
theorem i_ta (i : Nat) : 116 + 2 * nI i = nI (116 + 2 * i) := by
  rw [show (116 : Int32) = nI 116 from rfl, show (2 : Int32) = nI 2 from rfl, pk_mul, nI_add]
theorem i_co (t k : Nat) : 144 + 96 * nI t + nI k = nI (144 + 96 * t + k) := by
  rw [show (144 : Int32) = nI 144 from rfl, show (96 : Int32) = nI 96 from rfl, pk_mul, nI_add, nI_add]
def win (v a b : Int32) : Int32 := if v < a then a else if b < v then b else v
def inn (v a b : Int32) : Bool := !decide (v < a) && !decide (b < v)
def wS (X : Ar) (n : Nat) : Int32 := sm (fun i => X (17 + 2 * i)) n
def ledS (X : Ar) (y : Int32) : Nat → Int32
  | 0 => 0
  | n + 1 => ledS X y n + (if X (16 + 2 * n) = y then X (17 + 2 * n) else 0)
def cnt (X : Ar) (k : Int32) : Nat → Int32
  | 0 => -1
  | t + 1 => if X (116 + 2 * t) / 1000 = k then nI t else cnt X k t
def twoF (c a b : Int32) : Int32 := if c = -1 then (if a = 0 then (if b = 0 then 0 else 1) else 1) else if c = -2 then (if a = 0 then 0 else if b = 0 then 0 else 1) else if c = -3 then (if b ≤ a then 0 else 1) else if c = -4 then (if a = b then 1 else 0) else if c = -5 then (if a ≤ b then 0 else 1) else if c = -6 then a + b else if c = -7 then a - b else if c = -8 then a * b else if b = 0 then 0 else a / b
def kWorthM (k sn g : Int32) : Int32 := if k = 1 then sn + 5 else if k = 2 then 999 - sn else if k = 3 then 2 * (sn + 5) else if k = 4 then 991 - sn else if k = 5 then g else sn

set_option maxRecDepth 100000 in
set_option maxHeartbeats 1000000 in
theorem k_X11_in {ro : Ro} {S : St} {I : In} {x y w : Int32} : Ok mX11_in ro 0 0 0 [.int x, .int y, .int w] S I (RI (bi (inn x y w)) S I) := by
  refine ok_of (al := [.int x, .int y, .int w]) (by decide) (l8 rfl) rfl ?_
  refine v_iload_n (n := 1) dX11_in_0 rfl rfl rfl ?_
  refine v_iload_n (n := 2) dX11_in_1 rfl rfl rfl ?_
  refine v_icmp_lt (n := 5) (tgt := 14) dX11_in_2 (by decide) rfl (fun hq2 => ?_) (fun hq2 => ?_)
  · refine v_iconst (n := 15) (v := 0) dX11_in_14 c_0 rfl ?_
    exact v_rZ rfl (by simp [inn, bi, *]) rfl rfl ⟨l8 rfl, l8 rfl⟩ dX11_in_15
  · refine v_iload_n (n := 6) dX11_in_5 rfl rfl rfl ?_
    refine v_iload_n (n := 7) dX11_in_6 rfl rfl rfl ?_
    refine v_icmp_gt (n := 10) (tgt := 14) dX11_in_7 (by decide) rfl (fun hq7 => ?_) (fun hq7 => ?_)
    · refine v_iconst (n := 15) (v := 0) dX11_in_14 c_0 rfl ?_
      exact v_rZ rfl (by simp [inn, bi, *]) rfl rfl ⟨l8 rfl, l8 rfl⟩ dX11_in_15
    · refine v_iconst (n := 11) (v := 1) dX11_in_10 c_1 rfl ?_
      refine v_goto (tgt := 15) dX11_in_11 (by decide) ?_
      exact v_rZ rfl (by simp [inn, bi, *]) rfl rfl ⟨l8 rfl, l8 rfl⟩ dX11_in_15

set_option maxRecDepth 100000 in
set_option maxHeartbeats 1000000 in
theorem k_X11_within {ro : Ro} {S : St} {I : In} {x y w : Int32} : Ok mX11_within ro 0 0 0 [.int x, .int y, .int w] S I (RI (win x y w) S I) := by
  refine ok_of (al := [.int x, .int y, .int w]) (by decide) (l8 rfl) rfl ?_
  refine v_iload_n (n := 1) dX11_within_0 rfl rfl rfl ?_
  refine v_iload_n (n := 2) dX11_within_1 rfl rfl rfl ?_
  refine v_icmp_ge (n := 5) (tgt := 9) dX11_within_2 (by decide) rfl (fun hq2 => ?_) (fun hq2 => ?_)
  · have hq2 := Int32.not_lt.mpr hq2
    refine v_iload_n (n := 10) dX11_within_9 rfl rfl rfl ?_
    refine v_iload_n (n := 11) dX11_within_10 rfl rfl rfl ?_
    refine v_icmp_le (n := 14) (tgt := 18) dX11_within_11 (by decide) rfl (fun hq11 => ?_) (fun hq11 => ?_)
    · have hq11 := Int32.not_lt.mpr hq11
      refine v_iload_n (n := 19) dX11_within_18 rfl rfl rfl ?_
      exact v_rI rfl (by simp [win, *]) rfl rfl ⟨l8 rfl, l8 rfl⟩ dX11_within_19
    · have hq11 := Int32.not_le.mp hq11
      refine v_iload_n (n := 15) dX11_within_14 rfl rfl rfl ?_
      refine v_goto (tgt := 19) dX11_within_15 (by decide) ?_
      exact v_rI rfl (by simp [win, *]) rfl rfl ⟨l8 rfl, l8 rfl⟩ dX11_within_19
  · have hq2 := Int32.not_le.mp hq2
    refine v_iload_n (n := 6) dX11_within_5 rfl rfl rfl ?_
    refine v_goto (tgt := 19) dX11_within_6 (by decide) ?_
    exact v_rI rfl (by simp [win, *]) rfl rfl ⟨l8 rfl, l8 rfl⟩ dX11_within_19

set_option maxRecDepth 100000 in
set_option maxHeartbeats 1000000 in
theorem k_X11_isYard {ro : Ro} {S : St} {I : In} {m : Nat} {x : Int32} (L : LayM S m) : Ok mX11_isYard ro 1 0 0 [.ref m, .int x] S I (RI (bi (inn x 0 (I (m + 1) 1 - 1))) S I) := by
  refine ok_of (al := [.ref m, .int x]) (by decide) (l8 rfl) rfl ?_
  refine v_iload_n (n := 1) dX11_isYard_0 rfl rfl rfl ?_
  refine v_iconst (n := 2) (v := 0) dX11_isYard_1 c_0 rfl ?_
  refine v_aload_n (n := 3) dX11_isYard_2 rfl rfl rfl ?_
  refine v_getR (n := 6) f_X11_9 rfl L.s L.g0 dX11_isYard_3 rfl ?_
  refine v_iconst (n := 7) (v := 1) dX11_isYard_6 c_1 rfl ?_
  refine v_iald (n := 8) (j := 1) L.c0 (ix_lit rfl rfl rfl) dX11_isYard_7 rfl ?_
  refine v_iconst (n := 9) (v := 1) dX11_isYard_8 c_1 rfl ?_
  refine v_isub (n := 10) dX11_isYard_9 rfl ?_
  refine v_cSi (n := 13) (x := (bi (inn x 0 (I (m + 1) 1 - 1)))) mc_X11_in l_X11_78 sta_X11_in k_X11_in ⟨rfl, rfl⟩ (l8 rfl) ⟨l8 rfl, l8 rfl⟩ rfl rfl (l8 rfl) dX11_isYard_10 rfl ?_
  exact v_rZ rfl rfl rfl rfl ⟨l8 rfl, l8 rfl⟩ dX11_isYard_13

set_option maxRecDepth 100000 in
set_option maxHeartbeats 1000000 in
theorem k_X11_of {ro : Ro} {S : St} {I : In} {m y u : Nat} (L : LayM S m) (hy : y < 10) (hu : u < 4) : Ok mX11_of ro 0 0 0 [.ref m, .int (nI y), .int (nI u)] S I (RI (I (m + 1) (76 + 4 * y + u)) S I) := by
  refine ok_of (al := [.ref m, .int (nI y), .int (nI u)]) (by decide) (l8 rfl) rfl ?_
  refine v_aload_n (n := 1) dX11_of_0 rfl rfl rfl ?_
  refine v_getR (n := 4) f_X11_9 rfl L.s L.g0 dX11_of_1 rfl ?_
  refine v_bipush (n := 6) (v := 76) dX11_of_4 b_76 rfl ?_
  refine v_iconst (n := 7) (v := 4) dX11_of_6 c_4 rfl ?_
  refine v_iload_n (n := 8) dX11_of_7 rfl rfl rfl ?_
  refine v_imul (n := 9) dX11_of_8 rfl ?_
  refine v_iadd (n := 10) dX11_of_9 rfl ?_
  refine v_iload_n (n := 11) dX11_of_10 rfl rfl rfl ?_
  refine v_iadd (n := 12) dX11_of_11 rfl ?_
  refine v_iald (n := 13) (j := 76 + 4 * y + u) L.c0 (ix_of (i_of y u) (by omega) (by decide)) dX11_of_12 rfl ?_
  exact v_rI rfl rfl rfl rfl ⟨l8 rfl, l8 rfl⟩ dX11_of_13

set_option maxRecDepth 100000 in
set_option maxHeartbeats 1000000 in
theorem k_X11_put {ro : Ro} {S : St} {I : In} {m y u : Nat} {x : Int32} (L : LayM S m) (hy : y < 10) (hu : u < 4) : Ok mX11_put ro 0 0 0 [.ref m, .int (nI y), .int (nI u), .int x] S I (RV S (row I (m + 1) (upd (I (m + 1)) (76 + 4 * y + u) x))) := by
  refine ok_of (al := [.ref m, .int (nI y), .int (nI u), .int x]) (by decide) (l8 rfl) rfl ?_
  refine v_aload_n (n := 1) dX11_put_0 rfl rfl rfl ?_
  refine v_getR (n := 4) f_X11_9 rfl L.s L.g0 dX11_put_1 rfl ?_
  refine v_bipush (n := 6) (v := 76) dX11_put_4 b_76 rfl ?_
  refine v_iconst (n := 7) (v := 4) dX11_put_6 c_4 rfl ?_
  refine v_iload_n (n := 8) dX11_put_7 rfl rfl rfl ?_
  refine v_imul (n := 9) dX11_put_8 rfl ?_
  refine v_iadd (n := 10) dX11_put_9 rfl ?_
  refine v_iload_n (n := 11) dX11_put_10 rfl rfl rfl ?_
  refine v_iadd (n := 12) dX11_put_11 rfl ?_
  refine v_iload_n (n := 13) dX11_put_12 rfl rfl rfl ?_
  refine v_iast (n := 14) (j := 76 + 4 * y + u) L.c0 (ix_of (i_of y u) (by omega) (by decide)) dX11_put_13 rfl ?_
  exact v_rV rfl rfl row_set ⟨l8 rfl, l8 rfl⟩ dX11_put_14

set_option maxRecDepth 100000 in
set_option maxHeartbeats 1000000 in
theorem k_X11_becomes {ro : Ro} {S : St} {I : In} {m u : Nat} {x : Int32} (L : LayM S m) (hu : u < 1488) : Ok mX11_becomes ro 0 0 0 [.ref m, .int (nI u), .int x] S I (RI (I (m + 1) u) S (row I (m + 1) (upd (I (m + 1)) u x))) := by
  refine ok_of (al := [.ref m, .int (nI u), .int x, JJ]) (by decide) (l8 rfl) rfl ?_
  refine v_aload_n (n := 1) dX11_becomes_0 rfl rfl rfl ?_
  refine v_getR (n := 4) f_X11_9 rfl L.s L.g0 dX11_becomes_1 rfl ?_
  refine v_iload_n (n := 5) dX11_becomes_4 rfl rfl rfl ?_
  refine v_iald (n := 6) (j := u) L.c0 (ix_nI hu (by decide)) dX11_becomes_5 rfl ?_
  refine v_istore_n (n := 7) (al' := [.ref m, .int (nI u), .int x, .int (I (m + 1) u)]) dX11_becomes_6 rfl rfl rfl rfl ?_
  refine v_aload_n (n := 8) dX11_becomes_7 rfl rfl rfl ?_
  refine v_getR (n := 11) f_X11_9 rfl L.s L.g0 dX11_becomes_8 rfl ?_
  refine v_iload_n (n := 12) dX11_becomes_11 rfl rfl rfl ?_
  refine v_iload_n (n := 13) dX11_becomes_12 rfl rfl rfl ?_
  refine v_iast (n := 14) (j := u) L.c0 (ix_nI hu (by decide)) dX11_becomes_13 rfl ?_
  refine v_iload_n (n := 15) dX11_becomes_14 rfl rfl rfl ?_
  exact v_rI rfl rfl rfl row_set ⟨l8 rfl, l8 rfl⟩ dX11_becomes_15

set_option maxRecDepth 100000 in
set_option maxHeartbeats 1000000 in
theorem k_X11_isOf {ro : Ro} {S : St} {I : In} {x y : Int32} : Ok mX11_isOf ro 1 0 0 [.int x, .int y] S I (RI (bi (inn y (if x = 1 then 0 else 1) 999)) S I) := by
  refine ok_of (al := [.int x, .int y]) (by decide) (l8 rfl) rfl ?_
  refine v_iload_n (n := 1) dX11_isOf_0 rfl rfl rfl ?_
  refine v_iload_n (n := 2) dX11_isOf_1 rfl rfl rfl ?_
  refine v_iconst (n := 3) (v := 1) dX11_isOf_2 c_1 rfl ?_
  refine v_icmp_ne (n := 6) (tgt := 10) dX11_isOf_3 (by decide) rfl (fun hq3 => ?_) (fun hq3 => ?_)
  · refine v_iconst (n := 11) (v := 1) dX11_isOf_10 c_1 rfl ?_
    refine v_sipush (n := 14) (v := 999) dX11_isOf_11 s_999 rfl ?_
    refine v_cSi (n := 17) (x := (bi (inn y 1 999))) mc_X11_in l_X11_78 sta_X11_in k_X11_in ⟨rfl, rfl⟩ (l8 rfl) ⟨l8 rfl, l8 rfl⟩ rfl rfl (l8 rfl) dX11_isOf_14 rfl ?_
    exact v_rZ rfl (by simp [*]) rfl rfl ⟨l8 rfl, l8 rfl⟩ dX11_isOf_17
  · refine v_iconst (n := 7) (v := 0) dX11_isOf_6 c_0 rfl ?_
    refine v_goto (tgt := 11) dX11_isOf_7 (by decide) ?_
    refine v_sipush (n := 14) (v := 999) dX11_isOf_11 s_999 rfl ?_
    refine v_cSi (n := 17) (x := (bi (inn y 0 999))) mc_X11_in l_X11_78 sta_X11_in k_X11_in ⟨rfl, rfl⟩ (l8 rfl) ⟨l8 rfl, l8 rfl⟩ rfl rfl (l8 rfl) dX11_isOf_14 rfl ?_
    exact v_rZ rfl (by simp [*]) rfl rfl ⟨l8 rfl, l8 rfl⟩ dX11_isOf_17

set_option maxRecDepth 100000 in
set_option maxHeartbeats 1000000 in
theorem l_X11_weight {ro : Ro} {S : St} {I : In} {m l : Nat} (L : LayM S m) (hl : I (m + 1) 7 = nI l) (hl30 : l ≤ 30) : ∀ k i, i ≤ l → l < i + k → V RX11 cX11_weight 3 (some .int) "weight" ro (rmD 0 0 0) (QM 0 0 (RI (wS (I (m + 1)) l) S I)) 0 0 4 [.ref m, .int (wS (I (m + 1)) i), .int (nI i)] [] S I := by
  intro k
  induction k with
  | zero => intro i hi hk; exact absurd hk (by omega)
  | succ k ih =>
    intro i hi hk
    refine v_iload_n (n := 5) dX11_weight_4 rfl rfl rfl ?_
    refine v_aload_n (n := 6) dX11_weight_5 rfl rfl rfl ?_
    refine v_getR (n := 9) f_X11_9 rfl L.s L.g0 dX11_weight_6 rfl ?_
    refine v_bipush (n := 11) (v := 7) dX11_weight_9 b_7 rfl ?_
    refine v_iald (n := 12) (j := 7) L.c0 (ix_lit rfl rfl rfl) dX11_weight_11 rfl ?_
    refine v_icmp_ge (n := 15) (tgt := 37) dX11_weight_12 (by decide) rfl (fun hq12 => ?_) (fun hq12 => ?_)
    · rw [hl] at hq12
      obtain rfl : i = l := Nat.le_antisymm hi (le_out hq12 (by omega) (by omega))
      refine v_iload_n (n := 38) dX11_weight_37 rfl rfl rfl ?_
      exact v_rI rfl rfl rfl rfl ⟨l8 rfl, l8 rfl⟩ dX11_weight_38
    · rw [hl] at hq12
      have hlt := nle_in hq12 (by omega) (by omega)
      refine v_iload_n (n := 16) dX11_weight_15 rfl rfl rfl ?_
      refine v_aload_n (n := 17) dX11_weight_16 rfl rfl rfl ?_
      refine v_getR (n := 20) f_X11_9 rfl L.s L.g0 dX11_weight_17 rfl ?_
      refine v_bipush (n := 22) (v := 16) dX11_weight_20 b_16 rfl ?_
      refine v_iconst (n := 23) (v := 2) dX11_weight_22 c_2 rfl ?_
      refine v_iload_n (n := 24) dX11_weight_23 rfl rfl rfl ?_
      refine v_imul (n := 25) dX11_weight_24 rfl ?_
      refine v_iadd (n := 26) dX11_weight_25 rfl ?_
      refine v_iconst (n := 27) (v := 1) dX11_weight_26 c_1 rfl ?_
      refine v_iadd (n := 28) dX11_weight_27 rfl ?_
      refine v_iald (n := 29) (j := 17 + 2 * i) L.c0 (ix_of (i_lb i) (by omega) (by decide)) dX11_weight_28 rfl ?_
      refine v_iadd (n := 30) dX11_weight_29 rfl ?_
      refine v_istore_n (n := 31) (al' := [.ref m, .int ((wS (I (m + 1)) i) + (I (m + 1) (17 + 2 * i))), .int (nI i)]) dX11_weight_30 rfl rfl rfl rfl ?_
      refine v_iinc (n := 34) (v := (nI i) + 1) (al' := [.ref m, .int ((wS (I (m + 1)) i) + (I (m + 1) (17 + 2 * i))), .int ((nI i) + 1)]) dX11_weight_31 rfl (by rw [c_1]) rfl rfl rfl ?_
      refine v_goto (tgt := 4) dX11_weight_34 (by decide) ?_
      rw [nI_1]
      exact ih (i + 1) hlt (by omega)

set_option maxRecDepth 100000 in
set_option maxHeartbeats 1000000 in
theorem k_X11_weight {ro : Ro} {S : St} {I : In} {m l : Nat} (L : LayM S m) (hl : I (m + 1) 7 = nI l) (hl30 : l ≤ 30) : Ok mX11_weight ro 0 0 0 [.ref m] S I (RI (wS (I (m + 1)) l) S I) := by
  refine ok_of (al := [.ref m, JJ, JJ]) (by decide) (l8 rfl) rfl ?_
  refine v_iconst (n := 1) (v := 0) dX11_weight_0 c_0 rfl ?_
  refine v_istore_n (n := 2) (al' := [.ref m, .int 0, JJ]) dX11_weight_1 rfl rfl rfl rfl ?_
  refine v_iconst (n := 3) (v := 0) dX11_weight_2 c_0 rfl ?_
  refine v_istore_n (n := 4) (al' := [.ref m, .int 0, .int 0]) dX11_weight_3 rfl rfl rfl rfl ?_
  exact l_X11_weight L hl hl30 (l + 1) 0 (Nat.zero_le _) (by omega)

set_option maxRecDepth 100000 in
set_option maxHeartbeats 1000000 in
theorem l_X11_ledTo {ro : Ro} {S : St} {I : In} {m l : Nat} {y : Int32} (L : LayM S m) (hl : I (m + 1) 7 = nI l) (hl30 : l ≤ 30) : ∀ k i, i ≤ l → l < i + k → V RX11 cX11_ledTo 4 (some .int) "ledTo" ro (rmD 0 0 0) (QM 0 0 (RI (ledS (I (m + 1)) y l) S I)) 0 0 4 [.ref m, .int y, .int (ledS (I (m + 1)) y i), .int (nI i)] [] S I := by
  intro k
  induction k with
  | zero => intro i hi hk; exact absurd hk (by omega)
  | succ k ih =>
    intro i hi hk
    refine v_iload_n (n := 5) dX11_ledTo_4 rfl rfl rfl ?_
    refine v_aload_n (n := 6) dX11_ledTo_5 rfl rfl rfl ?_
    refine v_getR (n := 9) f_X11_9 rfl L.s L.g0 dX11_ledTo_6 rfl ?_
    refine v_bipush (n := 11) (v := 7) dX11_ledTo_9 b_7 rfl ?_
    refine v_iald (n := 12) (j := 7) L.c0 (ix_lit rfl rfl rfl) dX11_ledTo_11 rfl ?_
    refine v_icmp_ge (n := 15) (tgt := 56) dX11_ledTo_12 (by decide) rfl (fun hq12 => ?_) (fun hq12 => ?_)
    · rw [hl] at hq12
      obtain rfl : i = l := Nat.le_antisymm hi (le_out hq12 (by omega) (by omega))
      refine v_iload_n (n := 57) dX11_ledTo_56 rfl rfl rfl ?_
      exact v_rI rfl rfl rfl rfl ⟨l8 rfl, l8 rfl⟩ dX11_ledTo_57
    · rw [hl] at hq12
      have hlt := nle_in hq12 (by omega) (by omega)
      refine v_iload_n (n := 16) dX11_ledTo_15 rfl rfl rfl ?_
      refine v_aload_n (n := 17) dX11_ledTo_16 rfl rfl rfl ?_
      refine v_getR (n := 20) f_X11_9 rfl L.s L.g0 dX11_ledTo_17 rfl ?_
      refine v_bipush (n := 22) (v := 16) dX11_ledTo_20 b_16 rfl ?_
      refine v_iconst (n := 23) (v := 2) dX11_ledTo_22 c_2 rfl ?_
      refine v_iload_n (n := 24) dX11_ledTo_23 rfl rfl rfl ?_
      refine v_imul (n := 25) dX11_ledTo_24 rfl ?_
      refine v_iadd (n := 26) dX11_ledTo_25 rfl ?_
      refine v_iald (n := 27) (j := 16 + 2 * i) L.c0 (ix_of (i_la i) (by omega) (by decide)) dX11_ledTo_26 rfl ?_
      refine v_iload_n (n := 28) dX11_ledTo_27 rfl rfl rfl ?_
      refine v_icmp_ne (n := 31) (tgt := 47) dX11_ledTo_28 (by decide) rfl (fun hq28 => ?_) (fun hq28 => ?_)
      · refine v_iconst (n := 48) (v := 0) dX11_ledTo_47 c_0 rfl ?_
        refine v_iadd (n := 49) dX11_ledTo_48 rfl ?_
        refine v_istore_n (n := 50) (al' := [.ref m, .int y, .int ((ledS (I (m + 1)) y i) + 0), .int (nI i)]) dX11_ledTo_49 rfl rfl rfl rfl ?_
        refine v_iinc (n := 53) (v := (nI i) + 1) (al' := [.ref m, .int y, .int ((ledS (I (m + 1)) y i) + 0), .int ((nI i) + 1)]) dX11_ledTo_50 rfl (by rw [c_1]) rfl rfl rfl ?_
        refine v_goto (tgt := 4) dX11_ledTo_53 (by decide) ?_
        rw [nI_1]
        rw [show ((ledS (I (m + 1)) y i) + 0) = ledS (I (m + 1)) y (i + 1) from (by rw [ledS]; simp [hq28])]
        exact ih (i + 1) hlt (by omega)
      · refine v_aload_n (n := 32) dX11_ledTo_31 rfl rfl rfl ?_
        refine v_getR (n := 35) f_X11_9 rfl L.s L.g0 dX11_ledTo_32 rfl ?_
        refine v_bipush (n := 37) (v := 16) dX11_ledTo_35 b_16 rfl ?_
        refine v_iconst (n := 38) (v := 2) dX11_ledTo_37 c_2 rfl ?_
        refine v_iload_n (n := 39) dX11_ledTo_38 rfl rfl rfl ?_
        refine v_imul (n := 40) dX11_ledTo_39 rfl ?_
        refine v_iadd (n := 41) dX11_ledTo_40 rfl ?_
        refine v_iconst (n := 42) (v := 1) dX11_ledTo_41 c_1 rfl ?_
        refine v_iadd (n := 43) dX11_ledTo_42 rfl ?_
        refine v_iald (n := 44) (j := 17 + 2 * i) L.c0 (ix_of (i_lb i) (by omega) (by decide)) dX11_ledTo_43 rfl ?_
        refine v_goto (tgt := 48) dX11_ledTo_44 (by decide) ?_
        refine v_iadd (n := 49) dX11_ledTo_48 rfl ?_
        refine v_istore_n (n := 50) (al' := [.ref m, .int y, .int ((ledS (I (m + 1)) y i) + (I (m + 1) (17 + 2 * i))), .int (nI i)]) dX11_ledTo_49 rfl rfl rfl rfl ?_
        refine v_iinc (n := 53) (v := (nI i) + 1) (al' := [.ref m, .int y, .int ((ledS (I (m + 1)) y i) + (I (m + 1) (17 + 2 * i))), .int ((nI i) + 1)]) dX11_ledTo_50 rfl (by rw [c_1]) rfl rfl rfl ?_
        refine v_goto (tgt := 4) dX11_ledTo_53 (by decide) ?_
        rw [nI_1]
        rw [show ((ledS (I (m + 1)) y i) + (I (m + 1) (17 + 2 * i))) = ledS (I (m + 1)) y (i + 1) from (by rw [ledS]; simp [hq28])]
        exact ih (i + 1) hlt (by omega)

set_option maxRecDepth 100000 in
set_option maxHeartbeats 1000000 in
theorem k_X11_ledTo {ro : Ro} {S : St} {I : In} {m l : Nat} {y : Int32} (L : LayM S m) (hl : I (m + 1) 7 = nI l) (hl30 : l ≤ 30) : Ok mX11_ledTo ro 0 0 0 [.ref m, .int y] S I (RI (ledS (I (m + 1)) y l) S I) := by
  refine ok_of (al := [.ref m, .int y, JJ, JJ]) (by decide) (l8 rfl) rfl ?_
  refine v_iconst (n := 1) (v := 0) dX11_ledTo_0 c_0 rfl ?_
  refine v_istore_n (n := 2) (al' := [.ref m, .int y, .int 0, JJ]) dX11_ledTo_1 rfl rfl rfl rfl ?_
  refine v_iconst (n := 3) (v := 0) dX11_ledTo_2 c_0 rfl ?_
  refine v_istore_n (n := 4) (al' := [.ref m, .int y, .int 0, .int 0]) dX11_ledTo_3 rfl rfl rfl rfl ?_
  exact l_X11_ledTo L hl hl30 (l + 1) 0 (Nat.zero_le _) (by omega)

set_option maxRecDepth 100000 in
set_option maxHeartbeats 1000000 in
theorem l_X11_counts {ro : Ro} {S : St} {I : In} {m : Nat} {y : Int32} (L : LayM S m) : ∀ t, t ≤ 14 → V RX11 cX11_counts 3 (some .int) "counts" ro (rmD 0 0 0) (QM 0 0 (RI (cnt (I (m + 1)) y t) S I)) 0 0 10 [.ref m, .int y, .int (nI t - 1)] [] S I := by
  intro t
  induction t with
  | zero =>
    intro ht
    refine v_iload_n (n := 11) dX11_counts_10 rfl rfl rfl ?_
    refine v_if_lt (n := 14) (tgt := 41) dX11_counts_11 (by decide) rfl (fun hq11 => ?_) (fun hq11 => ?_)
    · refine v_iconst (n := 42) (v := (-1)) dX11_counts_41 c_m1 rfl ?_
      exact v_rI rfl rfl rfl rfl ⟨l8 rfl, l8 rfl⟩ dX11_counts_42
    · exact absurd (by decide) hq11
  | succ t ih =>
    intro ht
    rw [nI_pred]
    refine v_iload_n (n := 11) dX11_counts_10 rfl rfl rfl ?_
    refine v_if_lt (n := 14) (tgt := 41) dX11_counts_11 (by decide) rfl (fun hq11 => ?_) (fun hq11 => ?_)
    · exact absurd hq11 (nI_pos (by omega))
    · refine v_aload_n (n := 15) dX11_counts_14 rfl rfl rfl ?_
      refine v_getR (n := 18) f_X11_9 rfl L.s L.g0 dX11_counts_15 rfl ?_
      refine v_bipush (n := 20) (v := 116) dX11_counts_18 b_116 rfl ?_
      refine v_iconst (n := 21) (v := 2) dX11_counts_20 c_2 rfl ?_
      refine v_iload_n (n := 22) dX11_counts_21 rfl rfl rfl ?_
      refine v_imul (n := 23) dX11_counts_22 rfl ?_
      refine v_iadd (n := 24) dX11_counts_23 rfl ?_
      refine v_iald (n := 25) (j := 116 + 2 * t) L.c0 (ix_of (i_ta t) (by omega) (by decide)) dX11_counts_24 rfl ?_
      refine v_sipush (n := 28) (v := 1000) dX11_counts_25 s_1000 rfl ?_
      refine v_idiv (n := 29) dX11_counts_28 (by decide) rfl ?_
      refine v_iload_n (n := 30) dX11_counts_29 rfl rfl rfl ?_
      refine v_icmp_ne (n := 33) (tgt := 35) dX11_counts_30 (by decide) rfl (fun hq30 => ?_) (fun hq30 => ?_)
      · refine v_iinc (n := 38) (v := (nI t) + (-1)) (al' := [.ref m, .int y, .int ((nI t) + (-1))]) dX11_counts_35 rfl (by rw [c_m1]) rfl rfl rfl ?_
        refine v_goto (tgt := 10) dX11_counts_38 (by decide) ?_
        rw [show nI t + (-1) = nI t - 1 from (Int32.sub_eq_add_neg ..).symm]
        rw [cnt, if_neg hq30]
        exact ih (by omega)
      · refine v_iload_n (n := 34) dX11_counts_33 rfl rfl rfl ?_
        rw [cnt, if_pos hq30]
        exact v_rI rfl rfl rfl rfl ⟨l8 rfl, l8 rfl⟩ dX11_counts_34

set_option maxRecDepth 100000 in
set_option maxHeartbeats 1000000 in
theorem k_X11_counts {ro : Ro} {S : St} {I : In} {m t : Nat} {y : Int32} (L : LayM S m) (ht : I (m + 1) 9 = nI t) (ht14 : t ≤ 14) : Ok mX11_counts ro 0 0 0 [.ref m, .int y] S I (RI (cnt (I (m + 1)) y t) S I) := by
  refine ok_of (al := [.ref m, .int y, JJ]) (by decide) (l8 rfl) rfl ?_
  refine v_aload_n (n := 1) dX11_counts_0 rfl rfl rfl ?_
  refine v_getR (n := 4) f_X11_9 rfl L.s L.g0 dX11_counts_1 rfl ?_
  refine v_bipush (n := 6) (v := 9) dX11_counts_4 b_9 rfl ?_
  refine v_iald (n := 7) (j := 9) L.c0 (ix_lit rfl rfl rfl) dX11_counts_6 rfl ?_
  refine v_iconst (n := 8) (v := 1) dX11_counts_7 c_1 rfl ?_
  refine v_isub (n := 9) dX11_counts_8 rfl ?_
  refine v_istore_n (n := 10) (al' := [.ref m, .int y, .int ((I (m + 1) 9) - 1)]) dX11_counts_9 rfl rfl rfl rfl ?_
  rw [ht]
  exact l_X11_counts L t ht14

set_option maxRecDepth 100000 in
set_option maxHeartbeats 1000000 in
theorem k_X11_two {ro : Ro} {S : St} {I : In} {x y w : Int32} : Ok mX11_two ro 0 0 0 [.int x, .int y, .int w] S I (RI (twoF x y w) S I) := by
  refine ok_of (al := [.int x, .int y, .int w]) (by decide) (l8 rfl) rfl ?_
  refine v_iload_n (n := 1) dX11_two_0 rfl rfl rfl ?_
  by_cases hw1_0 : x = (-8)
  · refine v_table (tgt := 117) (off := 116) dX11_two_1 (by rw [hw1_0, t_m8]; decide) (by rw [hw1_0, t_m8]; rfl) (by decide) ?_
    refine v_iload_n (n := 118) dX11_two_117 rfl rfl rfl ?_
    refine v_iload_n (n := 119) dX11_two_118 rfl rfl rfl ?_
    refine v_imul (n := 120) dX11_two_119 rfl ?_
    exact v_rI rfl (by simp [twoF, *]) rfl rfl ⟨l8 rfl, l8 rfl⟩ dX11_two_120
  by_cases hw1_1 : x = (-7)
  · refine v_table (tgt := 113) (off := 112) dX11_two_1 (by rw [hw1_1, t_m7]; decide) (by rw [hw1_1, t_m7]; rfl) (by decide) ?_
    refine v_iload_n (n := 114) dX11_two_113 rfl rfl rfl ?_
    refine v_iload_n (n := 115) dX11_two_114 rfl rfl rfl ?_
    refine v_isub (n := 116) dX11_two_115 rfl ?_
    exact v_rI rfl (by simp [twoF, *]) rfl rfl ⟨l8 rfl, l8 rfl⟩ dX11_two_116
  by_cases hw1_2 : x = (-6)
  · refine v_table (tgt := 109) (off := 108) dX11_two_1 (by rw [hw1_2, t_m6]; decide) (by rw [hw1_2, t_m6]; rfl) (by decide) ?_
    refine v_iload_n (n := 110) dX11_two_109 rfl rfl rfl ?_
    refine v_iload_n (n := 111) dX11_two_110 rfl rfl rfl ?_
    refine v_iadd (n := 112) dX11_two_111 rfl ?_
    exact v_rI rfl (by simp [twoF, *]) rfl rfl ⟨l8 rfl, l8 rfl⟩ dX11_two_112
  by_cases hw1_3 : x = (-5)
  · refine v_table (tgt := 98) (off := 97) dX11_two_1 (by rw [hw1_3, t_m5]; decide) (by rw [hw1_3, t_m5]; rfl) (by decide) ?_
    refine v_iload_n (n := 99) dX11_two_98 rfl rfl rfl ?_
    refine v_iload_n (n := 100) dX11_two_99 rfl rfl rfl ?_
    refine v_icmp_le (n := 103) (tgt := 107) dX11_two_100 (by decide) rfl (fun hq100 => ?_) (fun hq100 => ?_)
    · refine v_iconst (n := 108) (v := 0) dX11_two_107 c_0 rfl ?_
      exact v_rI rfl (by simp [twoF, *]) rfl rfl ⟨l8 rfl, l8 rfl⟩ dX11_two_108
    · refine v_iconst (n := 104) (v := 1) dX11_two_103 c_1 rfl ?_
      refine v_goto (tgt := 108) dX11_two_104 (by decide) ?_
      exact v_rI rfl (by simp [twoF, *]) rfl rfl ⟨l8 rfl, l8 rfl⟩ dX11_two_108
  by_cases hw1_4 : x = (-4)
  · refine v_table (tgt := 87) (off := 86) dX11_two_1 (by rw [hw1_4, t_m4]; decide) (by rw [hw1_4, t_m4]; rfl) (by decide) ?_
    refine v_iload_n (n := 88) dX11_two_87 rfl rfl rfl ?_
    refine v_iload_n (n := 89) dX11_two_88 rfl rfl rfl ?_
    refine v_icmp_ne (n := 92) (tgt := 96) dX11_two_89 (by decide) rfl (fun hq89 => ?_) (fun hq89 => ?_)
    · refine v_iconst (n := 97) (v := 0) dX11_two_96 c_0 rfl ?_
      exact v_rI rfl (by simp [twoF, *]) rfl rfl ⟨l8 rfl, l8 rfl⟩ dX11_two_97
    · refine v_iconst (n := 93) (v := 1) dX11_two_92 c_1 rfl ?_
      refine v_goto (tgt := 97) dX11_two_93 (by decide) ?_
      exact v_rI rfl (by simp [twoF, *]) rfl rfl ⟨l8 rfl, l8 rfl⟩ dX11_two_97
  by_cases hw1_5 : x = (-3)
  · refine v_table (tgt := 76) (off := 75) dX11_two_1 (by rw [hw1_5, t_m3]; decide) (by rw [hw1_5, t_m3]; rfl) (by decide) ?_
    refine v_iload_n (n := 77) dX11_two_76 rfl rfl rfl ?_
    refine v_iload_n (n := 78) dX11_two_77 rfl rfl rfl ?_
    refine v_icmp_ge (n := 81) (tgt := 85) dX11_two_78 (by decide) rfl (fun hq78 => ?_) (fun hq78 => ?_)
    · refine v_iconst (n := 86) (v := 0) dX11_two_85 c_0 rfl ?_
      exact v_rI rfl (by simp [twoF, *]) rfl rfl ⟨l8 rfl, l8 rfl⟩ dX11_two_86
    · refine v_iconst (n := 82) (v := 1) dX11_two_81 c_1 rfl ?_
      refine v_goto (tgt := 86) dX11_two_82 (by decide) ?_
      exact v_rI rfl (by simp [twoF, *]) rfl rfl ⟨l8 rfl, l8 rfl⟩ dX11_two_86
  by_cases hw1_6 : x = (-2)
  · refine v_table (tgt := 62) (off := 61) dX11_two_1 (by rw [hw1_6, t_m2]; decide) (by rw [hw1_6, t_m2]; rfl) (by decide) ?_
    refine v_iload_n (n := 63) dX11_two_62 rfl rfl rfl ?_
    refine v_if_eq (n := 66) (tgt := 74) dX11_two_63 (by decide) rfl (fun hq63 => ?_) (fun hq63 => ?_)
    · refine v_iconst (n := 75) (v := 0) dX11_two_74 c_0 rfl ?_
      exact v_rI rfl (by simp [twoF, *]) rfl rfl ⟨l8 rfl, l8 rfl⟩ dX11_two_75
    · refine v_iload_n (n := 67) dX11_two_66 rfl rfl rfl ?_
      refine v_if_eq (n := 70) (tgt := 74) dX11_two_67 (by decide) rfl (fun hq67 => ?_) (fun hq67 => ?_)
      · refine v_iconst (n := 75) (v := 0) dX11_two_74 c_0 rfl ?_
        exact v_rI rfl (by simp [twoF, *]) rfl rfl ⟨l8 rfl, l8 rfl⟩ dX11_two_75
      · refine v_iconst (n := 71) (v := 1) dX11_two_70 c_1 rfl ?_
        refine v_goto (tgt := 75) dX11_two_71 (by decide) ?_
        exact v_rI rfl (by simp [twoF, *]) rfl rfl ⟨l8 rfl, l8 rfl⟩ dX11_two_75
  by_cases hw1_7 : x = (-1)
  · refine v_table (tgt := 48) (off := 47) dX11_two_1 (by rw [hw1_7, t_m1]; decide) (by rw [hw1_7, t_m1]; rfl) (by decide) ?_
    refine v_iload_n (n := 49) dX11_two_48 rfl rfl rfl ?_
    refine v_if_ne (n := 52) (tgt := 56) dX11_two_49 (by decide) rfl (fun hq49 => ?_) (fun hq49 => ?_)
    · refine v_iconst (n := 57) (v := 1) dX11_two_56 c_1 rfl ?_
      refine v_goto (tgt := 61) dX11_two_57 (by decide) ?_
      exact v_rI rfl (by simp [twoF, *]) rfl rfl ⟨l8 rfl, l8 rfl⟩ dX11_two_61
    · refine v_iload_n (n := 53) dX11_two_52 rfl rfl rfl ?_
      refine v_if_eq (n := 56) (tgt := 60) dX11_two_53 (by decide) rfl (fun hq53 => ?_) (fun hq53 => ?_)
      · refine v_iconst (n := 61) (v := 0) dX11_two_60 c_0 rfl ?_
        exact v_rI rfl (by simp [twoF, *]) rfl rfl ⟨l8 rfl, l8 rfl⟩ dX11_two_61
      · refine v_iconst (n := 57) (v := 1) dX11_two_56 c_1 rfl ?_
        refine v_goto (tgt := 61) dX11_two_57 (by decide) ?_
        exact v_rI rfl (by simp [twoF, *]) rfl rfl ⟨l8 rfl, l8 rfl⟩ dX11_two_61
  refine v_tableO (tgt := 121) dX11_two_1 (sw_out8 (lo := -8) hw1_0 hw1_1 hw1_2 hw1_3 hw1_4 hw1_5 hw1_6 hw1_7 t_m8 t_m7 t_m6 t_m5 t_m4 t_m3 t_m2 t_m1) (by decide) ?_
  refine v_iload_n (n := 122) dX11_two_121 rfl rfl rfl ?_
  refine v_if_ne (n := 125) (tgt := 129) dX11_two_122 (by decide) rfl (fun hq122 => ?_) (fun hq122 => ?_)
  · refine v_iload_n (n := 130) dX11_two_129 rfl rfl rfl ?_
    refine v_iload_n (n := 131) dX11_two_130 rfl rfl rfl ?_
    refine v_idiv (n := 132) dX11_two_131 hq122 rfl ?_
    exact v_rI rfl (by simp [twoF, *]) rfl rfl ⟨l8 rfl, l8 rfl⟩ dX11_two_132
  · refine v_iconst (n := 126) (v := 0) dX11_two_125 c_0 rfl ?_
    refine v_goto (tgt := 132) dX11_two_126 (by decide) ?_
    exact v_rI rfl (by simp [twoF, *]) rfl rfl ⟨l8 rfl, l8 rfl⟩ dX11_two_132

set_option maxRecDepth 100000 in
set_option maxHeartbeats 1000000 in
theorem k_X11_goesOnBy {ro : Ro} {S : St} {I : In} {m y : Nat} (L : LayM S m) (hy : y < 10) : Ok mX11_goesOnBy ro 1 0 0 [.ref m, .int (nI y)] S I (RI (kGoes (I (m + 1) (76 + 4 * y)) (I (m + 1) 2)) S I) := by
  refine ok_of (al := [.ref m, .int (nI y), JJ]) (by decide) (l8 rfl) rfl ?_
  refine v_aload_n (n := 1) dX11_goesOnBy_0 rfl rfl rfl ?_
  refine v_iload_n (n := 2) dX11_goesOnBy_1 rfl rfl rfl ?_
  refine v_iconst (n := 3) (v := 0) dX11_goesOnBy_2 c_0 rfl ?_
  refine v_cVi (n := 6) (x := (I (m + 1) (76 + 4 * y))) mc_X11_of l_X11_110 iv_X11_of se_X11_of (ci := 10) ⟨by decide, rfl⟩ L.s (k_X11_of (y := y) (u := 0) L hy (by decide)) ⟨rfl, rfl⟩ (l8 rfl) ⟨l8 rfl, l8 rfl⟩ rfl rfl (l8 rfl) dX11_goesOnBy_3 rfl ?_
  refine v_istore_n (n := 7) (al' := [.ref m, .int (nI y), .int (I (m + 1) (76 + 4 * y))]) dX11_goesOnBy_6 rfl rfl rfl rfl ?_
  refine v_iload_n (n := 8) dX11_goesOnBy_7 rfl rfl rfl ?_
  refine v_iconst (n := 9) (v := 3) dX11_goesOnBy_8 c_3 rfl ?_
  refine v_icmp_ne (n := 12) (tgt := 16) dX11_goesOnBy_9 (by decide) rfl (fun hq9 => ?_) (fun hq9 => ?_)
  · refine v_iload_n (n := 17) dX11_goesOnBy_16 rfl rfl rfl ?_
    refine v_iconst (n := 18) (v := 5) dX11_goesOnBy_17 c_5 rfl ?_
    refine v_icmp_ne (n := 21) (tgt := 36) dX11_goesOnBy_18 (by decide) rfl (fun hq18 => ?_) (fun hq18 => ?_)
    · refine v_iconst (n := 37) (v := 1) dX11_goesOnBy_36 c_1 rfl ?_
      exact v_rI rfl (by simp [kGoes, *]) rfl rfl ⟨l8 rfl, l8 rfl⟩ dX11_goesOnBy_37
    · refine v_aload_n (n := 22) dX11_goesOnBy_21 rfl rfl rfl ?_
      refine v_getR (n := 25) f_X11_9 rfl L.s L.g0 dX11_goesOnBy_22 rfl ?_
      refine v_iconst (n := 26) (v := 2) dX11_goesOnBy_25 c_2 rfl ?_
      refine v_iald (n := 27) (j := 2) L.c0 (ix_lit rfl rfl rfl) dX11_goesOnBy_26 rfl ?_
      refine v_iconst (n := 28) (v := 2) dX11_goesOnBy_27 c_2 rfl ?_
      refine v_irem (n := 29) dX11_goesOnBy_28 (by decide) rfl ?_
      refine v_if_ne (n := 32) (tgt := 36) dX11_goesOnBy_29 (by decide) rfl (fun hq29 => ?_) (fun hq29 => ?_)
      · refine v_iconst (n := 37) (v := 1) dX11_goesOnBy_36 c_1 rfl ?_
        exact v_rI rfl (by simp [kGoes, *]) rfl rfl ⟨l8 rfl, l8 rfl⟩ dX11_goesOnBy_37
      · refine v_iconst (n := 33) (v := 0) dX11_goesOnBy_32 c_0 rfl ?_
        refine v_goto (tgt := 37) dX11_goesOnBy_33 (by decide) ?_
        exact v_rI rfl (by simp [kGoes, *]) rfl rfl ⟨l8 rfl, l8 rfl⟩ dX11_goesOnBy_37
  · refine v_iconst (n := 13) (v := 2) dX11_goesOnBy_12 c_2 rfl ?_
    refine v_goto (tgt := 37) dX11_goesOnBy_13 (by decide) ?_
    exact v_rI rfl (by simp [kGoes, *]) rfl rfl ⟨l8 rfl, l8 rfl⟩ dX11_goesOnBy_37

set_option maxRecDepth 100000 in
set_option maxHeartbeats 1000000 in
theorem k_X11_worthOf {ro : Ro} {S : St} {I : In} {m y : Nat} (L : LayM S m) (hy : y < 10) : Ok mX11_worthOf ro 1 0 0 [.ref m, .int (nI y)] S I (RI (kWorthM (I (m + 1) (76 + 4 * y)) (I (m + 1) (76 + 4 * y + 1)) (I (m + 1) (76 + 4 * y + 2))) S I) := by
  refine ok_of (al := [.ref m, .int (nI y), JJ]) (by decide) (l8 rfl) rfl ?_
  refine v_aload_n (n := 1) dX11_worthOf_0 rfl rfl rfl ?_
  refine v_iload_n (n := 2) dX11_worthOf_1 rfl rfl rfl ?_
  refine v_iconst (n := 3) (v := 1) dX11_worthOf_2 c_1 rfl ?_
  refine v_cVi (n := 6) (x := (I (m + 1) (76 + 4 * y + 1))) mc_X11_of l_X11_110 iv_X11_of se_X11_of (ci := 10) ⟨by decide, rfl⟩ L.s (k_X11_of (y := y) (u := 1) L hy (by decide)) ⟨rfl, rfl⟩ (l8 rfl) ⟨l8 rfl, l8 rfl⟩ rfl rfl (l8 rfl) dX11_worthOf_3 rfl ?_
  refine v_istore_n (n := 7) (al' := [.ref m, .int (nI y), .int (I (m + 1) (76 + 4 * y + 1))]) dX11_worthOf_6 rfl rfl rfl rfl ?_
  refine v_aload_n (n := 8) dX11_worthOf_7 rfl rfl rfl ?_
  refine v_iload_n (n := 9) dX11_worthOf_8 rfl rfl rfl ?_
  refine v_iconst (n := 10) (v := 0) dX11_worthOf_9 c_0 rfl ?_
  refine v_cVi (n := 13) (x := (I (m + 1) (76 + 4 * y))) mc_X11_of l_X11_110 iv_X11_of se_X11_of (ci := 10) ⟨by decide, rfl⟩ L.s (k_X11_of (y := y) (u := 0) L hy (by decide)) ⟨rfl, rfl⟩ (l8 rfl) ⟨l8 rfl, l8 rfl⟩ rfl rfl (l8 rfl) dX11_worthOf_10 rfl ?_
  by_cases hw13_0 : (I (m + 1) (76 + 4 * y)) = 1
  · refine v_table (tgt := 48) (off := 35) dX11_worthOf_13 (by rw [hw13_0, t_1]; decide) (by rw [hw13_0, t_1]; rfl) (by decide) ?_
    refine v_iload_n (n := 49) dX11_worthOf_48 rfl rfl rfl ?_
    refine v_iconst (n := 50) (v := 5) dX11_worthOf_49 c_5 rfl ?_
    refine v_iadd (n := 51) dX11_worthOf_50 rfl ?_
    exact v_rI rfl (by simp [kWorthM, *]) rfl rfl ⟨l8 rfl, l8 rfl⟩ dX11_worthOf_51
  by_cases hw13_1 : (I (m + 1) (76 + 4 * y)) = 2
  · refine v_table (tgt := 52) (off := 39) dX11_worthOf_13 (by rw [hw13_1, t_2]; decide) (by rw [hw13_1, t_2]; rfl) (by decide) ?_
    refine v_sipush (n := 55) (v := 999) dX11_worthOf_52 s_999 rfl ?_
    refine v_iload_n (n := 56) dX11_worthOf_55 rfl rfl rfl ?_
    refine v_isub (n := 57) dX11_worthOf_56 rfl ?_
    exact v_rI rfl (by simp [kWorthM, *]) rfl rfl ⟨l8 rfl, l8 rfl⟩ dX11_worthOf_57
  by_cases hw13_2 : (I (m + 1) (76 + 4 * y)) = 3
  · refine v_table (tgt := 58) (off := 45) dX11_worthOf_13 (by rw [hw13_2, t_3]; decide) (by rw [hw13_2, t_3]; rfl) (by decide) ?_
    refine v_iconst (n := 59) (v := 2) dX11_worthOf_58 c_2 rfl ?_
    refine v_iload_n (n := 60) dX11_worthOf_59 rfl rfl rfl ?_
    refine v_iconst (n := 61) (v := 5) dX11_worthOf_60 c_5 rfl ?_
    refine v_iadd (n := 62) dX11_worthOf_61 rfl ?_
    refine v_imul (n := 63) dX11_worthOf_62 rfl ?_
    exact v_rI rfl (by simp [kWorthM, *]) rfl rfl ⟨l8 rfl, l8 rfl⟩ dX11_worthOf_63
  by_cases hw13_3 : (I (m + 1) (76 + 4 * y)) = 4
  · refine v_table (tgt := 64) (off := 51) dX11_worthOf_13 (by rw [hw13_3, t_4]; decide) (by rw [hw13_3, t_4]; rfl) (by decide) ?_
    refine v_sipush (n := 67) (v := 991) dX11_worthOf_64 s_991 rfl ?_
    refine v_iload_n (n := 68) dX11_worthOf_67 rfl rfl rfl ?_
    refine v_isub (n := 69) dX11_worthOf_68 rfl ?_
    exact v_rI rfl (by simp [kWorthM, *]) rfl rfl ⟨l8 rfl, l8 rfl⟩ dX11_worthOf_69
  by_cases hw13_4 : (I (m + 1) (76 + 4 * y)) = 5
  · refine v_table (tgt := 70) (off := 57) dX11_worthOf_13 (by rw [hw13_4, t_5]; decide) (by rw [hw13_4, t_5]; rfl) (by decide) ?_
    refine v_aload_n (n := 71) dX11_worthOf_70 rfl rfl rfl ?_
    refine v_iload_n (n := 72) dX11_worthOf_71 rfl rfl rfl ?_
    refine v_iconst (n := 73) (v := 2) dX11_worthOf_72 c_2 rfl ?_
    refine v_cVi (n := 76) (x := (I (m + 1) (76 + 4 * y + 2))) mc_X11_of l_X11_110 iv_X11_of se_X11_of (ci := 10) ⟨by decide, rfl⟩ L.s (k_X11_of (y := y) (u := 2) L hy (by decide)) ⟨rfl, rfl⟩ (l8 rfl) ⟨l8 rfl, l8 rfl⟩ rfl rfl (l8 rfl) dX11_worthOf_73 rfl ?_
    exact v_rI rfl (by simp [kWorthM, *]) rfl rfl ⟨l8 rfl, l8 rfl⟩ dX11_worthOf_76
  refine v_tableO (tgt := 77) dX11_worthOf_13 (sw_out5 (lo := 1) hw13_0 hw13_1 hw13_2 hw13_3 hw13_4 t_1 t_2 t_3 t_4 t_5) (by decide) ?_
  refine v_iload_n (n := 78) dX11_worthOf_77 rfl rfl rfl ?_
  exact v_rI rfl (by simp [kWorthM, *]) rfl rfl ⟨l8 rfl, l8 rfl⟩ dX11_worthOf_78

