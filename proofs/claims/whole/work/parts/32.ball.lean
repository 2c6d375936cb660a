/-! ===== a village of the class, and the array of the reference ===== -/
def thg (z : Int32) : Int32 := if z < 0 then -1000000005 else z
def RgR (I : In) (r : Nat) (X : Ar) (n : Nat) : Prop := I r 4 = nI n ∧ ∀ y, y < n → I (r + 1) y = X (76 + 4 * y) ∧ I (r + 2) y = X (76 + 4 * y + 1) ∧ I (r + 3) y = X (76 + 4 * y + 2) ∧ I (r + 4) y = X (76 + 4 * y + 3)
def BlR (I : In) (b : Nat) (X : Ar) (l : Nat) : Prop := (I b 3 = nI l ∧ I b 4 = wS X l ∧ I b 5 = X 6 ∧ I b 6 = X 8) ∧ (∀ i, i < l → I (b + 1) i = X (16 + 2 * i) ∧ I (b + 2) i = X (17 + 2 * i)) ∧ ∀ t, t < 6 → I (b + 3) t = thg (X (10 + t))
def VlR (I : In) (v : Nat) (X : Ar) (mv : Int32) : Prop := I v 3 = X 9 ∧ I v 4 = X 2 ∧ I v 5 = X 3 ∧ I v 6 = X 4 ∧ I v 7 = mv ∧ I v 8 = X 0
def LawR (S : St) (I : In) (B : Nat) (X : Ar) (t c : Nat) : Prop := ∃ key n na i, key < 3 ∧ c = B + 3 * i ∧ LayL S c n na ∧ I (c + 1) 0 = nI t ∧ I (c + 1) 1 = nI key ∧ I (c + 1) 2 = nI na ∧ (∀ k, k < n → I c k = trC key (X (144 + 96 * t + k))) ∧ X (116 + 2 * t) = nI (1000 * key + n) ∧ X (117 + 2 * t) = nI na ∧ n ≤ 96 ∧ WFT (fun j => X (144 + 96 * t + j)) (nfs key) n na
def CtR (S : St) (g : Nat) (X : Ar) (T : Nat) (lw : Nat → Nat) : Prop := ∀ k, k < 3 → S.2.1 g k = if cnt X (nI k) T < 0 then .null else .ref (lw (cnt X (nI k) T).toNatClampNeg + 1)
def LwR (S : St) (I : In) (B : Nat) (X : Ar) (T : Nat) (lw : Nat → Nat) : Prop := ∀ t, t < T → LawR S I B X t (lw t)
def VR (S : St) (I : In) (v B : Nat) (X : Ar) (mv : Int32) (T n l : Nat) (lw : Nat → Nat) : Prop := RgR I (v + 1) X n ∧ BlR I (v + 6) X l ∧ VlR I v X mv ∧ CtR S (v + 10) X T lw ∧ LwR S I B X T lw
/-- the rows in which the class only works a TEXT out -/
def stk (B a : Nat) : Prop := B ≤ a ∧ (a - B) % 3 = 2
def blk (a0 k a : Nat) : Prop := a0 ≤ a ∧ a < a0 + k
theorem RgR.eqx {P : Nat → Prop} {I I' : In} {r n : Nat} {X : Ar} (h : RgR I r X n) (hE : Eqx P I I') (hP : ∀ a, P a → a < r ∨ r + 5 ≤ a) : RgR I' r X n := by
  refine ⟨by rw [hE r (fun q => by have := hP _ q; omega)]; exact h.1, fun y hy => ?_⟩
  rw [hE (r + 1) (fun q => by have := hP _ q; omega), hE (r + 2) (fun q => by have := hP _ q; omega), hE (r + 3) (fun q => by have := hP _ q; omega), hE (r + 4) (fun q => by have := hP _ q; omega)]
  exact h.2 y hy
theorem BlR.eqx {P : Nat → Prop} {I I' : In} {b l : Nat} {X : Ar} (h : BlR I b X l) (hE : Eqx P I I') (hP : ∀ a, P a → a < b ∨ b + 4 ≤ a) : BlR I' b X l := by
  obtain ⟨h1, h2, h3⟩ := h
  refine ⟨?_, fun i hi => ?_, fun t ht => ?_⟩
  · rw [hE b (fun q => by have := hP _ q; omega)]; exact h1
  · rw [hE (b + 1) (fun q => by have := hP _ q; omega), hE (b + 2) (fun q => by have := hP _ q; omega)]; exact h2 i hi
  · rw [hE (b + 3) (fun q => by have := hP _ q; omega)]; exact h3 t ht
theorem VlR.eqx {P : Nat → Prop} {I I' : In} {v : Nat} {X : Ar} {mv : Int32} (h : VlR I v X mv) (hE : Eqx P I I') (hP : ¬ P v) : VlR I' v X mv := by
  unfold VlR; rw [hE v hP]; exact h
theorem LwR.eqx {P : Nat → Prop} {S : St} {I I' : In} {B T : Nat} {X : Ar} {lw : Nat → Nat} (h : LwR S I B X T lw) (hE : Eqx P I I') (hP : ∀ a, P a → a < B ∨ stk B a) : LwR S I' B X T lw := by
  intro t ht
  obtain ⟨key, n, na, i, h1, h2, h3, h4⟩ := h t ht
  refine ⟨key, n, na, i, h1, h2, h3, ?_⟩
  rw [h2, hE (B + 3 * i) (fun q => by have := hP _ q; unfold stk at this; omega), hE (B + 3 * i + 1) (fun q => by have := hP _ q; unfold stk at this; omega)]
  rw [h2] at h4
  exact h4
theorem VR.eqx {P : Nat → Prop} {S : St} {I I' : In} {v B T n l : Nat} {X : Ar} {mv : Int32} {lw : Nat → Nat} (h : VR S I v B X mv T n l lw) (hE : Eqx P I I') (hP : ∀ a, P a → (a < v ∨ v + 11 ≤ a) ∧ (a < B ∨ stk B a)) : VR S I' v B X mv T n l lw :=
  ⟨h.1.eqx hE (fun a q => by have := hP a q; omega), h.2.1.eqx hE (fun a q => by have := hP a q; omega), h.2.2.1.eqx hE (fun q => by have := hP v q; omega), h.2.2.2.1, h.2.2.2.2.eqx hE (fun a q => (hP a q).2)⟩
theorem mn_nI {a b : Nat} (ha : a < 2 ^ 31) (hb : b < 2 ^ 31) : mn (nI a) (nI b) = nI (min a b) := by
  unfold mn
  by_cases h : b < a
  · rw [if_pos (nI_lt h ha), Nat.min_eq_right (by omega)]
  · rw [if_neg (Int32.not_lt.mpr ((nI_leI ha hb).mpr (by omega))), Nat.min_eq_left (by omega)]
theorem wS_nI {X : Ar} {kn : Nat → Nat} : ∀ l, (∀ i, i < l → X (17 + 2 * i) = nI (kn i)) → wS X l = nI (nsum kn l)
  | 0, _ => rfl
  | l + 1, h => by
    show wS X l + X (17 + 2 * l) = _
    rw [wS_nI l (fun i hi => h i (by omega)), h l (by omega), nI_add]; rfl
theorem wS_cong {X Y : Ar} : ∀ l, (∀ i, i < l → Y (17 + 2 * i) = X (17 + 2 * i)) → wS Y l = wS X l
  | 0, _ => rfl
  | l + 1, h => by
    show wS Y l + Y (17 + 2 * l) = wS X l + X (17 + 2 * l)
    rw [wS_cong l (fun i hi => h i (by omega)), h l (by omega)]
theorem cpy_0 {I : In} {a0 a n j : Nat} (h : j < n) : cpyI I a0 0 a 0 n a j = I a0 j := by
  unfold cpyI
  rw [if_pos ⟨rfl, Nat.zero_le _, by omega⟩]
  congr 1; omega
theorem uP_skip {I : In} {a n : Nat} {f : Nat → Int32} (h : f n = I a n) : uP I a f n = uP I a f (n + 1) := by
  rw [← uP_s, h]
  funext b j
  unfold setI
  by_cases q : b = a ∧ j = n
  · obtain ⟨rfl, rfl⟩ := q
    rw [if_pos ⟨rfl, rfl⟩]; exact uP_k (Nat.le_refl _)
  · rw [if_neg q]
theorem thg_eq {z : Int32} {l : Nat} (hl : l < 2 ^ 31) : thg z = nI l ↔ z = nI l := by
  unfold thg
  by_cases h : z < 0
  · rw [if_pos h]
    constructor
    · intro q
      have := congrArg Int32.toInt q
      rw [nI_toInt hl] at this
      have e : (-1000000005 : Int32).toInt = -1000000005 := by decide
      omega
    · intro q
      rw [q, Int32.lt_iff_toInt_lt, nI_toInt hl] at h
      have e : (0 : Int32).toInt = 0 := rfl
      omega
  · rw [if_neg h]

set_option maxRecDepth 100000 in
set_option maxHeartbeats 1000000 in
theorem l_X0_bareThings {ro : Ro} {S : St} {I : In} {b : Nat} {x : Int32} (L : LayB S b) : ∀ k i, i ≤ 6 → 6 < i + k → V RX0 cX0_bareThings 3 (none) "bareThings" ro (rmD 0 0 0) (QM 0 0 (RV S (uP I (b + 3) (fun j => if I (b + 3) j = x then 100 + I b 5 else I (b + 3) j) 6))) 0 0 2 [.ref b, .int x, .int (nI i)] [] S (uP I (b + 3) (fun j => if I (b + 3) j = x then 100 + I b 5 else I (b + 3) j) i) := by
  intro k
  induction k with
  | zero => intro i hi hk; exact absurd hk (by omega)
  | succ k ih =>
    intro i hi hk
    refine v_iload_n (n := 3) dX0_bareThings_2 rfl rfl rfl ?_
    refine v_bipush (n := 5) (v := 6) dX0_bareThings_3 b_6 rfl ?_
    refine v_icmp_ge (n := 8) (tgt := 37) dX0_bareThings_5 (by decide) rfl (fun hq5 => ?_) (fun hq5 => ?_)
    · rw [lit_nI 6] at hq5
      obtain rfl : i = 6 := Nat.le_antisymm hi (le_out hq5 (by decide) (by omega))
      exact v_rV rfl rfl rfl ⟨l8 rfl, l8 rfl⟩ dX0_bareThings_37
    · rw [lit_nI 6] at hq5
      have hlt := nle_in hq5 (by decide) (by omega)
      refine v_aload_n (n := 9) dX0_bareThings_8 rfl rfl rfl ?_
      refine v_getR (n := 12) f_X0_18 rfl L.s L.g2 dX0_bareThings_9 rfl ?_
      refine v_iload_n (n := 13) dX0_bareThings_12 rfl rfl rfl ?_
      refine v_iald (n := 14) (j := i) L.c2 (ix_nI (by omega) (by decide)) dX0_bareThings_13 rfl ?_
      refine v_iload_n (n := 15) dX0_bareThings_14 rfl rfl rfl ?_
      refine v_icmp_ne (n := 18) (tgt := 31) dX0_bareThings_15 (by decide) rfl (fun hq15 => ?_) (fun hq15 => ?_)
      · rw [uP_k (Nat.le_refl _)] at hq15
        refine v_iinc (n := 34) (v := (nI i) + 1) (al' := [.ref b, .int x, .int ((nI i) + 1)]) dX0_bareThings_31 rfl (by rw [c_1]) rfl rfl rfl ?_
        refine v_goto (tgt := 2) dX0_bareThings_34 (by decide) ?_
        rw [nI_1]
        refine v_I (I' := uP I (b + 3) (fun j => if I (b + 3) j = x then 100 + I b 5 else I (b + 3) j) (i + 1)) (uP_skip (if_neg hq15)) ?_
        exact ih (i + 1) hlt (by omega)
      · rw [uP_k (Nat.le_refl _)] at hq15
        refine v_aload_n (n := 19) dX0_bareThings_18 rfl rfl rfl ?_
        refine v_getR (n := 22) f_X0_18 rfl L.s L.g2 dX0_bareThings_19 rfl ?_
        refine v_iload_n (n := 23) dX0_bareThings_22 rfl rfl rfl ?_
        refine v_bipush (n := 25) (v := 100) dX0_bareThings_23 b_100 rfl ?_
        refine v_aload_n (n := 26) dX0_bareThings_25 rfl rfl rfl ?_
        refine v_getI (n := 29) f_X0_28 rfl L.s dX0_bareThings_26 rfl ?_
        refine v_iadd (n := 30) dX0_bareThings_29 rfl ?_
        refine v_iast (n := 31) (j := i) L.c2 (ix_nI (by omega) (by decide)) dX0_bareThings_30 rfl ?_
        refine v_iinc (n := 34) (v := (nI i) + 1) (al' := [.ref b, .int x, .int ((nI i) + 1)]) dX0_bareThings_31 rfl (by rw [c_1]) rfl rfl rfl ?_
        refine v_goto (tgt := 2) dX0_bareThings_34 (by decide) ?_
        rw [nI_1, uP_o (by omega)]
        refine v_I (I' := uP I (b + 3) (fun j => if I (b + 3) j = x then 100 + I b 5 else I (b + 3) j) (i + 1)) (by rw [← uP_s, if_pos hq15]) ?_
        exact ih (i + 1) hlt (by omega)

set_option maxRecDepth 100000 in
set_option maxHeartbeats 1000000 in
theorem k_X0_bareThings {ro : Ro} {S : St} {I : In} {b : Nat} {x : Int32} (L : LayB S b) : Ok mX0_bareThings ro 0 0 0 [.ref b, .int x] S I (RV S (uP I (b + 3) (fun j => if I (b + 3) j = x then 100 + I b 5 else I (b + 3) j) 6)) := by
  refine ok_of (al := [.ref b, .int x, JJ]) (by decide) (l8 rfl) rfl ?_
  refine v_iconst (n := 1) (v := 0) dX0_bareThings_0 c_0 rfl ?_
  refine v_istore_n (n := 2) (al' := [.ref b, .int x, .int 0]) dX0_bareThings_1 rfl rfl rfl rfl ?_
  refine v_I (I' := uP I (b + 3) (fun j => if I (b + 3) j = x then 100 + I b 5 else I (b + 3) j) 0) uP_0.symm ?_
  exact l_X0_bareThings L 7 0 (Nat.zero_le _) (by decide)

def rowsB (J : In) (b : Nat) (X : Ar) (l : Nat) : Prop := (∀ i, i < l → J (b + 1) i = X (16 + 2 * i) ∧ J (b + 2) i = X (17 + 2 * i)) ∧ ∀ t, t < 6 → J (b + 3) t = thg (X (10 + t))
def QB (I : In) (b : Nat) (X : Ar) : Option Value → St → In → Prop := fun _ _ I' => ∃ l', l' ≤ 30 ∧ X 7 = nI l' ∧ BlR I' b X l' ∧ Eqx (blk b 4) I I'

set_option maxRecDepth 100000 in
set_option maxHeartbeats 1000000 in
theorem x36_X0_melt {ro : Ro} {S : St} {I J : In} {b : Nat} {x : Int32} {XE : Ar} (L : LayB S b) (hE : ∃ l', l' ≤ 30 ∧ XE 7 = nI l' ∧ BlR J b XE l' ∧ Eqx (blk b 4) I J) : V RX0 cX0_melt 5 (none) "melt" ro (rmD 1 0 0) (QM 0 0 (fun r S' I' => r = none ∧ S' = S ∧ ∃ l', l' ≤ 30 ∧ XE 7 = nI l' ∧ BlR I' b XE l' ∧ Eqx (blk b 4) I I')) 0 0 36 [.ref b, JJ, .int 0, .int x, JJ] [] S J := by
  refine v_iload_n (n := 37) dX0_melt_36 rfl rfl rfl ?_
  refine v_if_lt (n := 40) (tgt := 97) dX0_melt_37 (by decide) rfl (fun hq37 => ?_) (fun hq37 => ?_)
  · exact v_vret rfl ⟨rfl, rfl, hE⟩ ⟨l8 rfl, l8 rfl⟩ dX0_melt_97
  · refine v_iload_n (n := 41) dX0_melt_40 rfl rfl rfl ?_
    refine v_if_le (n := 44) (tgt := 97) dX0_melt_41 (by decide) rfl (fun hq41 => ?_) (fun hq41 => ?_)
    · exact v_vret rfl ⟨rfl, rfl, hE⟩ ⟨l8 rfl, l8 rfl⟩ dX0_melt_97
    · exact absurd (by decide) hq41

theorem nle0 {c : Nat} (h : ¬ nI c ≤ 0) (hc : c < 2 ^ 31) : 0 < c := nle_in (b := 0) h hc (by decide)
theorem le0 {c : Nat} (h : nI c ≤ 0) (hc : c < 2 ^ 31) : c = 0 := Nat.le_zero.mp (le_out (b := 0) h hc (by decide))
theorem gt0 {c : Nat} (h : 0 < nI c) (hc : c < 2 ^ 31) : 0 < c := by
  rcases Nat.eq_zero_or_pos c with q | q
  · subst q; exact absurd h (by decide)
  · exact q
theorem ngt0 {c : Nat} (h : ¬ 0 < nI c) (hc : c < 2 ^ 31) : c = 0 := by
  rcases Nat.eq_zero_or_pos c with q | q
  · exact q
  · exact absurd (nI_lt (a := 0) q hc) h
/-- a layer that melts away -/
theorem thaw_all {X : Ar} {a l k : Nat} (h : X (17 + 2 * l) = nI k) (h1 : 0 < a) (hk : k ≤ a) (ha : a < 2 ^ 31) : thawX X (nI a) (l + 1) = thawX (thOut (upd (upd (upd X (17 + 2 * l) 0) 8 (X 8 + nI k)) 7 (nI l)) l 6) (nI (a - k)) l := by
  rw [thawX, if_neg (fun q => by have := le0 q ha; omega), h, win_min ha (by omega), Nat.min_eq_right hk, if_pos (by rw [pk_sub (Nat.le_refl _)]; simp; rfl), pk_sub hk]
theorem thaw_some {X : Ar} {a l k : Nat} (h : X (17 + 2 * l) = nI k) (h1 : 0 < a) (hk : a < k) (hk2 : k < 2 ^ 31) : thawX X (nI a) (l + 1) = upd (upd X (17 + 2 * l) (nI (k - a))) 8 (X 8 + nI a) := by
  rw [thawX, if_neg (fun q => by have := le0 q (by omega); omega), h, win_min (by omega) hk2, Nat.min_eq_left (by omega), if_neg, pk_sub (by omega)]
  rw [pk_sub (by omega)]
  exact nI_ne0 (by omega) (by omega)
theorem thaw_0 {X : Ar} : ∀ l, thawX X (nI 0) l = X
  | 0 => rfl
  | l + 1 => by rw [thawX, if_pos (by decide)]

theorem nI_nlt0 {a : Nat} (h : a < 2 ^ 31) : ¬ nI a < 0 := Int32.not_lt.mpr ((nI_leI (a := 0) (by decide) h).mpr (Nat.zero_le _))
theorem wS_some {X : Ar} {kn : Nat → Nat} {a l : Nat} {z : Int32} (h : a < kn l) (hk : ∀ i, i < l → X (17 + 2 * i) = nI (kn i)) : wS (upd (upd X (17 + 2 * l) (nI (kn l - a))) 8 z) (l + 1) = nI (nsum kn (l + 1) - a) := by
  show wS _ l + upd (upd X (17 + 2 * l) (nI (kn l - a))) 8 z (17 + 2 * l) = _
  rw [wS_nI (kn := kn) l (fun i hi => by rw [pk_un (by omega), pk_un (by omega)]; exact hk i hi), pk_un (by omega), pk_us, nI_add]
  congr 1
  show nsum kn l + (kn l - a) = nsum kn l + kn l - a
  omega
theorem thg_out {X : Ar} {t l p : Nat} {z w : Int32} (ht : t < 6) (hp : p ≤ 10) (h6 : X 6 = nI p) (hl : l ≤ 30) : (if thg (X (10 + t)) = nI l then 100 + X 6 else thg (X (10 + t))) = thg (thOut (upd (upd (upd X (17 + 2 * l) z) 8 w) 7 (nI l)) l 6 (10 + t)) := by
  have e : ∀ j, j ≠ 7 → j ≠ 8 → j < 17 → upd (upd (upd X (17 + 2 * l) z) 8 w) 7 (nI l) j = X j := fun j a b c => by rw [pk_un a, pk_un b, pk_un (by omega)]
  unfold thOut
  rw [e (10 + t) (by omega) (by omega) (by omega), e 6 (by decide) (by decide) (by decide)]
  by_cases h : X (10 + t) = nI l
  · rw [if_pos ((thg_eq (by omega)).mpr h), if_pos ⟨by omega, by omega, h⟩, h6, lit_nI 100, nI_add, thg, if_neg (nI_nlt0 (by omega))]
  · rw [if_neg (fun q => h ((thg_eq (by omega)).mp q)), if_neg (fun q => h q.2.2)]

set_option maxRecDepth 100000 in
set_option maxHeartbeats 1000000 in
theorem l_X0_melt {ro : Ro} {S : St} {I : In} {b : Nat} {XE : Ar} (L : LayB S b) : ∀ l, ∀ (X : Ar) (kn : Nat → Nat) (a c p : Nat) (J : In), l ≤ 30 → a < 2 ^ 31 → X 7 = nI l → X 6 = nI p → p ≤ 10 → (∀ i, i < l → X (17 + 2 * i) = nI (kn i) ∧ 1 ≤ kn i) → nsum kn l < 2 ^ 30 → c = min a (nsum kn l) → thawX X (nI a) l = XE → (J b 3 = nI l ∧ J b 4 = nI (nsum kn l - c) ∧ J b 5 = X 6 ∧ J b 6 = X 8 + nI c) → rowsB J b X l → Eqx (blk b 4) I J → V RX0 cX0_melt 5 (none) "melt" ro (rmD 1 0 0) (QM 0 0 (fun r S' I' => r = none ∧ S' = S ∧ ∃ l', l' ≤ 30 ∧ XE 7 = nI l' ∧ BlR I' b XE l' ∧ Eqx (blk b 4) I I')) 0 0 36 [.ref b, JJ, .int (nI c), .int (nI l - 1), JJ] [] S J := by
  intro l
  induction l with
  | zero =>
    intro X kn a c p J hl30 ha h7 h6 hp hk hN hc hX hf hr hE
    refine v_iload_n (n := 37) dX0_melt_36 rfl rfl rfl ?_
    refine v_if_lt (n := 40) (tgt := 97) dX0_melt_37 (by decide) rfl (fun hq37 => ?_) (fun hq37 => ?_)
    · have hc0 : c = 0 := by rw [hc]; exact Nat.min_zero _
      subst hc0
      have hX : X = XE := hX
      subst hX
      exact v_vret rfl ⟨rfl, rfl, 0, by omega, h7, ⟨⟨hf.1, hf.2.1, hf.2.2.1, by rw [hf.2.2.2]; exact Int32.add_zero _⟩, hr.1, hr.2⟩, hE⟩ ⟨l8 rfl, l8 rfl⟩ dX0_melt_97
    · exact absurd (by decide) hq37
  | succ l ih =>
    intro X kn a c p J hl30 ha h7 h6 hp hk hN hc hX hf hr hE
    have hkl := hk l (by omega)
    have hsum : nsum kn (l + 1) = nsum kn l + kn l := rfl
    rw [nI_p1 (show 1 ≤ l + 1 by omega), Nat.add_sub_cancel]
    refine v_iload_n (n := 37) dX0_melt_36 rfl rfl rfl ?_
    refine v_if_lt (n := 40) (tgt := 97) dX0_melt_37 (by decide) rfl (fun hq37 => ?_) (fun hq37 => ?_)
    · exact absurd hq37 (nI_nlt0 (by omega))
    · refine v_iload_n (n := 41) dX0_melt_40 rfl rfl rfl ?_
      refine v_if_le (n := 44) (tgt := 97) dX0_melt_41 (by decide) rfl (fun hq41 => ?_) (fun hq41 => ?_)
      · have hc0 := le0 hq41 (by omega)
        have ha0 : a = 0 := by omega
        subst ha0 hc0
        rw [thaw_0] at hX
        subst hX
        exact v_vret rfl ⟨rfl, rfl, l + 1, by omega, h7, ⟨⟨hf.1, by rw [hf.2.1, wS_nI (kn := kn) (l + 1) (fun i hi => (hk i hi).1)]; rfl, hf.2.2.1, by rw [hf.2.2.2]; exact Int32.add_zero _⟩, hr.1, hr.2⟩, hE⟩ ⟨l8 rfl, l8 rfl⟩ dX0_melt_97
      · have hc0 := nle0 hq41 (by omega)
        refine v_iload_n (n := 45) dX0_melt_44 rfl rfl rfl ?_
        refine v_aload_n (n := 46) dX0_melt_45 rfl rfl rfl ?_
        refine v_getR (n := 49) f_X0_15 rfl L.s L.g1 dX0_melt_46 rfl ?_
        refine v_iload_n (n := 50) dX0_melt_49 rfl rfl rfl ?_
        refine v_iald (n := 51) (j := l) L.c1 (ix_nI (by omega) (by decide)) dX0_melt_50 rfl ?_
        rw [(hr.1 l (by omega)).2, (hk l (by omega)).1]
        refine v_min (n := 54) l_X0_35 min_sta ini_J9 min_code ⟨rfl, rfl⟩ ⟨l8 rfl, l8 rfl⟩ (l8 rfl) dX0_melt_51 rfl ?_
        rw [mn_nI (by omega) (by omega)]
        refine v_istore (n := 56) (al' := [.ref b, JJ, .int (nI c), .int (nI l), .int (nI (min c (kn l)))]) dX0_melt_54 rfl rfl rfl ?_
        refine v_aload_n (n := 57) dX0_melt_56 rfl rfl rfl ?_
        refine v_getR (n := 60) f_X0_15 rfl L.s L.g1 dX0_melt_57 rfl ?_
        refine v_iload_n (n := 61) dX0_melt_60 rfl rfl rfl ?_
        refine v_dup2 (n := 62) dX0_melt_61 ⟨rfl, rfl⟩ rfl ?_
        refine v_iald (n := 63) (j := l) L.c1 (ix_nI (by omega) (by decide)) dX0_melt_62 rfl ?_
        rw [(hr.1 l (by omega)).2, (hk l (by omega)).1]
        refine v_iload (n := 65) dX0_melt_63 rfl rfl ?_
        refine v_isub (n := 66) dX0_melt_65 rfl ?_
        rw [pk_sub (show (min c (kn l)) ≤ kn l by omega)]
        refine v_iast (n := 67) (j := l) L.c1 (ix_nI (by omega) (by decide)) dX0_melt_66 rfl ?_
        refine v_iload_n (n := 68) dX0_melt_67 rfl rfl rfl ?_
        refine v_iload (n := 70) dX0_melt_68 rfl rfl ?_
        refine v_isub (n := 71) dX0_melt_70 rfl ?_
        rw [pk_sub (show (min c (kn l)) ≤ c by omega)]
        refine v_istore_n (n := 72) (al' := [.ref b, JJ, .int (nI (c - (min c (kn l)))), .int (nI l), .int (nI (min c (kn l)))]) dX0_melt_71 rfl rfl rfl rfl ?_
        refine v_aload_n (n := 73) dX0_melt_72 rfl rfl rfl ?_
        refine v_getR (n := 76) f_X0_15 rfl L.s L.g1 dX0_melt_73 rfl ?_
        refine v_iload_n (n := 77) dX0_melt_76 rfl rfl rfl ?_
        refine v_iald (n := 78) (j := l) L.c1 (ix_nI (by omega) (by decide)) dX0_melt_77 rfl ?_
        rw [sI_s]
        refine v_if_gt (n := 81) (tgt := 91) dX0_melt_78 (by decide) rfl (fun hq78 => ?_) (fun hq78 => ?_)
        · have hg := gt0 hq78 (by omega)
          refine v_iinc (n := 94) (v := (nI l) + (-1)) (al' := [.ref b, JJ, .int (nI (c - (min c (kn l)))), .int ((nI l) + (-1)), .int (nI (min c (kn l)))]) dX0_melt_91 rfl (by rw [c_m1]) rfl rfl rfl ?_
          refine v_goto (tgt := 36) dX0_melt_94 (by decide) ?_
          refine v_drop 4 (al' := [.ref b, JJ, .int (nI (c - (min c (kn l)))), .int ((nI l) + (-1)), JJ]) rfl ?_
          have hlt : a < kn l := by omega
          have em : (min c (kn l)) = a := by omega
          have ec : c = a := by omega
          rw [thaw_some (hk l (by omega)).1 (by omega) hlt (by omega)] at hX
          subst hX
          rw [show c - (min c (kn l)) = 0 by omega, show nI 0 = (0 : Int32) from rfl, em]
          refine x36_X0_melt L ⟨l + 1, by omega, ?_, ⟨⟨?_, ?_, ?_, ?_⟩, ?_, ?_⟩, ?_⟩
          · rw [pk_un (by decide), pk_un (by omega)]; exact h7
          · rw [sI_o (by omega)]; exact hf.1
          · rw [sI_o (by omega), hf.2.1, ec, wS_some (kn := kn) hlt (fun i hi => (hk i (by omega)).1)]
          · rw [sI_o (by omega), pk_un (by decide), pk_un (by omega)]; exact hf.2.2.1
          · rw [sI_o (by omega), pk_us, hf.2.2.2, ec]
          · intro i hi
            rw [sI_o (by omega), pk_un (by omega), pk_un (by omega), pk_un (by omega)]
            refine ⟨(hr.1 i hi).1, ?_⟩
            by_cases q : i = l
            · subst q; rw [sI_s, pk_us]
            · rw [sI_k q, pk_un (by omega)]; exact (hr.1 i hi).2
          · intro t ht; rw [sI_o (by omega), pk_un (by omega), pk_un (by omega)]; exact hr.2 t ht
          · exact hE.set (by unfold blk; omega)
        · have hg := ngt0 hq78 (by omega)
          refine v_aload_n (n := 82) dX0_melt_81 rfl rfl rfl ?_
          refine v_iload_n (n := 83) dX0_melt_82 rfl rfl rfl ?_
          refine v_putI (n := 86) f_X0_21 rfl (Or.inl rfl) L.s dX0_melt_83 rfl ?_
          refine v_aload_n (n := 87) dX0_melt_86 rfl rfl rfl ?_
          refine v_iload_n (n := 88) dX0_melt_87 rfl rfl rfl ?_
          refine v_cVv (n := 91) mc_X0_bareThings l_X0_41 iv_X0_bareThings se_X0_bareThings (ci := 0) ⟨by decide, rfl⟩ L.s (k_X0_bareThings L) ⟨rfl, rfl⟩ (l8 rfl) ⟨l8 rfl, l8 rfl⟩ rfl rfl (l8 rfl) dX0_melt_88 rfl ?_
          refine v_iinc (n := 94) (v := (nI l) + (-1)) (al' := [.ref b, JJ, .int (nI (c - (min c (kn l)))), .int ((nI l) + (-1)), .int (nI (min c (kn l)))]) dX0_melt_91 rfl (by rw [c_m1]) rfl rfl rfl ?_
          refine v_goto (tgt := 36) dX0_melt_94 (by decide) ?_
          refine v_drop 4 (al' := [.ref b, JJ, .int (nI (c - (min c (kn l)))), .int ((nI l) + (-1)), JJ]) rfl ?_
          have hle : kn l ≤ a := by omega
          rw [thaw_all (hk l (by omega)).1 (by omega) hle ha] at hX
          have em : (min c (kn l)) = kn l := by omega
          rw [show nI l + (-1) = nI l - 1 from (Int32.sub_eq_add_neg _ _).symm]
          refine ih (thOut (upd (upd (upd X (17 + 2 * l) 0) 8 (X 8 + nI (kn l))) 7 (nI l)) l 6) kn (a - kn l) (c - (min c (kn l))) p _ (by omega) (by omega) ?_ ?_ hp ?_ (by omega) (by omega) hX ⟨?_, ?_, ?_, ?_⟩ ⟨?_, ?_⟩ ?_
          · rw [thOut_o (by omega), pk_us]
          · rw [thOut_o (by omega), pk_un (by decide), pk_un (by decide), pk_un (by omega)]; exact h6
          · intro i hi; rw [thOut_o (by omega), pk_un (by omega), pk_un (by omega), pk_un (by omega)]; exact hk i (by omega)
          · rw [uP_o (by omega), sI_s]
          · rw [uP_o (by omega), sI_k (by decide), sI_o (by omega), hf.2.1]; congr 1; omega
          · rw [uP_o (by omega), sI_k (by decide), sI_o (by omega), hf.2.2.1, thOut_o (by omega), pk_un (by decide), pk_un (by decide), pk_un (by omega)]
          · rw [uP_o (by omega), sI_k (by decide), sI_o (by omega), hf.2.2.2, thOut_o (by omega), pk_un (by decide), pk_us, Int32.add_assoc, nI_add]; congr 2; omega
          · intro i hi
            rw [uP_o (by omega), uP_o (by omega), sI_o (by omega), sI_o (by omega), sI_o (by omega), sI_k (by omega), thOut_o (by omega), thOut_o (by omega), pk_un (by omega), pk_un (by omega), pk_un (by omega), pk_un (by omega), pk_un (by omega), pk_un (by omega)]
            exact hr.1 i (by omega)
          · intro t ht
            rw [uP_in ht]
            simp only [setI_ne (show b + 3 ≠ b by omega), setI_ne (show b + 3 ≠ b + 2 by omega)]
            rw [sI_k (by decide), sI_o (by omega), hf.2.2.1, hr.2 t ht]
            exact thg_out ht hp h6 (by omega)
          · exact fun x hx => by rw [uP_ne (by unfold blk at hx; omega), setI_ne (by unfold blk at hx; omega), setI_ne (by unfold blk at hx; omega)]; exact hE x hx

set_option maxRecDepth 100000 in
set_option maxHeartbeats 1000000 in
theorem k_X0_melt {ro : Ro} {S : St} {I : In} {b l a bb p : Nat} {X : Ar} (L : LayB S b) (h : BlR I b X l) (h7 : X 7 = nI l) (hl30 : l ≤ 30) (hK : KS X l bb) (hbb : bb < 2 ^ 30) (ha : a < 2 ^ 31) (h6 : X 6 = nI p) (hp : p ≤ 10) : Ok mX0_melt ro 1 0 0 [.ref b, .int (nI a)] S I (fun r S' I' => r = none ∧ S' = S ∧ ∃ l', l' ≤ 30 ∧ (thawX X (nI a) l) 7 = nI l' ∧ BlR I' b (thawX X (nI a) l) l' ∧ Eqx (blk b 4) I I') := by
  obtain ⟨kn, hkn, hsum⟩ := hK
  have hw : wS X l = nI (nsum kn l) := wS_nI l (fun i hi => (hkn i hi).1)
  refine ok_of (al := [.ref b, .int (nI a), JJ, JJ, JJ]) (by decide) (l8 rfl) rfl ?_
  refine v_iload_n (n := 1) dX0_melt_0 rfl rfl rfl ?_
  refine v_aload_n (n := 2) dX0_melt_1 rfl rfl rfl ?_
  refine v_getI (n := 5) f_X0_25 rfl L.s dX0_melt_2 rfl ?_
  refine v_min (n := 8) l_X0_35 min_sta ini_J9 min_code ⟨rfl, rfl⟩ ⟨l8 rfl, l8 rfl⟩ (l8 rfl) dX0_melt_5 rfl ?_
  rw [h.1.2.1, hw, mn_nI ha (by omega)]
  refine v_istore_n (n := 9) (al' := [.ref b, .int (nI a), .int (nI (min a (nsum kn l))), JJ, JJ]) dX0_melt_8 rfl rfl rfl rfl ?_
  refine v_aload_n (n := 10) dX0_melt_9 rfl rfl rfl ?_
  refine v_dup (n := 11) dX0_melt_10 rfl rfl ?_
  refine v_getI (n := 14) f_X0_25 rfl L.s dX0_melt_11 rfl ?_
  refine v_iload_n (n := 15) dX0_melt_14 rfl rfl rfl ?_
  refine v_isub (n := 16) dX0_melt_15 rfl ?_
  refine v_putI (n := 19) f_X0_25 rfl (Or.inl rfl) L.s dX0_melt_16 rfl ?_
  refine v_aload_n (n := 20) dX0_melt_19 rfl rfl rfl ?_
  refine v_dup (n := 21) dX0_melt_20 rfl rfl ?_
  refine v_getI (n := 24) f_X0_31 rfl L.s dX0_melt_21 rfl ?_
  refine v_iload_n (n := 25) dX0_melt_24 rfl rfl rfl ?_
  refine v_iadd (n := 26) dX0_melt_25 rfl ?_
  refine v_putI (n := 29) f_X0_31 rfl (Or.inl rfl) L.s dX0_melt_26 rfl ?_
  refine v_aload_n (n := 30) dX0_melt_29 rfl rfl rfl ?_
  refine v_getI (n := 33) f_X0_21 rfl L.s dX0_melt_30 rfl ?_
  rw [sI_k (by decide), sI_k (by decide), h.1.1]
  refine v_iconst (n := 34) (v := 1) dX0_melt_33 c_1 rfl ?_
  refine v_isub (n := 35) dX0_melt_34 rfl ?_
  refine v_istore_n (n := 36) (al' := [.ref b, .int (nI a), .int (nI (min a (nsum kn l))), .int ((nI l) - 1), JJ]) dX0_melt_35 rfl rfl rfl rfl ?_
  refine v_drop 1 (al' := [.ref b, JJ, .int (nI (min a (nsum kn l))), .int ((nI l) - 1), JJ]) rfl ?_
  exact l_X0_melt L l X kn a (min a (nsum kn l)) p _ hl30 ha h7 h6 hp hkn (by omega) rfl rfl ⟨by rw [sI_k (by decide), sI_k (by decide)]; exact h.1.1, by rw [sI_k (by decide), sI_s, h.1.2.1, hw, pk_sub (by omega)], by rw [sI_k (by decide), sI_k (by decide)]; exact h.1.2.2.1, by rw [sI_s, sI_k (by decide), h.1.2.2.2]⟩ ⟨fun i hi => by rw [sI_o (by omega), sI_o (by omega), sI_o (by omega), sI_o (by omega)]; exact h.2.1 i hi, fun t ht => by rw [sI_o (by omega), sI_o (by omega)]; exact h.2.2 t ht⟩ ((Eqx.rf.set (by unfold blk; omega)).set (by unfold blk; omega))

