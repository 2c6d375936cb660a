/-! ===== a DAY of the reference, on its array ===== -/
def nsum (f : Nat → Nat) : Nat → Nat
  | 0 => 0
  | n + 1 => nsum f n + f n
/-- the kilos of the layers are 1 or more each, b together at most -/
def KS (X : Ar) (l b : Nat) : Prop := ∃ kn : Nat → Nat, (∀ i, i < l → X (17 + 2 * i) = nI (kn i) ∧ 1 ≤ kn i) ∧ nsum kn l ≤ b
theorem nsum_le {f : Nat → Nat} {i : Nat} : ∀ {n : Nat}, i < n → f i ≤ nsum f n
  | n + 1, h => by
    rw [nsum]
    rcases Nat.lt_or_ge i n with q | q
    · have := nsum_le (f := f) q; omega
    · obtain rfl : i = n := by omega
      omega
theorem nsum_cong {f g : Nat → Nat} : ∀ {n : Nat}, (∀ i, i < n → f i = g i) → nsum f n = nsum g n
  | 0, _ => rfl
  | n + 1, h => by rw [nsum, nsum, nsum_cong (fun i hi => h i (by omega)), h n (by omega)]
theorem KS.ok {X : Ar} {l b : Nat} (h : KS X l b) (hb : b < 2 ^ 30) : KOk X l := by
  obtain ⟨kn, h1, h2⟩ := h
  intro i hi
  have := nsum_le (f := kn) hi
  exact ⟨kn i, (h1 i hi).2, by omega, (h1 i hi).1⟩
theorem KS.mono {X : Ar} {l b b' : Nat} (h : KS X l b) (hb : b ≤ b') : KS X l b' := by
  obtain ⟨kn, h1, h2⟩ := h
  exact ⟨kn, h1, by omega⟩
theorem KS.cong {X Y : Ar} {l b : Nat} (h : KS X l b) (he : ∀ i, i < l → Y (17 + 2 * i) = X (17 + 2 * i)) : KS Y l b := by
  obtain ⟨kn, h1, h2⟩ := h
  exact ⟨kn, fun i hi => ⟨(he i hi).trans (h1 i hi).1, (h1 i hi).2⟩, h2⟩
theorem TXW.cong {X Y : Ar} {T : Nat} (h : TXW X T) (h9 : Y 9 = X 9) (he : ∀ j, 116 ≤ j → Y j = X j) : TXW Y T := by
  obtain ⟨h1, h2, h3⟩ := h
  refine ⟨h9.trans h1, h2, fun t ht => ?_⟩
  obtain ⟨key, n, na, g1, g2, g3, g4, g5⟩ := h3 t ht
  refine ⟨key, n, na, g1, g2, (he _ (by omega)).trans g3, (he _ (by omega)).trans g4, ?_⟩
  rw [show (fun j => Y (144 + 96 * t + j)) = fun j => X (144 + 96 * t + j) from funext fun j => he _ (by omega)]
  exact g5
theorem thaw_spec : ∀ (l : Nat) (X : Ar) (a b : Nat), l ≤ 30 → a < 2 ^ 31 → b < 2 ^ 30 → X 7 = nI l → KS X l b → ∃ l', l' ≤ l ∧ thawX X (nI a) l 7 = nI l' ∧ KS (thawX X (nI a) l) l' b ∧ ∀ j, j ≠ 7 → j ≠ 8 → (j < 10 ∨ 16 ≤ j) → (j < 17 ∨ 76 ≤ j ∨ j % 2 = 0) → thawX X (nI a) l j = X j
  | 0, X, a, b, _, _, _, h7, hK => ⟨0, Nat.le_refl _, h7, hK, fun _ _ _ _ _ => rfl⟩
  | l + 1, X, a, b, hl, ha, hb, h7, hK => by
    rw [thawX]
    by_cases h0 : nI a ≤ 0
    · rw [if_pos h0]
      exact ⟨l + 1, Nat.le_refl _, h7, hK, fun _ _ _ _ _ => rfl⟩
    · rw [if_neg h0]
      obtain ⟨kn, g1, g2⟩ := hK
      obtain ⟨e1, e2⟩ := g1 l (Nat.lt_succ_self l)
      rw [nsum] at g2
      have hkl : kn l < 2 ^ 30 := by omega
      have ew : win (nI a) 0 (X (17 + 2 * l)) = nI (min a (kn l)) := by rw [e1, win_min ha (by omega)]
      have es : X (17 + 2 * l) - win (nI a) 0 (X (17 + 2 * l)) = nI (kn l - min a (kn l)) := by rw [ew, e1, pk_sub (by omega)]
      by_cases hz : X (17 + 2 * l) - win (nI a) 0 (X (17 + 2 * l)) = 0
      · rw [if_pos hz]
        have ea : nI a - win (nI a) 0 (X (17 + 2 * l)) = nI (a - min a (kn l)) := by rw [ew, pk_sub (by omega)]
        rw [ea]
        have hx : ∀ j, j ≠ 7 → j ≠ 8 → (j < 10 ∨ 16 ≤ j) → j ≠ 17 + 2 * l → thOut (upd (upd (upd X (17 + 2 * l) 0) 8 (X 8 + win (nI a) 0 (X (17 + 2 * l)))) 7 (nI l)) l 6 j = X j := by
          intro j j1 j2 j3 j4
          rw [thOut_o (by omega), pk_un j1, pk_un j2, pk_un j4]
        obtain ⟨l', q1, q2, q3, q4⟩ := thaw_spec l (thOut (upd (upd (upd X (17 + 2 * l) 0) 8 (X 8 + win (nI a) 0 (X (17 + 2 * l)))) 7 (nI l)) l 6) (a - min a (kn l)) b (by omega) (by omega) hb (by rw [thOut_o (by omega), pk_us]) ⟨kn, fun i hi => ⟨(hx _ (by omega) (by omega) (by omega) (by omega)).trans (g1 i (by omega)).1, (g1 i (by omega)).2⟩, by omega⟩
        exact ⟨l', by omega, q2, q3, fun j j1 j2 j3 j4 => (q4 j j1 j2 j3 j4).trans (hx j j1 j2 j3 (by omega))⟩
      · rw [if_neg hz]
        have hx : ∀ j, j ≠ 8 → j ≠ 17 + 2 * l → upd (upd X (17 + 2 * l) (X (17 + 2 * l) - win (nI a) 0 (X (17 + 2 * l)))) 8 (X 8 + win (nI a) 0 (X (17 + 2 * l))) j = X j := fun j j1 j2 => by rw [pk_un j1, pk_un j2]
        have hne : kn l - min a (kn l) ≠ 0 := fun q => hz (by rw [es, q]; rfl)
        refine ⟨l + 1, Nat.le_refl _, (hx 7 (by omega) (by omega)).trans h7, ⟨fun i => if i = l then kn l - min a (kn l) else kn i, fun i hi => ?_, ?_⟩, fun j j1 j2 j3 j4 => hx j j2 (by omega)⟩
        · by_cases hi2 : i = l
          · subst hi2
            simp only [if_true]
            rw [pk_un (by omega), pk_us, es]
            exact ⟨rfl, by omega⟩
          · simp only [if_neg hi2]
            exact ⟨(hx _ (by omega) (by omega)).trans (g1 i hi).1, (g1 i hi).2⟩
        · rw [nsum, nsum_cong (g := kn) (fun i hi => if_neg (by omega))]
          simp only [if_true]
          omega
theorem pack_spec {X : Ar} {l b k : Nat} {y : Int32} (hl : l ≤ 30) (h7 : X 7 = nI l) (hK : KS X l b) (hk : 1 ≤ k) : ∃ l', l' ≤ 30 ∧ packX X l y (nI k) 7 = nI l' ∧ KS (packX X l y (nI k)) l' (b + k) ∧ ∀ j, j ≠ 7 → (j < 16 ∨ 76 ≤ j) → packX X l y (nI k) j = X j := by
  obtain ⟨kn, g1, g2⟩ := hK
  unfold packX
  by_cases hc : l = 0 ∨ (l < 30 ∧ ¬ X (16 + 2 * (l - 1)) = y)
  · rw [if_pos hc]
    refine ⟨l + 1, by omega, pk_us, ⟨fun i => if i = l then k else kn i, fun i hi => ?_, ?_⟩, fun j j1 j2 => ?_⟩
    · by_cases hi2 : i = l
      · subst hi2
        simp only [if_true]
        rw [pk_un (by omega), pk_us]
        exact ⟨rfl, hk⟩
      · simp only [if_neg hi2]
        rw [pk_un (by omega), pk_un (by omega), pk_un (by omega)]
        exact g1 i (by omega)
    · rw [nsum, nsum_cong (g := kn) (fun i hi => if_neg (by omega))]
      simp only [if_true]
      omega
    · rw [pk_un j1, pk_un (by omega), pk_un (by omega)]
  · rw [if_neg hc]
    have hl1 : 1 ≤ l := by omega
    refine ⟨l, hl, (pk_un (by omega)).trans h7, ⟨fun i => if i = l - 1 then kn (l - 1) + k else kn i, fun i hi => ?_, ?_⟩, fun j j1 j2 => pk_un (by omega)⟩
    · by_cases hi2 : i = l - 1
      · subst hi2
        simp only [if_true]
        rw [pk_us, (g1 (l - 1) (by omega)).1, nI_add]
        exact ⟨rfl, by omega⟩
      · simp only [if_neg hi2]
        rw [pk_un (by omega)]
        exact g1 i hi
    · obtain ⟨l0, rfl⟩ : ∃ l0, l = l0 + 1 := ⟨l - 1, by omega⟩
      simp only [Nat.add_sub_cancel]
      rw [nsum] at g2
      rw [nsum, nsum_cong (g := kn) (fun i hi => if_neg (by omega))]
      simp only [if_true]
      omega
theorem pass_o {X : Ar} {T l y j : Nat} (h2 : j ≠ 76 + 4 * y + 2) (h3 : j ≠ 76 + 4 * y + 3) : passX X T l y j = X j := by
  unfold passX
  split
  · rw [pk_un h3, pk_un h2]
  · rfl
def ln (X : Ar) : Nat := (X 7).toNatClampNeg
def pl (X : Ar) : Nat := (X 6).toNatClampNeg
/-- steps forth, steps back: the array, the gates broken -/
def fwX (X : Ar) (T l : Nat) : Nat → Ar
  | 0 => X
  | k + 1 => upd (passX (fwX X T l k) T l (pl (fwX X T l k))) 6 ((fwX X T l k 6 + 1) % fwX X T l k 1)
def fwN (X : Ar) (T l : Nat) : Nat → Int32
  | 0 => 0
  | k + 1 => fwN X T l k + passN (fwX X T l k) T l (pl (fwX X T l k))
def bkP (X : Ar) : Ar := upd X 6 ((X 6 + X 1 - 1) % X 1)
def bwX (X : Ar) (T l : Nat) : Nat → Ar
  | 0 => X
  | k + 1 => passX (bkP (bwX X T l k)) T l (pl (bkP (bwX X T l k)))
def bwN (X : Ar) (T l : Nat) (c : Int32) : Nat → Int32
  | 0 => c
  | k + 1 => bwN X T l c k + passN (bkP (bwX X T l k)) T l (pl (bkP (bwX X T l k)))
def snX (X : Ar) : Nat → Ar
  | 0 => X
  | i + 1 => upd (snX X i) (76 + 4 * i + 1) (win (X (76 + 4 * i + 1) + X 4) 0 999)
def dyT (X : Ar) (p : Nat) : Int32 := if X (76 + 4 * p) = 5 then ushr (drawZ (X 0)) 8 % (X 3 + 1) / 2 else ushr (drawZ (X 0)) 8 % (X 3 + 1)
def dy2 (X : Ar) (l : Nat) : Ar := thawX (upd X 0 (drawZ (X 0))) (dyT X (pl X)) l
def dy3 (X : Ar) (T l : Nat) : Ar := upd (dy2 X l) (76 + 4 * pl X + 1) (dy2 X l (76 + 4 * pl X + 1) - givesX (dy2 X l) T (ln (dy2 X l)) (pl X))
def dy4 (X : Ar) (T l : Nat) : Ar := if 0 < givesX (dy2 X l) T (ln (dy2 X l)) (pl X) then packX (dy3 X T l) (ln (dy2 X l)) (X 6) (givesX (dy2 X l) T (ln (dy2 X l)) (pl X)) else dy3 X T l
def dyS (X : Ar) (m : Int32) : Int32 := kGoes (X (76 + 4 * pl X)) (X 2) + m
def dy5 (X : Ar) (T l : Nat) (m : Int32) : Ar := fwX (dy4 X T l) T (ln (dy4 X T l)) (dyS X m).toNatClampNeg
def dy6 (X : Ar) (T l : Nat) (m : Int32) : Ar := bwX (dy5 X T l m) T (ln (dy4 X T l)) (-(dyS X m)).toNatClampNeg
def dayX (X : Ar) (T n l : Nat) (m : Int32) : Ar := if n = 0 then upd X 2 (X 2 + 1) else upd (snX (dy6 X T l m) n) 2 (snX (dy6 X T l m) n 2 + 1)
def dayN (X : Ar) (T n l : Nat) (m : Int32) : Int32 := if n = 0 then 0 else bwN (dy5 X T l m) T (ln (dy4 X T l)) (fwN (dy4 X T l) T (ln (dy4 X T l)) (dyS X m).toNatClampNeg) (-(dyS X m)).toNatClampNeg
/-- what always holds of the array: n yards, l layers, T texts, at most b kilos -/
def WX (X : Ar) (T n l b : Nat) : Prop := X 1 = nI n ∧ n ≤ 10 ∧ X 7 = nI l ∧ l ≤ 30 ∧ TXW X T ∧ KS X l b ∧ (∃ p, X 6 = nI p ∧ (p < n ∨ p = 0)) ∧ (∃ w, w ≤ 99 ∧ X 3 = nI w) ∧ (∃ f, f ≤ 99 ∧ X 4 = nI f) ∧ ∀ y, y < n → (∃ k, k < 6 ∧ X (76 + 4 * y) = nI k) ∧ ∃ s, s ≤ 999 ∧ X (76 + 4 * y + 1) = nI s
theorem win_rng (v : Int32) {s : Nat} (hs : s < 2 ^ 31) : ∃ q, q ≤ s ∧ win v 0 (nI s) = nI q := by
  unfold win
  by_cases h : v < 0
  · rw [if_pos h]; exact ⟨0, Nat.zero_le _, rfl⟩
  · rw [if_neg h]
    obtain ⟨j, hj, rfl⟩ := nI_of h
    by_cases h2 : nI s < nI j
    · rw [if_pos h2]; exact ⟨s, Nat.le_refl _, rfl⟩
    · rw [if_neg h2]
      exact ⟨j, Nat.le_of_not_lt (fun q => h2 (nI_lt q hj)), rfl⟩
theorem div2 {q : Nat} (h : q < 2 ^ 31) : nI q / 2 = nI (q / 2) := by rw [lit_nI 2, pk_div h (by decide) (by decide)]
theorem gives_rng {X : Ar} {T l y s : Nat} (hs : s ≤ 999) (hX : X (76 + 4 * y + 1) = nI s) : ∃ g, g ≤ s ∧ givesX X T l y = nI g := by
  obtain ⟨q, hq, e⟩ := win_rng (txt X T 1 (fa3 (X (76 + 4 * y + 1)) (wS X l) (X 2)) (X (76 + 4 * y + 1) / 2)) (s := s) (by omega)
  have ep : plainX X T l y = nI q := by rw [plainX, hX]; rw [hX] at e; exact e
  have e2 : nI q / 2 = nI (q / 2) := div2 (by omega)
  unfold givesX
  rw [ep, hX]
  split
  · exact ⟨q / 2, by omega, e2⟩
  · split
    · exact win_rng _ (by omega)
    · split
      · exact ⟨q / 2, by omega, e2⟩
      · split
        · exact win_rng _ (by omega)
        · split
          · exact ⟨0, Nat.zero_le _, rfl⟩
          · exact ⟨q, hq, rfl⟩
theorem ushr8 (z : Int32) : ∃ q, q < 2 ^ 24 ∧ ushr z 8 = nI q := by
  refine ⟨z.toBitVec.toNat / 2 ^ 8, ?_, ?_⟩
  · have := z.toBitVec.isLt
    omega
  · have h := pk_ushr z 8 8 (by decide)
    have hz := z.toBitVec.isLt
    apply Int32.toBitVec_inj.mp
    apply BitVec.eq_of_toNat_eq
    rw [pk_tn (by omega)]
    exact h
theorem dyT_rng {X : Ar} {p w : Nat} (hw : w ≤ 99) (h3 : X 3 = nI w) : ∃ a, a ≤ 99 ∧ dyT X p = nI a := by
  obtain ⟨q, hq, e⟩ := ushr8 (drawZ (X 0))
  have hlt : q % (w + 1) < w + 1 := Nat.mod_lt _ (by omega)
  have e1 : ushr (drawZ (X 0)) 8 % (X 3 + 1) = nI (q % (w + 1)) := by rw [e, h3, nI_1, rem_nI (by omega) (by omega) (by omega)]
  unfold dyT
  rw [e1]
  split
  · exact ⟨q % (w + 1) / 2, by omega, div2 (by omega)⟩
  · exact ⟨q % (w + 1), by omega, rfl⟩

