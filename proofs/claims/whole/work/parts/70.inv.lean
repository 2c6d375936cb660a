/-! ===== what every call keeps: the village by the array ===== -/
theorem wn_of {X Y : Ar} {T b : Nat} (h : WN X T b) (h1 : Y 1 = X 1) (h7 : Y 7 = X 7) (h9 : Y 9 = X 9) (h116 : ∀ j, 116 ≤ j → Y j = X j) (hK : ∀ i, i < ln X → Y (17 + 2 * i) = X (17 + 2 * i)) (h6 : ∃ p, Y 6 = nI p ∧ (p < yn X ∨ p = 0)) (h3 : ∃ w, w ≤ 99 ∧ Y 3 = nI w) (h4 : ∃ f, f ≤ 99 ∧ Y 4 = nI f) (hy : ∀ y, y < yn X → (∃ k, k < 6 ∧ Y (76 + 4 * y) = nI k) ∧ ∃ s, s ≤ 999 ∧ Y (76 + 4 * y + 1) = nI s) : WN Y T b := by
  have e1 : yn Y = yn X := by unfold yn; rw [h1]
  have e2 : ln Y = ln X := by unfold ln; rw [h7]
  unfold WN
  rw [e1, e2]
  obtain ⟨a1, a2, a3, a4, a5, a6, -, -, -, -⟩ := h
  exact ⟨by rw [h1]; exact a1, a2, by rw [h7]; exact a3, a4, a5.cong h9 h116, a6.cong hK, h6, h3, h4, hy⟩
theorem WN.mono {X : Ar} {T b b2 : Nat} (h : WN X T b) (hb : b ≤ b2) : WN X T b2 := ⟨h.1, h.2.1, h.2.2.1, h.2.2.2.1, h.2.2.2.2.1, h.2.2.2.2.2.1.mono hb, h.2.2.2.2.2.2⟩
/-- the village is sound -/
def VK (X : Ar) (T b : Nat) : Prop := WN X T b ∧ mvOk X ∧ dayOk X ∧ ∀ j, 1488 ≤ j → X j = 0
theorem VK.mono {X : Ar} {T b b2 : Nat} (h : VK X T b) (hb : b ≤ b2) : VK X T b2 := ⟨h.1.mono hb, h.2⟩
/-- one place is written that none of the bounds sees, or within them -/
theorem vk_upd {X : Ar} {T b i : Nat} {v : Int32} (h : VK X T b) (h1 : i ≠ 1) (h7 : i ≠ 7) (h9 : i ≠ 9) (hi : i < 116) (hk : ∀ u, u < ln X → i ≠ 17 + 2 * u) (h6 : i = 6 → ∃ p, v = nI p ∧ (p < yn X ∨ p = 0)) (h3 : i = 3 → ∃ w, w ≤ 99 ∧ v = nI w) (h4 : i = 4 → ∃ w, w ≤ 99 ∧ v = nI w) (h5 : i = 5 → -9 ≤ v.toInt ∧ v.toInt ≤ 9) (h2 : i ≠ 2) (hy : ∀ y, y < yn X → (i = 76 + 4 * y → ∃ k, k < 6 ∧ v = nI k) ∧ (i = 76 + 4 * y + 1 → ∃ s, s ≤ 999 ∧ v = nI s)) : VK (upd X i v) T b := by
  obtain ⟨hW, hm, ⟨d, hd, ed⟩, hh⟩ := h
  have w := hW
  obtain ⟨a1, a2, a3, a4, a5, a6, a7, a8, a9, a10⟩ := hW
  refine ⟨wn_of w (pk_un (Ne.symm h1)) (pk_un (Ne.symm h7)) (pk_un (Ne.symm h9)) (fun j hj => pk_un (by omega)) (fun u hu => pk_un (Ne.symm (hk u hu))) ?_ ?_ ?_ (fun y hy2 => ⟨?_, ?_⟩), ?_, ⟨d, hd, by rw [pk_un (Ne.symm h2)]; exact ed⟩, fun j hj => by rw [pk_un (by omega)]; exact hh j hj⟩
  · by_cases e : i = 6
    · subst e; rw [pk_us]; exact h6 rfl
    · rw [pk_un (Ne.symm e)]; exact a7
  · by_cases e : i = 3
    · subst e; rw [pk_us]; exact h3 rfl
    · rw [pk_un (Ne.symm e)]; exact a8
  · by_cases e : i = 4
    · subst e; rw [pk_us]; exact h4 rfl
    · rw [pk_un (Ne.symm e)]; exact a9
  · by_cases e : i = 76 + 4 * y
    · rw [← e, pk_us]; exact (hy y hy2).1 e
    · rw [pk_un (Ne.symm e)]; exact (a10 y hy2).1
  · by_cases e : i = 76 + 4 * y + 1
    · rw [← e, pk_us]; exact (hy y hy2).2 e
    · rw [pk_un (Ne.symm e)]; exact (a10 y hy2).2
  · unfold mvOk
    by_cases e : i = 5
    · subst e; rw [pk_us]; exact h5 rfl
    · rw [pk_un (Ne.symm e)]; exact hm
theorem vk_seed {X : Ar} {T b : Nat} {v : Int32} (h : VK X T b) : VK (upd X 0 v) T b := vk_upd h (by decide) (by decide) (by decide) (by decide) (fun u _ => by omega) (fun z => by cases z) (fun z => by cases z) (fun z => by cases z) (fun z => by cases z) (by decide) (fun y _ => ⟨fun z => by omega, fun z => by omega⟩)
theorem ln30 {X : Ar} {T b : Nat} (h : VK X T b) : ln X ≤ 30 ∧ yn X ≤ 10 := ⟨h.1.2.2.2.1, h.1.2.1⟩
theorem vk_turns {X : Ar} {T b : Nat} {a c : Int32} (h : VK X T b) : VK (turnsS X a c).2 T b := by
  unfold turnsS
  by_cases q : (yd X a && inn c 0 5) = true
  · rw [if_pos q]
    obtain ⟨q1, q2⟩ := Bool.and_eq_true_iff.mp q
    obtain ⟨y, hy, rfl⟩ := yd_get q1 h.1.1 h.1.2.1
    obtain ⟨k, hk, rfl⟩ := inn_get (a := 5) q2 (by decide)
    have h3 := ln30 h
    rw [nI_clamp (by omega)]
    exact vk_upd h (by omega) (by omega) (by omega) (by omega) (fun u hu => by omega) (fun z => by omega) (fun z => by omega) (fun z => by omega) (fun z => by omega) (by omega) (fun y2 _ => ⟨fun _ => ⟨k, by omega, rfl⟩, fun z => by omega⟩)
  · rw [if_neg q]; exact h
theorem vk_set {X : Ar} {T b : Nat} {a c v : Int32} (h : VK X T b) : VK (setS X a c v).2 T b := by
  unfold setS
  by_cases q : (yd X a && inn c 1 2 && inn v (if c = 1 then 0 else 1) 999) = true
  · rw [if_pos q]
    obtain ⟨q3, q2⟩ := Bool.and_eq_true_iff.mp q
    obtain ⟨q1, q4⟩ := Bool.and_eq_true_iff.mp q3
    obtain ⟨y, hy, rfl⟩ := yd_get q1 h.1.1 h.1.2.1
    obtain ⟨u, hu1, hu2, rfl⟩ := inn_get1 (a := 2) (c := 1) q4 (by decide) (by decide)
    have h3 := ln30 h
    rw [nI_clamp (by omega), nI_clamp (by omega)]
    refine vk_upd h (by omega) (by omega) (by omega) (by omega) (fun u hu => by omega) (fun z => by omega) (fun z => by omega) (fun z => by omega) (fun z => by omega) (by omega) (fun y2 _ => ⟨fun z => by omega, fun z => ?_⟩)
    have : u = 1 := by omega
    subst this
    rw [if_pos (by decide)] at q2
    obtain ⟨s, hs, rfl⟩ := inn_get (a := 999) q2 (by decide)
    exact ⟨s, hs, rfl⟩
  · rw [if_neg q]; exact h
theorem vk_rule {X : Ar} {T b : Nat} {a v : Int32} (h : VK X T b) : VK (ruleS X a v).2 T b := by
  unfold ruleS
  by_cases q : (inn a 0 2 && inn v (if a = 2 then -9 else 0) (if a = 2 then 9 else 99)) = true
  · rw [if_pos q]
    obtain ⟨q1, q2⟩ := Bool.and_eq_true_iff.mp q
    obtain ⟨u, hu, rfl⟩ := inn_get (a := 2) q1 (by decide)
    have h3 := ln30 h
    rw [nI_clamp (by omega)]
    have hw : ¬ u = 2 → ∃ w, w ≤ 99 ∧ v = nI w := fun e => by
      have : ¬ nI u = 2 := fun z => e ((nI_eq (b := 2) (by omega) (by decide)).mp z)
      rw [if_neg this, if_neg this] at q2
      exact inn_get (a := 99) q2 (by decide)
    refine vk_upd h (by omega) (by omega) (by omega) (by omega) (fun u hu => by omega) (fun z => by omega) (fun z => hw (by omega)) (fun z => hw (by omega)) (fun z => ?_) (by omega) (fun y2 _ => ⟨fun z => by omega, fun z => by omega⟩)
    have : u = 2 := by omega
    subst this
    rw [if_pos (by decide), if_pos (by decide)] at q2
    unfold inn at q2
    simp only [Bool.and_eq_true, Bool.not_eq_true', decide_eq_false_iff_not] at q2
    have g1 := Int32.le_iff_toInt_le.mp (Int32.not_lt.mp q2.1)
    have g2 := Int32.le_iff_toInt_le.mp (Int32.not_lt.mp q2.2)
    have e1 : (-9 : Int32).toInt = -9 := by decide
    have e2 : (9 : Int32).toInt = 9 := by decide
    omega
  · rw [if_neg q]; exact h
theorem vk_at {X : Ar} {T b : Nat} {a : Int32} (h : VK X T b) : VK (atS X a).2 T b := by
  unfold atS
  by_cases q : yd X a = true
  · rw [if_pos q]
    obtain ⟨y, hy, rfl⟩ := yd_get q h.1.1 h.1.2.1
    exact vk_upd h (by decide) (by decide) (by decide) (by decide) (fun u hu => by omega) (fun _ => ⟨y, rfl, Or.inl hy⟩) (fun z => by cases z) (fun z => by cases z) (fun z => by cases z) (by decide) (fun y2 _ => ⟨fun z => by omega, fun z => by omega⟩)
  · rw [if_neg q]; exact h
theorem vk_lose {X : Ar} {T b : Nat} {a : Int32} (h : VK X T b) : VK (loseS X a).2 T b := by
  unfold loseS
  by_cases q : inn a 0 5 = true
  · rw [if_pos q]
    by_cases q2 : X 7 = 0
    · rw [if_pos q2]; exact h
    · rw [if_neg q2]
      obtain ⟨t, ht, rfl⟩ := inn_get (a := 5) q (by decide)
      rw [nI_clamp (by omega)]
      exact vk_upd h (by omega) (by omega) (by omega) (by omega) (fun u hu => by omega) (fun z => by omega) (fun z => by omega) (fun z => by omega) (fun z => by omega) (by omega) (fun y2 _ => ⟨fun z => by omega, fun z => by omega⟩)
  · rw [if_neg q]; exact h
theorem vk_find {X : Ar} {T b : Nat} {a : Int32} (h : VK X T b) : VK (findS X a).2 T b := by
  unfold findS
  by_cases q : inn a 0 5 = true
  · rw [if_pos q]
    obtain ⟨t, ht, rfl⟩ := inn_get (a := 5) q (by decide)
    rw [nI_clamp (by omega)]
    exact vk_upd h (by omega) (by omega) (by omega) (by omega) (fun u hu => by omega) (fun z => by omega) (fun z => by omega) (fun z => by omega) (fun z => by omega) (by omega) (fun y2 _ => ⟨fun z => by omega, fun z => by omega⟩)
  · rw [if_neg q]; exact h
theorem vk_comes {X : Ar} {T b k s : Nat} {c : Int32} (h : VK X T b) (hn : yn X < 10) (hk : k < 6) (hs : s ≤ 999) : VK (comesX X (nI k) (nI s) c) T b := by
  have q : ∀ j, j ≠ 1 → (j < 76 + 4 * yn X ∨ 76 + 4 * yn X + 4 ≤ j) → comesX X (nI k) (nI s) c j = X j := by
    intro j h1 h2
    unfold comesX
    rw [show (X 1).toNatClampNeg = yn X from rfl, pk_un h1, pk_un (by omega), pk_un (by omega), pk_un (by omega), pk_un (by omega)]
  have e1 : comesX X (nI k) (nI s) c 1 = nI (yn X + 1) := by unfold comesX; rw [show (X 1).toNatClampNeg = yn X from rfl, pk_us]
  have ek : comesX X (nI k) (nI s) c (76 + 4 * yn X) = nI k := by unfold comesX; rw [show (X 1).toNatClampNeg = yn X from rfl, pk_un (by omega), pk_un (by omega), pk_un (by omega), pk_un (by omega), pk_us]
  have es : comesX X (nI k) (nI s) c (76 + 4 * yn X + 1) = nI s := by unfold comesX; rw [show (X 1).toNatClampNeg = yn X from rfl, pk_un (by omega), pk_un (by omega), pk_un (by omega), pk_us]
  have e7 : ln (comesX X (nI k) (nI s) c) = ln X := by unfold ln; rw [q 7 (by decide) (by omega)]
  have ey : yn (comesX X (nI k) (nI s) c) = yn X + 1 := yn_eq e1 (by omega)
  obtain ⟨hW, hm, ⟨d, hd, ed⟩, hh⟩ := h
  refine ⟨?_, by unfold mvOk; rw [q 5 (by decide) (by omega)]; exact hm, ⟨d, hd, by rw [q 2 (by decide) (by omega)]; exact ed⟩, fun j hj => by rw [q j (by omega) (by omega)]; exact hh j hj⟩
  unfold WN
  rw [ey, e7]
  obtain ⟨a1, a2, a3, a4, a5, a6, ⟨p, a7, a8⟩, a9, a10, a11⟩ := hW
  refine ⟨e1, by omega, by rw [q 7 (by decide) (by omega)]; exact a3, a4, a5.cong (q 9 (by decide) (by omega)) (fun j hj => q j (by omega) (by omega)), a6.cong (fun i hi => q _ (by omega) (by omega)), ⟨p, by rw [q 6 (by decide) (by omega)]; exact a7, by omega⟩, by rw [q 3 (by decide) (by omega)]; exact a9, by rw [q 4 (by decide) (by omega)]; exact a10, fun y hy2 => ?_⟩
  by_cases c2 : y = yn X
  · subst c2
    rw [ek, es]
    exact ⟨⟨k, hk, rfl⟩, s, hs, rfl⟩
  · rw [q _ (by omega) (by omega), q _ (by omega) (by omega)]
    exact a11 y (by omega)
theorem vk_yard {X : Ar} {T b : Nat} {a c d : Int32} (h : VK X T b) : VK (yardS X a c d).2 T b := by
  unfold yardS
  by_cases q : (inn a 0 5 && inn c 0 999 && inn d 1 999) = true
  · rw [if_pos q]
    by_cases q2 : X 1 = 10
    · rw [if_pos q2]; exact h
    · rw [if_neg q2]
      obtain ⟨q3, -⟩ := Bool.and_eq_true_iff.mp q
      obtain ⟨q4, q5⟩ := Bool.and_eq_true_iff.mp q3
      obtain ⟨k, hk, rfl⟩ := inn_get (a := 5) q4 (by decide)
      obtain ⟨s, hs, rfl⟩ := inn_get (a := 999) q5 (by decide)
      refine vk_comes h ?_ (by omega) hs
      have := h.1.2.1
      have : ¬ yn X = 10 := fun z => q2 (by rw [h.1.1, z]; rfl)
      omega
  · rw [if_neg q]; exact h
theorem vk_deal {X : Ar} {T b : Nat} {a : Int32} (h : VK X T b) : VK (dealS X (yn X) a).2 T b := by
  unfold dealS
  by_cases q : inn a 1 10 = true
  · rw [if_pos q]
    have hy := h.1.2.1
    have k : ∀ i, yn X + i ≤ 10 → mvOk (dlX X i) ∧ dayOk (dlX X i) ∧ ∀ j, 1488 ≤ j → dlX X i j = 0 := by
      intro i
      induction i with
      | zero => intro _; exact h.2
      | succ i ih =>
        intro hi
        obtain ⟨h1, ⟨d, hd, ed⟩, hh⟩ := ih (by omega)
        have hy2 := (dl_wn h.1 i (by omega)).2
        have e : ∀ j, 2 ≤ j → j < 76 ∨ 1488 ≤ j → dlX X (i + 1) j = dlX X i j := by
          intro j j1 j2
          have hz : (upd (dlX X i) 0 (drawZ (drawZ (drawZ (dlX X i 0)))) 1).toNatClampNeg = yn (dlX X i) := by rw [pk_un (by decide)]; rfl
          rw [dlX]
          unfold dealOne comesX
          rw [hz, pk_un (by omega), pk_un (by omega), pk_un (by omega), pk_un (by omega), pk_un (by omega), pk_un (by omega)]
        exact ⟨by unfold mvOk; rw [e 5 (by decide) (by decide)]; exact h1, ⟨d, hd, by rw [e 2 (by decide) (by decide)]; exact ed⟩, fun j hj => by rw [e j (by omega) (by omega)]; exact hh j hj⟩
    exact ⟨(dl_wn h.1 _ (by omega)).1, k _ (by omega)⟩
  · rw [if_neg q]; exact h
theorem vk_pack {X : Ar} {T b : Nat} {a c : Int32} (h : VK X T b) : VK (packS X (ln X) a c).2 T (b + 999) := by
  unfold packS
  by_cases q : (yd X a && inn c 1 999) = true
  · rw [if_pos q]
    obtain ⟨-, q2⟩ := Bool.and_eq_true_iff.mp q
    obtain ⟨k, hk1, hk2, rfl⟩ := inn_get1 (a := 999) (c := 1) q2 (by decide) (by decide)
    show VK (packX X (ln X) a (nI k)) T (b + 999)
    obtain ⟨hW, hm, ⟨d, hd, ed⟩, hh⟩ := h
    obtain ⟨a1, a2, a3, a4, a5, a6, ⟨p, a7, a8⟩, a9, a10, a11⟩ := hW
    obtain ⟨l2, g1, g2, g3, g4⟩ := pack_spec (y := a) a4 a3 a6 hk1
    have ey : yn (packX X (ln X) a (nI k)) = yn X := by unfold yn; rw [g4 1 (by decide) (by decide)]
    have el : ln (packX X (ln X) a (nI k)) = l2 := ln_eq g2 g1
    refine ⟨?_, by unfold mvOk; rw [g4 5 (by decide) (by decide)]; exact hm, ⟨d, hd, by rw [g4 2 (by decide) (by decide)]; exact ed⟩, fun j hj => by rw [g4 j (by omega) (by omega)]; exact hh j hj⟩
    unfold WN
    rw [ey, el]
    refine ⟨by rw [g4 1 (by decide) (by decide)]; exact a1, a2, g2, g1, a5.cong (g4 9 (by decide) (by decide)) (fun j hj => g4 j (by omega) (by omega)), g3.mono (by omega), ⟨p, by rw [g4 6 (by decide) (by decide)]; exact a7, a8⟩, by rw [g4 3 (by decide) (by decide)]; exact a9, by rw [g4 4 (by decide) (by decide)]; exact a10, fun y hy => ?_⟩
    rw [g4 _ (by omega) (by omega), g4 _ (by omega) (by omega)]
    exact a11 y hy
  · rw [if_neg q]; exact h.mono (by omega)
theorem day_2 {X : Ar} {T n l b : Nat} (h : WX X T n l b) (hb : b + 999 < 2 ^ 30) (m : Int32) : dayX X T n l m 2 = X 2 + 1 := by
  have hn10 := h.2.1
  by_cases hn : n = 0
  · rw [dayX, if_pos hn, pk_us]
  · rw [dayX, if_neg hn, pk_us, sn_o n (by omega)]
    obtain ⟨p, h6, hp⟩ := h.2.2.2.2.2.2.1
    have hp : p < n := by omega
    obtain ⟨l4, q1, q2, q3, q4, q5, q6, s4, q7, q8⟩ := d4_spec h (by omega) hp h6
    have f1 : dy4 X T l 1 = nI n := (q6 1 (by decide) (by decide) (by decide) (by decide) (by omega)).trans h.1
    have f6 : dy4 X T l 6 = nI p := (q6 6 (by decide) (by decide) (by decide) (by decide) (by omega)).trans h6
    obtain ⟨⟨p5, r1, r2⟩, r3⟩ := fw_spec (T := T) (l := ln (dy4 X T l)) f1 hn10 f6 hp (dyS X m).toNatClampNeg
    obtain ⟨-, u3⟩ := bw_spec (T := T) (l := ln (dy4 X T l)) ((r3 1 (by decide) (by decide)).trans f1) hn10 r2 r1 (-(dyS X m)).toNatClampNeg
    have := ((u3 2 (by decide) (by decide)).trans (r3 2 (by decide) (by decide))).trans (q6 2 (by decide) (by decide) (by decide) (by decide) (by omega))
    exact congrArg (· + 1) this
set_option maxRecDepth 100000 in
theorem it_2 {X : Ar} {T n l b d : Nat} (h : WX X T n l b) (hd : X 2 = nI d) : ∀ k, b + 999 * k < 2 ^ 30 → itX X T n k 2 = nI (d + k)
  | 0, _ => hd
  | k + 1, hk => by
    have g := (it_WX h k (by omega)).1
    have hb9 : b + 999 * k + 999 < 2 ^ 30 := by omega
    have e9 := it_2 h hd k (by omega)
    rw [itX, day_2 g hb9, e9, nI_1]
    rfl
theorem vk_days {X : Ar} {T b : Nat} {a : Int32} (h : VK X T b) (hb : b < 900000000) : VK (daysS X T (yn X) a).2 T (b + 99900) := by
  unfold daysS
  by_cases q : inn a 1 100 = true
  · rw [if_pos q]
    obtain ⟨k, hk1, hk2, rfl⟩ := inn_get1 (a := 100) (c := 1) q (by decide) (by decide)
    obtain ⟨hW, hm, ⟨d, hd, ed⟩, hh⟩ := h
    have hw : (win (9999 - X 2) 0 (nI k)).toNatClampNeg = min k (9999 - d) := by rw [ed, day_sub hd, win_min (by omega) (by omega), nI_clamp (by omega), Nat.min_comm]
    rw [hw]
    show VK (itX X T (yn X) (min k (9999 - d))) T (b + 99900)
    obtain ⟨g1, g2⟩ := it_WX hW (min k (9999 - d)) (by omega)
    have ey : yn (itX X T (yn X) (min k (9999 - d))) = yn X := yn_eq g1.1 g1.2.1
    refine ⟨?_, by unfold mvOk; rw [it_5 hW (by omega)]; exact hm, ⟨d + min k (9999 - d), by omega, it_2 hW ed _ (by omega)⟩, fun j hj => by rw [g2 j (by omega) (by omega) (by omega) (by omega) (by omega) (by omega)]; exact hh j hj⟩
    have : WN (itX X T (yn X) (min k (9999 - d))) T (b + 999 * min k (9999 - d)) := by unfold WN; rw [ey]; exact g1
    exact this.mono (by omega)
  · rw [if_neg q]; exact h.mono (by omega)
theorem pou_in {X ce : Ar} {n : Nat} (hx : ∀ y, y < n → ∃ s, s ≤ 999 ∧ X (76 + 4 * y + 1) = nI s) : ∀ i, i ≤ n → ∀ y, y < n → ∃ s, s ≤ 999 ∧ pouX X ce i (76 + 4 * y + 1) = nI s
  | 0, _, y, hy => hx y hy
  | i + 1, hi, y, hy => by
    rw [pouX]
    by_cases e : y = i
    · subst e
      rw [pk_us, pTo]
      split
      · exact hx y hy
      · exact win_rng _ (by decide)
    · rw [pk_un (by omega)]
      exact pou_in hx i (by omega) y hy
theorem vk_pour {X ce : Ar} {T b i : Nat} (h : VK X T b) (hi : i ≤ yn X) : VK (pouX X ce i) T b := by
  obtain ⟨hW, hm, ⟨d, hd, ed⟩, hh⟩ := h
  have w := hW
  obtain ⟨a1, a2, a3, a4, a5, a6, a7, a8, a9, a10⟩ := hW
  refine ⟨wn_of w (pou_o i (by omega)) (pou_o i (by omega)) (pou_o i (by omega)) (fun j hj => pou_o i (by omega)) (fun u hu => pou_o i (by omega)) (by rw [pou_o i (by omega)]; exact a7) (by rw [pou_o i (by omega)]; exact a8) (by rw [pou_o i (by omega)]; exact a9) (fun y hy => ⟨by rw [pou_o i (by omega)]; exact (a10 y hy).1, pou_in (fun z hz => (a10 z hz).2) i hi y hy⟩), by unfold mvOk; rw [pou_o i (by omega)]; exact hm, ⟨d, hd, by rw [pou_o i (by omega)]; exact ed⟩, fun j hj => by rw [pou_o i (by have := w.2.1; omega)]; exact hh j hj⟩
