/-! ===== the object of the class; its village and the array ===== -/
def LayRd (S : St) (a : Nat) : Prop := S.1 a = some (3, 0) ∧ S.2.1 a 0 = .ref (a + 1) ∧ S.1 (a + 1) = some (20, 96)
theorem LayRd.s {S : St} {a : Nat} (h : LayRd S a) : S.1 a = some (3, 0) := h.1
theorem LayRd.g0 {S : St} {a : Nat} (h : LayRd S a) : S.2.1 a 0 = .ref (a + 1) := h.2.1
theorem LayRd.c0 {S : St} {a : Nat} (h : LayRd S a) : S.1 (a + 1) = some (20, 96) := h.2.2
def LayX (S : St) (x : Nat) : Prop := S.1 x = some (9, 0) ∧ (S.2.1 x 0 = .ref (x + 1) ∧ S.2.1 x 1 = .ref (x + 12) ∧ S.2.1 x 3 = .ref (x + 23) ∧ S.2.1 x 4 = .ref (x + 80) ∧ S.2.1 x 5 = .ref (x + 82) ∧ S.2.1 x 6 = .ref (x + 84) ∧ S.2.1 x 7 = .ref (x + 85) ∧ S.2.1 x 8 = .ref (x + 86) ∧ S.2.1 x 9 = .ref (x + 87)) ∧
  (LayV S (x + 1) ∧ LayV S (x + 12) ∧ LayP S (x + 23) ∧ LayT S (x + 80) ∧ LayRd S (x + 82)) ∧ (S.1 (x + 84) = some (24, 14) ∧ S.1 (x + 85) = some (25, 4) ∧ S.1 (x + 86) = some (26, 5) ∧ S.1 (x + 87) = some (20, 60)) ∧
  (∀ i, i < 4 → S.2.1 (x + 85) i = .ref (x + 88 + 2 * i) ∧ LaySh S (x + 88 + 2 * i)) ∧ ∀ i, i < 5 → S.2.1 (x + 86) i = .ref (x + 96 + 3 * i) ∧ LaySl S (x + 96 + 3 * i)
theorem LayX.s {S : St} {x : Nat} (h : LayX S x) : S.1 x = some (9, 0) := h.1
theorem LayX.g0 {S : St} {x : Nat} (h : LayX S x) : S.2.1 x 0 = .ref (x + 1) := h.2.1.1
theorem LayX.g1 {S : St} {x : Nat} (h : LayX S x) : S.2.1 x 1 = .ref (x + 12) := h.2.1.2.1
theorem LayX.g3 {S : St} {x : Nat} (h : LayX S x) : S.2.1 x 3 = .ref (x + 23) := h.2.1.2.2.1
theorem LayX.g4 {S : St} {x : Nat} (h : LayX S x) : S.2.1 x 4 = .ref (x + 80) := h.2.1.2.2.2.1
theorem LayX.g5 {S : St} {x : Nat} (h : LayX S x) : S.2.1 x 5 = .ref (x + 82) := h.2.1.2.2.2.2.1
theorem LayX.g6 {S : St} {x : Nat} (h : LayX S x) : S.2.1 x 6 = .ref (x + 84) := h.2.1.2.2.2.2.2.1
theorem LayX.g7 {S : St} {x : Nat} (h : LayX S x) : S.2.1 x 7 = .ref (x + 85) := h.2.1.2.2.2.2.2.2.1
theorem LayX.g8 {S : St} {x : Nat} (h : LayX S x) : S.2.1 x 8 = .ref (x + 86) := h.2.1.2.2.2.2.2.2.2.1
theorem LayX.g9 {S : St} {x : Nat} (h : LayX S x) : S.2.1 x 9 = .ref (x + 87) := h.2.1.2.2.2.2.2.2.2.2
theorem LayX.c0 {S : St} {x : Nat} (h : LayX S x) : LayV S (x + 1) := h.2.2.1.1
theorem LayX.c1 {S : St} {x : Nat} (h : LayX S x) : LayV S (x + 12) := h.2.2.1.2.1
theorem LayX.c3 {S : St} {x : Nat} (h : LayX S x) : LayP S (x + 23) := h.2.2.1.2.2.1
theorem LayX.c4 {S : St} {x : Nat} (h : LayX S x) : LayT S (x + 80) := h.2.2.1.2.2.2.1
theorem LayX.c5 {S : St} {x : Nat} (h : LayX S x) : LayRd S (x + 82) := h.2.2.1.2.2.2.2
theorem LayX.c6 {S : St} {x : Nat} (h : LayX S x) : S.1 (x + 84) = some (24, 14) := h.2.2.2.1.1
theorem LayX.c7 {S : St} {x : Nat} (h : LayX S x) : S.1 (x + 85) = some (25, 4) := h.2.2.2.1.2.1
theorem LayX.c8 {S : St} {x : Nat} (h : LayX S x) : S.1 (x + 86) = some (26, 5) := h.2.2.2.1.2.2.1
theorem LayX.c9 {S : St} {x : Nat} (h : LayX S x) : S.1 (x + 87) = some (20, 60) := h.2.2.2.1.2.2.2
theorem LayX.sh {S : St} {x i : Nat} (h : LayX S x) (hi : i < 4) : S.2.1 (x + 85) i = .ref (x + 88 + 2 * i) ∧ LaySh S (x + 88 + 2 * i) := h.2.2.2.2.1 i hi
theorem LayX.sl {S : St} {x i : Nat} (h : LayX S x) (hi : i < 5) : S.2.1 (x + 86) i = .ref (x + 96 + 3 * i) ∧ LaySl S (x + 96 + 3 * i) := h.2.2.2.2.2 i hi
/-- the rows of references that a call (but text) may set otherwise -/
def chP (x a : Nat) : Prop := a = x + 1 + 10 ∨ a = x + 12 + 10 ∨ thP (x + 23) 0 a
theorem chP.ok {x a : Nat} (h : chP x a) : a = x + 11 ∨ a = x + 22 ∨ (x + 35 ≤ a ∧ a < x + 80 ∧ (a - (x + 23)) % 11 = 1) := by
  rcases h with h | h | h
  · omega
  · omega
  · have := h.lt; omega
theorem LaySh.sp {P : Nat → Prop} {S S' : St} {a : Nat} (h : LaySh S a) (e : SGp P S S') (hg : ¬ P a) : LaySh S' a := by
  unfold LaySh; rw [e.1, e.2.1 a hg]; exact h
theorem LaySl.sp {P : Nat → Prop} {S S' : St} {a : Nat} (h : LaySl S a) (e : SGp P S S') (hg : ¬ P a) (hg2 : ¬ P (a + 1)) : LaySl S' a :=
  ⟨by rw [e.1]; exact h.1, by rw [e.2.1 a hg]; exact h.2.1, h.2.2.sp e hg2⟩
theorem LayT.sp {P : Nat → Prop} {S S' : St} {a : Nat} (h : LayT S a) (e : SGp P S S') (hg : ¬ P a) : LayT S' a := by
  unfold LayT; rw [e.1, e.2.1 a hg]; exact h
theorem LayRd.sp {P : Nat → Prop} {S S' : St} {a : Nat} (h : LayRd S a) (e : SGp P S S') (hg : ¬ P a) : LayRd S' a := by
  unfold LayRd; rw [e.1, e.2.1 a hg]; exact h
theorem LayM.sp {P : Nat → Prop} {S S' : St} {m : Nat} (h : LayM S m) (e : SGp P S S') (hg : ¬ P m) : LayM S' m := by
  unfold LayM; rw [e.1, e.2.1 m hg]; exact h
theorem LayP.sp2 {P : Nat → Prop} {S S' : St} {q : Nat} (h : LayP S q) (e : SGp P S S') (hP : ∀ a, P a → a < q ∨ q + 57 ≤ a ∨ (q + 2 ≤ a ∧ (a - q) % 11 = 1)) : LayP S' q := by
  obtain ⟨h1, h2, h3, h4⟩ := h
  refine ⟨by rw [e.1]; exact h1, by rw [e.2.1 q (fun z => by have := hP _ z; omega)]; exact h2, by rw [e.1]; exact h3, fun i hi => ?_⟩
  rw [e.2.1 (q + 1) (fun z => by have := hP _ z; omega)]
  exact ⟨(h4 i hi).1, (h4 i hi).2.sp e (fun z => by have := hP _ z; omega) (fun z => by have := hP _ z; omega) (fun z => by have := hP _ z; omega)⟩
theorem LayX.sp {S S' : St} {x : Nat} (h : LayX S x) (e : SGp (chP x) S S') : LayX S' x := by
  obtain ⟨h1, h2, ⟨a1, a2, a3, a4, a5⟩, h4, h5, h6⟩ := h
  have N : ∀ a, ¬ (a = x + 11 ∨ a = x + 22 ∨ (x + 35 ≤ a ∧ a < x + 80 ∧ (a - (x + 23)) % 11 = 1)) → ¬ chP x a := fun a q z => q z.ok
  refine ⟨by rw [e.1]; exact h1, by rw [e.2.1 x (N _ (by omega))]; exact h2, ⟨a1.sp e (N _ (by omega)) (N _ (by omega)) (N _ (by omega)), a2.sp e (N _ (by omega)) (N _ (by omega)) (N _ (by omega)), a3.sp2 e (fun a z => by have := z.ok; omega), a4.sp e (N _ (by omega)), a5.sp e (N _ (by omega))⟩, by rw [e.1]; exact h4, fun i hi => ?_, fun i hi => ?_⟩
  · rw [e.2.1 (x + 85) (N _ (by omega))]
    exact ⟨(h5 i hi).1, (h5 i hi).2.sp e (N _ (by omega))⟩
  · rw [e.2.1 (x + 86) (N _ (by omega))]
    exact ⟨(h6 i hi).1, (h6 i hi).2.sp e (N _ (by omega)) (N _ (by omega))⟩
/-! the village, by the array alone -/
def yn (X : Ar) : Nat := (X 1).toNatClampNeg
abbrev VN (S : St) (I : In) (v B : Nat) (X : Ar) (T : Nat) (lw : Nat → Nat) : Prop := VR S I v B X (X 5) T (yn X) (ln X) lw
abbrev WN (X : Ar) (T b : Nat) : Prop := WX X T (yn X) (ln X) b
theorem yn_eq {X : Ar} {n : Nat} (h : X 1 = nI n) (hn : n ≤ 10) : yn X = n := by rw [yn, h, nI_clamp (by omega)]
theorem ln_eq {X : Ar} {l : Nat} (h : X 7 = nI l) (hl : l ≤ 30) : ln X = l := by rw [ln, h, nI_clamp (by omega)]
theorem WX.wn {X : Ar} {T n l b : Nat} (h : WX X T n l b) : WN X T b := by
  unfold WN; rw [yn_eq h.1 h.2.1, ln_eq h.2.2.1 h.2.2.2.1]; exact h
theorem BlR.cg {J : In} {b l : Nat} {X Y : Ar} (h : BlR J b X l) (hl : l ≤ 30) (he : ∀ j, 6 ≤ j → j < 76 → j ≠ 7 → Y j = X j) : BlR J b Y l := by
  obtain ⟨⟨a1, a2, a3, a4⟩, r, t⟩ := h
  refine ⟨⟨a1, ?_, ?_, ?_⟩, fun i hi => ?_, fun i hi => ?_⟩
  · rw [wS_cong (X := X) (Y := Y) l (fun i hi => he _ (by omega) (by omega) (by omega))]; exact a2
  · rw [he 6 (by decide) (by decide) (by decide)]; exact a3
  · rw [he 8 (by decide) (by decide) (by decide)]; exact a4
  · rw [he _ (by omega) (by omega) (by omega), he _ (by omega) (by omega) (by omega)]; exact r i hi
  · rw [he _ (by omega) (by omega) (by omega)]; exact t i hi
theorem VlR.cg {J : In} {v : Nat} {X Y : Ar} {mv : Int32} (h : VlR J v X mv) (e0 : Y 0 = X 0) (e2 : Y 2 = X 2) (e3 : Y 3 = X 3) (e4 : Y 4 = X 4) (e9 : Y 9 = X 9) : VlR J v Y mv := by
  unfold VlR; rw [e0, e2, e3, e4, e9]; exact h
theorem VR.mk2 {S : St} {I J : In} {v B T n l n0 l0 : Nat} {X Y : Ar} {mv mv0 : Int32} {lw : Nat → Nat} (h : VR S I v B X mv0 T n0 l0 lw) (hE : Eqx (vfr v B) I J) (hvB : v + 11 ≤ B) (hT : T ≤ 14) (he : ∀ j, 116 ≤ j → j < 1488 → Y j = X j) (hr : RgR J (v + 1) Y n) (hb : BlR J (v + 6) Y l) (hv : VlR J v Y mv) : VR S J v B Y mv T n l lw :=
  ⟨hr, hb, hv, h.2.2.2.1.cong (fun k _ => cnt_cong2 T (fun t ht => he _ (by omega) (by omega))), (h.2.2.2.2.cong he hT).eqx hE (fun a q => q.elim (fun z => Or.inl (by unfold blk at z; omega)) Or.inr)⟩
theorem eq_v {I : In} {v B a k : Nat} {z : Int32} (h : v ≤ a ∧ a < v + 11) : Eqx (vfr v B) I (setI I a k z) := Eqx.rf.set (Or.inl h)
/-- a yard's number is written -/
theorem vn_ring {S : St} {I : In} {v B T y u : Nat} {X : Ar} {lw : Nat → Nat} {z : Int32} (h : VN S I v B X T lw) (hvB : v + 11 ≤ B) (hT : T ≤ 14) (hn : yn X ≤ 10) (hl : ln X ≤ 30) (hy : y < 10) (hu : u < 4) : VN S (setI I (v + 1 + (u + 1)) y z) v B (upd X (76 + 4 * y + u) z) T lw := by
  have e1 : yn (upd X (76 + 4 * y + u) z) = yn X := by unfold yn; rw [pk_un (by omega)]
  have e2 : ln (upd X (76 + 4 * y + u) z) = ln X := by unfold ln; rw [pk_un (by omega)]
  unfold VN
  rw [e1, e2, pk_un (by omega)]
  have hE : Eqx (fun a => a = v + 1 + (u + 1)) I (setI I (v + 1 + (u + 1)) y z) := Eqx.rf.set rfl
  refine VR.mk2 h (eq_v (by omega)) hvB hT (fun j h1 h2 => pk_un (by omega)) ⟨by rw [sI_o (by omega)]; exact h.1.1, fun q hq => ?_⟩ ((h.2.1.eqx hE (fun a q => by omega)).cg hl (fun j _ _ _ => pk_un (by omega))) ((h.2.2.1.eqx hE (by omega)).cg (pk_un (by omega)) (pk_un (by omega)) (pk_un (by omega)) (pk_un (by omega)) (pk_un (by omega)))
  obtain ⟨b0, b1, b2, b3⟩ := h.1.2 q hq
  have one : ∀ w, w < 4 → I (v + 1 + (w + 1)) q = X (76 + 4 * q + w) → setI I (v + 1 + (u + 1)) y z (v + 1 + (w + 1)) q = upd X (76 + 4 * y + u) z (76 + 4 * q + w) := by
    intro w hw hh
    by_cases c : w = u ∧ q = y
    · obtain ⟨rfl, rfl⟩ := c
      rw [sI_s, pk_us]
    · rw [pk_un (by omega), ← hh]
      unfold setI
      rw [if_neg (by omega)]
  exact ⟨one 0 (by decide) b0, one 1 (by decide) b1, one 2 (by decide) b2, one 3 (by decide) b3⟩
/-- a field of the village, one of the ball -/
theorem vn_fld {S : St} {I : In} {v B T k u : Nat} {X : Ar} {lw : Nat → Nat} {z : Int32} (h : VN S I v B X T lw) (hvB : v + 11 ≤ B) (hT : T ≤ 14) (hn : yn X ≤ 10) (hl : ln X ≤ 30) (hk : (k = 8 ∧ u = 0) ∨ (k = 5 ∧ u = 3) ∨ (k = 6 ∧ u = 4) ∨ (k = 7 ∧ u = 5)) : VN S (setI I v k z) v B (upd X u z) T lw := by
  have e1 : yn (upd X u z) = yn X := by unfold yn; rw [pk_un (by omega)]
  have e2 : ln (upd X u z) = ln X := by unfold ln; rw [pk_un (by omega)]
  unfold VN
  rw [e1, e2]
  have hE : Eqx (fun a => a = v) I (setI I v k z) := Eqx.rf.set rfl
  obtain ⟨a3, a4, a5, a6, a7, a8⟩ := h.2.2.1
  refine VR.mk2 h (eq_v (by omega)) hvB hT (fun j h1 h2 => pk_un (by omega)) ((h.1.eqx hE (fun a q => by omega)).cong (fun j _ _ => pk_un (by omega))) ((h.2.1.eqx hE (fun a q => by omega)).cg hl (fun j _ _ _ => pk_un (by omega))) ?_
  rcases hk with ⟨rfl, rfl⟩ | ⟨rfl, rfl⟩ | ⟨rfl, rfl⟩ | ⟨rfl, rfl⟩
  · exact ⟨by rw [sI_k (by decide), pk_un (by decide)]; exact a3, by rw [sI_k (by decide), pk_un (by decide)]; exact a4, by rw [sI_k (by decide), pk_un (by decide)]; exact a5, by rw [sI_k (by decide), pk_un (by decide)]; exact a6, by rw [sI_k (by decide), pk_un (by decide)]; exact a7, by rw [sI_s, pk_us]⟩
  · exact ⟨by rw [sI_k (by decide), pk_un (by decide)]; exact a3, by rw [sI_k (by decide), pk_un (by decide)]; exact a4, by rw [sI_s, pk_us], by rw [sI_k (by decide), pk_un (by decide)]; exact a6, by rw [sI_k (by decide), pk_un (by decide)]; exact a7, by rw [sI_k (by decide), pk_un (by decide)]; exact a8⟩
  · exact ⟨by rw [sI_k (by decide), pk_un (by decide)]; exact a3, by rw [sI_k (by decide), pk_un (by decide)]; exact a4, by rw [sI_k (by decide), pk_un (by decide)]; exact a5, by rw [sI_s, pk_us], by rw [sI_k (by decide), pk_un (by decide)]; exact a7, by rw [sI_k (by decide), pk_un (by decide)]; exact a8⟩
  · exact ⟨by rw [sI_k (by decide), pk_un (by decide)]; exact a3, by rw [sI_k (by decide), pk_un (by decide)]; exact a4, by rw [sI_k (by decide), pk_un (by decide)]; exact a5, by rw [sI_k (by decide), pk_un (by decide)]; exact a6, by rw [sI_s, pk_us], by rw [sI_k (by decide), pk_un (by decide)]; exact a8⟩
theorem vn_place {S : St} {I : In} {v B T : Nat} {X : Ar} {lw : Nat → Nat} {z : Int32} (h : VN S I v B X T lw) (hvB : v + 11 ≤ B) (hT : T ≤ 14) (hn : yn X ≤ 10) (hl : ln X ≤ 30) : VN S (setI I (v + 6) 5 z) v B (upd X 6 z) T lw := by
  have e1 : yn (upd X 6 z) = yn X := by unfold yn; rw [pk_un (by omega)]
  have e2 : ln (upd X 6 z) = ln X := by unfold ln; rw [pk_un (by omega)]
  unfold VN
  rw [e1, e2, pk_un (by omega)]
  have hE : Eqx (fun a => a = v + 6) I (setI I (v + 6) 5 z) := Eqx.rf.set rfl
  obtain ⟨⟨a1, a2, a3, a4⟩, r, t⟩ := h.2.1
  refine VR.mk2 h (eq_v (by omega)) hvB hT (fun j h1 h2 => pk_un (by omega)) ((h.1.eqx hE (fun a q => by omega)).cong (fun j _ _ => pk_un (by omega))) ?_ ((h.2.2.1.eqx hE (by omega)).cg (pk_un (by omega)) (pk_un (by omega)) (pk_un (by omega)) (pk_un (by omega)) (pk_un (by omega)))
  refine ⟨⟨by rw [sI_k (by decide)]; exact a1, ?_, by rw [sI_s, pk_us], by rw [sI_k (by decide), pk_un (by omega)]; exact a4⟩, fun i hi => ?_, fun i hi => ?_⟩
  · rw [sI_k (by decide), wS_cong (X := X) (Y := upd X 6 z) (ln X) (fun i hi => pk_un (by omega))]; exact a2
  · rw [sI_o (by omega), sI_o (by omega), pk_un (by omega), pk_un (by omega)]; exact r i hi
  · rw [sI_o (by omega), pk_un (by omega)]; exact t i hi
theorem vn_thing {S : St} {I : In} {v B T t : Nat} {X : Ar} {lw : Nat → Nat} {z w : Int32} (h : VN S I v B X T lw) (hvB : v + 11 ≤ B) (hT : T ≤ 14) (hn : yn X ≤ 10) (hl : ln X ≤ 30) (ht : t < 6) (hw : w = thg z) : VN S (setI I (v + 6 + 3) t w) v B (upd X (10 + t) z) T lw := by
  have e1 : yn (upd X (10 + t) z) = yn X := by unfold yn; rw [pk_un (by omega)]
  have e2 : ln (upd X (10 + t) z) = ln X := by unfold ln; rw [pk_un (by omega)]
  unfold VN
  rw [e1, e2, pk_un (by omega)]
  have hE : Eqx (fun a => a = v + 6 + 3) I (setI I (v + 6 + 3) t w) := Eqx.rf.set rfl
  obtain ⟨⟨a1, a2, a3, a4⟩, r, t9⟩ := h.2.1
  refine VR.mk2 h (eq_v (by omega)) hvB hT (fun j h1 h2 => pk_un (by omega)) ((h.1.eqx hE (fun a q => by omega)).cong (fun j _ _ => pk_un (by omega))) ?_ ((h.2.2.1.eqx hE (by omega)).cg (pk_un (by omega)) (pk_un (by omega)) (pk_un (by omega)) (pk_un (by omega)) (pk_un (by omega)))
  refine ⟨⟨by rw [sI_o (by omega)]; exact a1, ?_, by rw [sI_o (by omega), pk_un (by omega)]; exact a3, by rw [sI_o (by omega), pk_un (by omega)]; exact a4⟩, fun i hi => ?_, fun i hi => ?_⟩
  · rw [sI_o (by omega), wS_cong (X := X) (Y := upd X (10 + t) z) (ln X) (fun i hi => pk_un (by omega))]; exact a2
  · rw [sI_o (by omega), sI_o (by omega), pk_un (by omega), pk_un (by omega)]; exact r i hi
  · by_cases c : i = t
    · subst c; rw [sI_s, pk_us, hw]
    · rw [sI_k c, pk_un (by omega)]; exact t9 i hi
def addI (I : In) (r n : Nat) (a b c : Int32) : In := setI (setI (setI (setI (setI I (r + 1) n a) (r + 2) n b) (r + 3) n c) (r + 4) n 0) r 4 (nI (n + 1))
theorem vn_add {S : St} {I : In} {v B T : Nat} {X : Ar} {lw : Nat → Nat} {a b c : Int32} (h : VN S I v B X T lw) (hvB : v + 11 ≤ B) (hT : T ≤ 14) (hn : yn X < 10) (hl : ln X ≤ 30) : VN S (addI I (v + 1) (yn X) a b c) v B (comesX X a b c) T lw := by
  have h0 := vn_ring (u := 0) (y := yn X) (z := a) h hvB hT (by omega) hl (by omega) (by decide)
  generalize hm : yn X = n at *
  have hm9 : (X 1).toNatClampNeg ≤ 10 := by have := hm; unfold yn at this; omega
  have h1 := vn_ring (u := 1) (y := n) (z := b) h0 hvB hT (by unfold yn; rw [pk_un (by omega)]; exact hm9) (by unfold ln; rw [pk_un (by omega)]; exact hl) (by omega) (by decide)
  have h2 := vn_ring (u := 2) (y := n) (z := c) h1 hvB hT (by unfold yn; rw [pk_un (by omega), pk_un (by omega)]; exact hm9) (by unfold ln; rw [pk_un (by omega), pk_un (by omega)]; exact hl) (by omega) (by decide)
  have h3 := vn_ring (u := 3) (y := n) (z := 0) h2 hvB hT (by unfold yn; rw [pk_un (by omega), pk_un (by omega), pk_un (by omega)]; exact hm9) (by unfold ln; rw [pk_un (by omega), pk_un (by omega), pk_un (by omega)]; exact hl) (by omega) (by decide)
  have hy : yn (upd (upd (upd (upd X (76 + 4 * n + 0) a) (76 + 4 * n + 1) b) (76 + 4 * n + 2) c) (76 + 4 * n + 3) 0) = n := by
    unfold yn; rw [pk_un (by omega), pk_un (by omega), pk_un (by omega), pk_un (by omega)]; exact hm
  have hlz : ln (upd (upd (upd (upd X (76 + 4 * n + 0) a) (76 + 4 * n + 1) b) (76 + 4 * n + 2) c) (76 + 4 * n + 3) 0) = ln X := by
    unfold ln; rw [pk_un (by omega), pk_un (by omega), pk_un (by omega), pk_un (by omega)]
  generalize hZ : upd (upd (upd (upd X (76 + 4 * n + 0) a) (76 + 4 * n + 1) b) (76 + 4 * n + 2) c) (76 + 4 * n + 3) 0 = Z at *
  have eC : comesX X a b c = upd Z 1 (nI (n + 1)) := by rw [comesX, show (X 1).toNatClampNeg = n from hm, ← hZ]; rfl
  rw [eC]
  unfold addI
  unfold VN at h3 ⊢
  rw [hy] at h3
  have e1 : yn (upd Z 1 (nI (n + 1))) = n + 1 := by unfold yn; rw [pk_us, nI_clamp (by omega)]
  have e2 : ln (upd Z 1 (nI (n + 1))) = ln Z := by unfold ln; rw [pk_un (by omega)]
  rw [e1, e2, pk_un (by omega)]
  generalize hJ : setI (setI (setI (setI I (v + 1 + (0 + 1)) n a) (v + 1 + (1 + 1)) n b) (v + 1 + (2 + 1)) n c) (v + 1 + (3 + 1)) n 0 = J at *
  have hE : Eqx (fun q => q = v + 1) J (setI J (v + 1) 4 (nI (n + 1))) := Eqx.rf.set rfl
  have hsh : setI (setI (setI (setI (setI I (v + 1 + 1) n a) (v + 1 + 2) n b) (v + 1 + 3) n c) (v + 1 + 4) n 0) (v + 1) 4 (nI (n + 1)) = setI J (v + 1) 4 (nI (n + 1)) := by rw [← hJ]
  have hzz : Z (76 + 4 * n) = a ∧ Z (76 + 4 * n + 1) = b ∧ Z (76 + 4 * n + 2) = c ∧ Z (76 + 4 * n + 3) = 0 := by
    rw [← hZ]
    refine ⟨?_, ?_, ?_, pk_us⟩
    · rw [pk_un (by omega), pk_un (by omega), pk_un (by omega)]; exact pk_us
    · rw [pk_un (by omega), pk_un (by omega), pk_us]
    · rw [pk_un (by omega), pk_us]
  have hjj : J (v + 1 + 1) n = a ∧ J (v + 1 + 2) n = b ∧ J (v + 1 + 3) n = c ∧ J (v + 1 + 4) n = 0 := by
    rw [← hJ]
    refine ⟨?_, ?_, ?_, sI_s⟩
    · rw [sI_o (by omega), sI_o (by omega), sI_o (by omega)]; exact sI_s
    · rw [sI_o (by omega), sI_o (by omega)]; exact sI_s
    · rw [sI_o (by omega)]; exact sI_s
  refine VR.mk2 h3 (eq_v (by omega)) hvB hT (fun j _ _ => pk_un (by omega)) ⟨sI_s, fun y hy => ?_⟩ ((h3.2.1.eqx hE (fun a q => by omega)).cg (by omega) (fun j _ _ _ => pk_un (by omega))) ((h3.2.2.1.eqx hE (by omega)).cg (pk_un (by omega)) (pk_un (by omega)) (pk_un (by omega)) (pk_un (by omega)) (pk_un (by omega)))
  rw [sI_o (by omega), sI_o (by omega), sI_o (by omega), sI_o (by omega), pk_un (by omega), pk_un (by omega), pk_un (by omega), pk_un (by omega)]
  by_cases q : y = n
  · subst q
    rw [hzz.1, hzz.2.1, hzz.2.2.1, hzz.2.2.2, hjj.1, hjj.2.1, hjj.2.2.1, hjj.2.2.2]
    exact ⟨rfl, rfl, rfl, rfl⟩
  · exact h3.1.2 y (by omega)
/-! the guards of the class are those of the reference -/
theorem ge_gt {v : Int32} {k : Nat} (hk : k < 2 ^ 30) : nI (k + 1) ≤ v ↔ nI k < v := by
  rw [Int32.le_iff_toInt_le, Int32.lt_iff_toInt_lt, nI_toInt (by omega), nI_toInt (by omega)]
  omega
theorem is_th (v : Int32) : x_isThing v = inn v 0 5 := by
  unfold x_isThing inn
  rw [show decide (6 ≤ v) = decide (5 < v) from decide_eq_decide.mpr (ge_gt (v := v) (k := 5) (by decide))]
theorem is_sh (v : Int32) : x_isSheet v = inn v 0 3 := by
  unfold x_isSheet inn
  rw [show decide (4 ≤ v) = decide (3 < v) from decide_eq_decide.mpr (ge_gt (v := v) (k := 3) (by decide))]
theorem is_sl (v : Int32) : x_isSlot v = inn v 0 4 := by
  unfold x_isSlot inn
  rw [show decide (5 ≤ v) = decide (4 < v) from decide_eq_decide.mpr (ge_gt (v := v) (k := 4) (by decide))]
theorem has_inn {v w : Int32} {n : Nat} (hw : w = nI n) (hn : n < 2 ^ 30) : rHas w v = inn v 0 (w - 1) := by
  subst hw
  unfold rHas inn
  congr 2
  refine decide_eq_decide.mpr ?_
  rw [Int32.le_iff_toInt_le, Int32.lt_iff_toInt_lt, nI_toInt (by omega)]
  have : (nI n - 1).toInt = (n : Int) - 1 := by
    rcases Nat.eq_zero_or_pos n with q | q
    · subst q; decide
    · rw [nI_p1 q, nI_toInt (by omega)]; omega
  omega
theorem k_yd {ro : Ro} {S : St} {I : In} {r n : Nat} {X : Ar} {x : Int32} (L : LayR S r) (h : RgR I r X n) (h1 : X 1 = nI n) (hn : n ≤ 10) : Ok mX5_has ro 0 0 0 [.ref r, .int x] S I (RI (bi (yd X x)) S I) := by
  have := k_X5_has (ro := ro) (I := I) (x := x) L
  rw [has_inn h.1 (by omega), h.1, ← h1] at this
  exact this
theorem k_th {ro : Ro} {S : St} {I : In} {x : Int32} : Ok mX10_isThing ro 0 0 0 [.int x] S I (RI (bi (inn x 0 5)) S I) := by rw [← is_th]; exact k_X10_isThing
theorem k_sh {ro : Ro} {S : St} {I : In} {x : Int32} : Ok mX10_isSheet ro 0 0 0 [.int x] S I (RI (bi (inn x 0 3)) S I) := by rw [← is_sh]; exact k_X10_isSheet
theorem k_sl {ro : Ro} {S : St} {I : In} {x : Int32} : Ok mX10_isSlot ro 0 0 0 [.int x] S I (RI (bi (inn x 0 4)) S I) := by rw [← is_sl]; exact k_X10_isSlot
/-- how a call of the class ends that moves the village alone -/
def QX (S : St) (I : In) (x B T : Nat) (lw : Nat → Nat) (F : Int32 × Ar) : Option Value → St → In → Prop := fun r S' I' => r = some (.int F.1) ∧ S' = S ∧ VN S I' (x + 1) B F.2 T lw ∧ Eqx (vfr (x + 1) B) I I'
theorem v_qx {own : String} {cc : ByteArray} {nL : Nat} {ret : Option FieldType} {nm : String} {ro : Ro} {R : Room} {cells slots pc mc ms : Nat} {al : List Value} {S : St} {I J : In} {x B T : Nat} {lw : Nat → Nat} {F : Int32 × Ar} {y : Int32} {X : Ar} (hr : ret = some .int) (hF : F = (y, X)) (hV : VN S J (x + 1) B X T lw) (hE : Eqx (vfr (x + 1) B) I J) (hc : cells ≤ mc ∧ slots ≤ ms) (hd : decode cc pc = .ok (.ireturn, 1)) : V own cc nL ret nm ro R (QM mc ms (QX S I x B T lw F)) cells slots pc al [.int y] S J := by
  subst hF
  exact v_iret hr ⟨rfl, rfl, hV, hE⟩ hc hd

