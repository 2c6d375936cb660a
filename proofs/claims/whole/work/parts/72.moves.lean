/-! ===== the invariant; calls that move sheets, slots, tape, what waits ===== -/
def Lc (m : Nat) (I1 K1 K : In) : Prop := ∀ d, K1 d = if m ≤ d ∧ d < m + 23 then K d else I1 d
theorem Lc.z {m : Nat} {I I1 : In} (e : ∀ a, m ≤ a → a < m + 23 → I1 a = I a) : Lc m I1 I1 I := fun d => by
  by_cases q : m ≤ d ∧ d < m + 23
  · rw [if_pos q]; exact e d q.1 q.2
  · rw [if_neg q]
theorem Lc.set {m a k : Nat} {I1 K1 K : In} {x : Int32} (h : Lc m I1 K1 K) (ha : m ≤ a ∧ a < m + 23) : Lc m I1 (setI K1 a k x) (setI K a k x) := fun d => by
  by_cases e : d = a
  · subst e
    rw [if_pos ha, sI_row, sI_row, h d, if_pos ha]
  · rw [setI_ne e, setI_ne e]; exact h d
theorem Lc.vO {m a off n : Nat} {f : Ar} {I1 K1 K : In} (h : Lc m I1 K1 K) (ha : m ≤ a ∧ a < m + 23) : Lc m I1 (uO K1 a off f n) (uO K a off f n) := fun d => by
  by_cases e : d = a
  · subst e
    rw [if_pos ha]
    funext j
    have := congrFun (h d) j
    rw [if_pos ha] at this
    unfold uO
    rw [this]
  · rw [uO_ne e, uO_ne e]; exact h d
theorem Lc.vP {m a n : Nat} {f : Ar} {I1 K1 K : In} (h : Lc m I1 K1 K) (ha : m ≤ a ∧ a < m + 23) : Lc m I1 (uP K1 a f n) (uP K a f n) := fun d => by
  by_cases e : d = a
  · subst e
    rw [if_pos ha]
    funext j
    have := congrFun (h d) j
    rw [if_pos ha] at this
    unfold uP
    rw [this]
  · rw [uP_ne e, uP_ne e]; exact h d
theorem Lc.i {m a : Nat} {I1 K1 K : In} (h : Lc m I1 K1 K) (ha : m ≤ a ∧ a < m + 23) : K1 a = K a := by rw [h a, if_pos ha]
theorem Lc.o {m a : Nat} {I1 K1 K : In} (h : Lc m I1 K1 K) (ha : a < m ∨ m + 23 ≤ a) : K1 a = I1 a := by rw [h a, if_neg (by omega)]
theorem ShR.fr {I J I1 K : In} {x m : Nat} (h : ShR I J x m) (h1 : ∀ a, x + 88 ≤ a → a < x + 96 → I1 a = I a) (h2 : ∀ a, m + 14 ≤ a → a < m + 17 → K a = J a) : ShR I1 K x m := fun s hs => by
  rw [h1 _ (by omega) (by omega), h1 (x + 88 + 2 * s + 1) (by omega) (by omega), h2 (m + 14) (by omega) (by omega), h2 (m + 15) (by omega) (by omega), h2 (m + 16) (by omega) (by omega)]; exact h s hs
theorem SlR.fr {I J I1 K : In} {x m : Nat} (h : SlR I J x m) (h1 : ∀ a, x + 96 ≤ a → a < x + 111 → I1 a = I a) (h2 : ∀ a, m + 17 ≤ a → a < m + 21 → K a = J a) : SlR I1 K x m := fun s hs => by
  rw [h1 (x + 96 + 3 * s) (by omega) (by omega), h1 (x + 96 + 3 * s + 1) (by omega) (by omega), h1 (x + 96 + 3 * s + 1 + 1) (by omega) (by omega), h2 (m + 17) (by omega) (by omega), h2 (m + 18) (by omega) (by omega), h2 (m + 19) (by omega) (by omega), h2 (m + 20) (by omega) (by omega)]; exact h s hs
theorem TpR.fr {I J I1 K : In} {x m : Nat} (h : TpR I J x m) (h1 : I1 (x + 80) 1 = I (x + 80) 1) (h3 : I1 (x + 80 + 1) = I (x + 80 + 1)) (h2 : K m 7 = J m 7) (h4 : K (m + 6) = J (m + 6)) : TpR I1 K x m := ⟨by rw [h1, h2]; exact h.1, fun j => by rw [h3, h4]; exact h.2 j⟩
theorem WtR.fr {I J I1 K : In} {x m : Nat} (h : WtR I J x m) (h1 : I1 x 10 = I x 10) (h3 : I1 (x + 87) = I (x + 87)) (h2 : K m 33 = J m 33) (h4 : K (m + 22) = J (m + 22)) : WtR I1 K x m := ⟨by rw [h1, h2]; exact h.1, fun j hj => by rw [h3, h4]; exact h.2 j hj⟩
theorem MW.fr {J K : In} {m : Nat} (h : MW J m) (h1 : ∀ a, m + 14 ≤ a → a < m + 16 → K a = J a) (h2 : ∀ a, m + 17 ≤ a → a < m + 19 → K a = J a) (h3 : K m 33 = J m 33) (h4 : K m 7 = J m 7) (h5 : K m 3 = J m 3) : MW K m := by
  unfold MW
  rw [h1 (m + 14) (by omega) (by omega), h1 (m + 15) (by omega) (by omega), h2 (m + 17) (by omega) (by omega), h2 (m + 18) (by omega) (by omega), h3, h4, h5]; exact h
theorem CeR.fr {J K : In} {m : Nat} (h : CeR J m) (h1 : K (m + 16) = J (m + 16)) : CeR K m := fun j hj => by rw [h1]; exact h j hj
theorem KyM.fr {J K : In} {m : Nat} (h : KyM J m) (h1 : K (m + 7) = J (m + 7)) (h2 : K (m + 8) = J (m + 8)) : KyM K m := ⟨fun j hj => by rw [h1]; exact h.1 j hj, fun j hj => by rw [h2]; exact h.2 j hj⟩
/-- the invariant behind such a call -/
theorem gi_c {S : St} {I I1 K I2 : In} {x m B b j : Nat} (h : GI S I x m B b j) (h1 : ∀ a, a ≠ x → a < x + 80 ∨ x + 111 ≤ a → I1 a = I a) (hx2 : I1 x 2 = I x 2) (hL : Lc m I1 I2 K) (k1 : K (m + 1) = I (m + 1)) (k2 : K (m + 2) = I (m + 2)) (k3 : K m 3 = I m 3) (r1 : ShR I1 K x m) (r2 : SlR I1 K x m) (r3 : TpR I1 K x m) (r4 : WtR I1 K x m) (q1 : MW K m) (q2 : CeR K m) (q3 : KyM K m) : GI S I2 x m B (b + 100000) (j + 1) := by
  obtain ⟨⟨hm, hB⟩, hl, T, lw, i0, ⟨hV, hk⟩, ⟨u1, ⟨u2, u3⟩, -, -, -, -, u4⟩, hz, hi⟩ := h
  have i : ∀ a, m ≤ a → a < m + 23 → I2 a = K a := fun a a1 a2 => hL.i ⟨a1, a2⟩
  have o : ∀ a, a < m ∨ m + 23 ≤ a → I2 a = I1 a := fun a ha => hL.o ha
  have hE : Eqx (fun a => a = x ∨ (x + 80 ≤ a ∧ a < x + 134)) I I2 := fun a ha => by
    rw [o a (by omega), h1 a (fun z => ha (Or.inl z)) (by omega)]
  refine ⟨⟨hm, hB⟩, hl, T, lw, i0, ⟨?_, ?_⟩, ⟨u1, ⟨?_, fun h0 => ?_⟩, ⟨?_, ?_, ?_, ?_⟩, ?_, ?_, ?_, fun q hq => by rw [i (m + 2) (by omega) (by omega), k2]; exact u4 q hq⟩, hz, by omega⟩
  · rw [i (m + 1) (by omega) (by omega), k1]; exact hV.eqx hE (fun a z => by omega)
  · rw [i (m + 1) (by omega) (by omega), k1]; exact hk.mono (by omega)
  · rw [o x (by omega), hx2, i m (by omega) (by omega), k3]; exact u2
  · rw [i m (by omega) (by omega), k3] at h0
    obtain ⟨T2, g1, g2, g3⟩ := u3 h0
    rw [i (m + 2) (by omega) (by omega), k2]
    exact ⟨T2, g1, g2.eqx hE (fun a z => by omega), g3.mono (by omega)⟩
  · exact r1.fr (fun a a1 a2 => o a (by omega)) (fun a a1 a2 => i a (by omega) (by omega))
  · exact r2.fr (fun a a1 a2 => o a (by omega)) (fun a a1 a2 => i a (by omega) (by omega))
  · exact r3.fr (by rw [o _ (by omega)]) (o _ (by omega)) (by rw [i m (by omega) (by omega)]) (i _ (by omega) (by omega))
  · exact r4.fr (by rw [o _ (by omega)]) (o _ (by omega)) (by rw [i m (by omega) (by omega)]) (i _ (by omega) (by omega))
  · exact q1.fr (fun a a1 a2 => i a (by omega) (by omega)) (fun a a1 a2 => i a (by omega) (by omega)) (by rw [i m (by omega) (by omega)]) (by rw [i m (by omega) (by omega)]) (by rw [i m (by omega) (by omega)])
  · exact q2.fr (i _ (by omega) (by omega))
  · exact q3.fr (i _ (by omega) (by omega)) (i _ (by omega) (by omega))
/-- where the reference's call answers by its rows alone -/
theorem mid_c {ro : Ro} {mx mm : Mth} {dx dm : Nat} {args : List Value} {S : St} {I : In} {x m B b j : Nat} {F : In → Int32 × In} {Q : Option Value → St → In → Prop} (h : GI S I x m B b j) (hO : Ok mx ro dx 0 0 (.ref x :: args) S I Q)
    (hQ : ∀ r S1 I1, Q r S1 I1 → r = some (.int (F I).1) ∧ S1 = S ∧ (∀ a, a ≠ x → a < x + 80 ∨ x + 111 ≤ a → I1 a = I a) ∧ I1 x 2 = I x 2 ∧ ∀ I2, Lc m I1 I2 (F I).2 → GI S I2 x m B (b + 100000) (j + 1))
    (hR : ∀ I1, MW I1 m → I1 (m + 1) = I (m + 1) → Ok mm ro dm 0 0 (.ref m :: args) S I1 (RI (F I1).1 S (F I1).2))
    (hF : ∀ I1, (∀ a, m ≤ a → a < m + 23 → I1 a = I a) → (F I1).1 = (F I).1 ∧ Lc m I1 (F I1).2 (F I).2) : Ok mx ro dx 0 0 (.ref x :: args) S I (Mid mm ro dm args x m B b j) := by
  refine hO.mono ?_
  intro r S1 I1 hq
  obtain ⟨rfl, rfl, g1, g2, g3⟩ := hQ r S1 I1 hq
  have hm := h.1.1
  have e : ∀ a, m ≤ a → a < m + 23 → I1 a = I a := fun a a1 a2 => g1 a (by omega) (by omega)
  obtain ⟨f1, f2⟩ := hF I1 e
  obtain ⟨T, lw, i0, -, hr, -⟩ := h.2.2
  have hM1 : MW I1 m := hr.2.2.2.1.fr (fun a a1 a2 => e a (by omega) (by omega)) (fun a a1 a2 => e a (by omega) (by omega)) (by rw [e m (by omega) (by omega)]) (by rw [e m (by omega) (by omega)]) (by rw [e m (by omega) (by omega)])
  refine ⟨_, rfl, h.2.1.2.1.s, (hR I1 hM1 (e _ (by omega) (by omega))).mono ?_⟩
  rintro r2 S2 I2 ⟨rfl, rfl, rfl⟩
  exact ⟨by rw [f1], g3 _ f2⟩
theorem inn_tri {b : Int32} (h : inn b (-1) 1 = true) : b = -1 ∨ b = 0 ∨ b = 1 := by
  unfold inn at h
  simp only [Bool.and_eq_true, Bool.not_eq_true', decide_eq_false_iff_not, Int32.lt_iff_toInt_lt] at h
  have h1 : ((-1 : Int32)).toInt = -1 := by decide
  have h2 : ((1 : Int32)).toInt = 1 := by decide
  have h3 : ((0 : Int32)).toInt = 0 := by decide
  rw [h1, h2] at h
  have : b.toInt = -1 ∨ b.toInt = 0 ∨ b.toInt = 1 := by omega
  rcases this with e | e | e
  · exact Or.inl (Int32.toInt_inj.mp (by rw [e, h1]))
  · exact Or.inr (Or.inl (Int32.toInt_inj.mp (by rw [e, h3])))
  · exact Or.inr (Or.inr (Int32.toInt_inj.mp (by rw [e, h2])))
theorem inn_99 {b : Int32} (h : inn b (-99999) 99999 = true) : -99999 ≤ b.toInt ∧ b.toInt ≤ 99999 := by
  unfold inn at h
  simp only [Bool.and_eq_true, Bool.not_eq_true', decide_eq_false_iff_not, Int32.lt_iff_toInt_lt] at h
  have h1 : ((-99999 : Int32)).toInt = -99999 := by decide
  have h2 : ((99999 : Int32)).toInt = 99999 := by decide
  rw [h1, h2] at h
  omega
theorem s16_99 (c : Int32) : -99999 ≤ c.toInt16.toInt32.toInt ∧ c.toInt16.toInt32.toInt ≤ 99999 := by
  have h1 := Int16.le_toInt c.toInt16
  have h2 := Int16.toInt_lt c.toInt16
  rw [Int16.toInt_toInt32]
  omega
theorem bo0 {b : Int32} (h : (inn b 0 3 : Bool) = true) : ∃ k, k < 4 ∧ b = nI k ∧ b.toNatClampNeg = k := by
  obtain ⟨k, hk, rfl⟩ := inn_get (a := 3) h (by decide)
  exact ⟨k, by omega, rfl, nI_clamp (by omega)⟩
theorem bo4 {b : Int32} (h : (inn b 0 4 : Bool) = true) : ∃ k, k < 5 ∧ b = nI k ∧ b.toNatClampNeg = k := by
  obtain ⟨k, hk, rfl⟩ := inn_get (a := 4) h (by decide)
  exact ⟨k, by omega, rfl, nI_clamp (by omega)⟩
/-! feed and trim -/
theorem loc_feed {I I1 : In} {m : Nat} {a b c : Int32} (e : ∀ d, m ≤ d → d < m + 23 → I1 d = I d) : (feedM I1 m a b c).1 = (feedM I m a b c).1 ∧ Lc m I1 (feedM I1 m a b c).2 (feedM I m a b c).2 := by
  unfold feedM
  rw [e m (by omega) (by omega)]
  split
  · exact ⟨rfl, Lc.set (Lc.vO (Lc.z e) ⟨by omega, by omega⟩) ⟨by omega, by omega⟩⟩
  · exact ⟨rfl, Lc.z e⟩
theorem loc_trim {I I1 : In} {m : Nat} {a : Int32} (e : ∀ d, m ≤ d → d < m + 23 → I1 d = I d) : (trimM I1 m a).1 = (trimM I m a).1 ∧ Lc m I1 (trimM I1 m a).2 (trimM I m a).2 := by
  unfold trimM
  rw [e m (by omega) (by omega)]
  split
  · exact ⟨rfl, Lc.set (Lc.z e) ⟨by omega, by omega⟩⟩
  · exact ⟨rfl, Lc.z e⟩
theorem row_feed {I : In} {m : Nat} {a b c : Int32} (h : ∃ t, t ≤ 96 ∧ I m 7 = nI t) : (∀ d, d ≠ m → d ≠ m + 6 → (feedM I m a b c).2 d = I d) ∧ (∀ k, k ≠ 7 → (feedM I m a b c).2 m k = I m k) ∧ ∃ t, t ≤ 96 ∧ (feedM I m a b c).2 m 7 = nI t := by
  unfold feedM
  obtain ⟨t, ht, e⟩ := h
  split
  · rename_i hq
    rw [e] at hq
    dsimp only
    refine ⟨fun d d1 d2 => by rw [setI_ne d1, uO_ne d2], fun k hk => by rw [sI_k hk, uO_ne (by omega)], t + 12, (le_96 ht).mp hq, ?_⟩
    rw [sI_s, e]; exact nI_add t 12
  · exact ⟨fun _ _ _ => rfl, fun _ _ => rfl, t, ht, e⟩
theorem row_trim {I : In} {m : Nat} {a : Int32} (h : ∃ t, t ≤ 96 ∧ I m 7 = nI t) : (∀ d, d ≠ m → d ≠ m + 6 → (trimM I m a).2 d = I d) ∧ (∀ k, k ≠ 7 → (trimM I m a).2 m k = I m k) ∧ ∃ t, t ≤ 96 ∧ (trimM I m a).2 m 7 = nI t := by
  unfold trimM
  obtain ⟨t, ht, e⟩ := h
  split
  · rename_i hq
    rw [e] at hq
    obtain ⟨k, hk, rfl⟩ := inn_get hq (by omega)
    dsimp only
    exact ⟨fun d d1 d2 => by rw [setI_ne d1], fun j hj => by rw [sI_k hj], k, by omega, sI_s⟩
  · exact ⟨fun _ _ _ => rfl, fun _ _ => rfl, t, ht, e⟩
theorem gi_tape {S : St} {I I1 K I2 : In} {x m B b j : Nat} (h : GI S I x m B b j) (h1 : Eqx (tpP x) I I1) (hL : Lc m I1 I2 K) (hT : TpR I1 K x m) (hk : (∀ d, d ≠ m → d ≠ m + 6 → K d = I d) ∧ (∀ k, k ≠ 7 → K m k = I m k) ∧ ∃ t, t ≤ 96 ∧ K m 7 = nI t) : GI S I2 x m B (b + 100000) (j + 1) := by
  obtain ⟨T, lw, i0, -, ⟨-, -, ⟨r1, r2, r3, r4⟩, q1, q2, q3, -⟩, -⟩ := h.2.2
  have hm := h.1.1
  have e : ∀ a, a < x + 80 ∨ x + 82 ≤ a → I1 a = I a := fun a ha => h1 a (fun z => by unfold tpP at z; omega)
  obtain ⟨k1, k2, k3⟩ := hk
  refine gi_c h (fun a _ ha => e a (by omega)) (by rw [e x (by omega)]) hL (k1 _ (by omega) (by omega)) (k1 _ (by omega) (by omega)) (k2 3 (by decide)) ?_ ?_ hT ?_ ?_ ?_ ?_
  · exact r1.fr (fun a a1 a2 => e a (by omega)) (fun a a1 a2 => k1 a (by omega) (by omega))
  · exact r2.fr (fun a a1 a2 => e a (by omega)) (fun a a1 a2 => k1 a (by omega) (by omega))
  · exact r4.fr (by rw [e x (by omega)]) (e _ (by omega)) (k2 33 (by decide)) (k1 _ (by omega) (by omega))
  · obtain ⟨w1, w2, w3, w4, w5⟩ := q1
    refine ⟨?_, ?_, by rw [k2 33 (by decide)]; exact w3, k3, by rw [k2 3 (by decide)]; exact w5⟩
    · rw [k1 (m + 14) (by omega) (by omega), k1 (m + 15) (by omega) (by omega)]; exact w1
    · rw [k1 (m + 17) (by omega) (by omega), k1 (m + 18) (by omega) (by omega)]; exact w2
  · exact q2.fr (k1 _ (by omega) (by omega))
  · exact q3.fr (k1 _ (by omega) (by omega)) (k1 _ (by omega) (by omega))
theorem GI.mw {S : St} {I : In} {x m B b j : Nat} (h : GI S I x m B b j) : MW I m := by
  obtain ⟨T, lw, i0, -, hr, -⟩ := h.2.2
  exact hr.2.2.2.1
theorem GI.ce {S : St} {I : In} {x m B b j : Nat} (h : GI S I x m B b j) : CeR I m := by
  obtain ⟨T, lw, i0, -, hr, -⟩ := h.2.2
  exact hr.2.2.2.2.1
theorem GI.rs {S : St} {I : In} {x m B b j : Nat} (h : GI S I x m B b j) : ShR I I x m ∧ SlR I I x m ∧ TpR I I x m ∧ WtR I I x m := by
  obtain ⟨T, lw, i0, -, hr, -⟩ := h.2.2
  exact hr.2.2.1
theorem g_feed {ro : Ro} {S : St} {I : In} {x m B b j : Nat} {xa xb xc : Int32} (h : GI S I x m B b j) (hb : b < 79000000) : Ok mX10_feed ro 1 0 0 (.ref x :: [.int xa, .int xb, .int xc]) S I (Mid mX11_feed ro 0 [.int xa, .int xb, .int xc] x m B b j) := by
  obtain ⟨t, ht, e⟩ := h.mw.2.2.2.1
  exact mid_c (F := fun I => feedM I m xa xb xc) h (c_X10_feed h.2.1.1 h.rs.2.2.1 e ht) (fun r S1 I1 hq => ⟨hq.1, hq.2.1, fun a ha hh => hq.2.2.2 a (fun z => by unfold tpP at z; omega), by rw [hq.2.2.2 x (fun z => by unfold tpP at z; omega)], fun I2 hL => gi_tape h hq.2.2.2 hL hq.2.2.1 (row_feed ⟨t, ht, e⟩)⟩)
    (fun I1 hM _ => k_X11_feed h.2.1.2.1 hM) (fun I1 e => loc_feed e)
theorem g_trim {ro : Ro} {S : St} {I : In} {x m B b j : Nat} {xa : Int32} (h : GI S I x m B b j) (hb : b < 79000000) : Ok mX10_trim ro 0 0 0 (.ref x :: [.int xa]) S I (Mid mX11_trim ro 1 [.int xa] x m B b j) := by
  exact mid_c (F := fun I => trimM I m xa) h (c_X10_trim h.2.1.1 h.rs.2.2.1) (fun r S1 I1 hq => ⟨hq.1, hq.2.1, fun a ha hh => hq.2.2.2 a (fun z => by unfold tpP at z; omega), by rw [hq.2.2.2 x (fun z => by unfold tpP at z; omega)], fun I2 hL => gi_tape h hq.2.2.2 hL hq.2.2.1 (row_trim h.mw.2.2.2.1)⟩)
    (fun I1 hM _ => k_X11_trim h.2.1.2.1) (fun I1 e => loc_trim e)
/-! what waits -/
theorem loc_tell {I I1 : In} {m : Nat} {a : Int32} (e : ∀ d, m ≤ d → d < m + 23 → I1 d = I d) : (tellM I1 m a).1 = (tellM I m a).1 ∧ Lc m I1 (tellM I1 m a).2 (tellM I m a).2 := by
  unfold tellM
  rw [e m (by omega) (by omega)]
  split
  · exact ⟨rfl, Lc.z e⟩
  · exact ⟨rfl, Lc.set (Lc.set (Lc.z e) ⟨by omega, by omega⟩) ⟨by omega, by omega⟩⟩
theorem row_tell {I : In} {m : Nat} {a : Int32} (h : ∃ t, t ≤ 60 ∧ I m 33 = nI t) : (∀ d, d ≠ m → d ≠ m + 22 → (tellM I m a).2 d = I d) ∧ (∀ k, k ≠ 33 → (tellM I m a).2 m k = I m k) ∧ ∃ t, t ≤ 60 ∧ (tellM I m a).2 m 33 = nI t := by
  unfold tellM
  obtain ⟨t, ht, e⟩ := h
  split
  · exact ⟨fun _ _ _ => rfl, fun _ _ => rfl, t, ht, e⟩
  · rename_i hq
    dsimp only
    refine ⟨fun d d1 d2 => by rw [setI_ne d1, setI_ne d2], fun k hk => by rw [sI_k hk, setI_ne (by omega)], t + 1, ?_, ?_⟩
    · rcases Nat.lt_or_ge t 60 with z | z
      · omega
      · exact absurd (by rw [e, show t = 60 by omega]; rfl) hq
    · rw [sI_s, e]; exact nI_add t 1
theorem g_tell {ro : Ro} {S : St} {I : In} {x m B b j : Nat} {xa : Int32} (h : GI S I x m B b j) (hb : b < 79000000) : Ok mX10_tell ro 0 0 0 (.ref x :: [.int xa]) S I (Mid mX11_tell ro 0 [.int xa] x m B b j) := by
  obtain ⟨t, ht, e⟩ := h.mw.2.2.1
  refine mid_c (F := fun I => tellM I m xa) h (c_X10_tell h.2.1.1 h.rs.2.2.2 e ht) (fun r S1 I1 hq => ⟨hq.1, hq.2.1, fun a ha hh => hq.2.2.2.2 a ha (by omega), hq.2.2.2.1 2 (by decide), fun I2 hL => ?_⟩)
    (fun I1 hM _ => k_X11_tell h.2.1.2.1 hM) (fun I1 e => loc_tell e)
  obtain ⟨rfl, rfl, hw, hx, ho⟩ := hq
  obtain ⟨T, lw, i0, -, ⟨-, -, ⟨r1, r2, r3, r4⟩, q1, q2, q3, -⟩, -⟩ := h.2.2
  have hm := h.1.1
  obtain ⟨k1, k2, k3⟩ := row_tell (a := xa) ⟨t, ht, e⟩
  refine gi_c h (fun a a1 ha => ho a a1 (by omega)) (hx 2 (by decide)) hL (k1 _ (by omega) (by omega)) (k1 _ (by omega) (by omega)) (k2 3 (by decide)) ?_ ?_ ?_ hw ?_ ?_ ?_
  · exact r1.fr (fun a a1 a2 => ho a (by omega) (by omega)) (fun a a1 a2 => k1 a (by omega) (by omega))
  · exact r2.fr (fun a a1 a2 => ho a (by omega) (by omega)) (fun a a1 a2 => k1 a (by omega) (by omega))
  · exact r3.fr (by rw [ho _ (by omega) (by omega)]) (ho _ (by omega) (by omega)) (k2 7 (by decide)) (k1 _ (by omega) (by omega))
  · obtain ⟨w1, w2, w3, w4, w5⟩ := q1
    refine ⟨?_, ?_, k3, by rw [k2 7 (by decide)]; exact w4, by rw [k2 3 (by decide)]; exact w5⟩
    · rw [k1 (m + 14) (by omega) (by omega), k1 (m + 15) (by omega) (by omega)]; exact w1
    · rw [k1 (m + 17) (by omega) (by omega), k1 (m + 18) (by omega) (by omega)]; exact w2
  · exact q2.fr (k1 _ (by omega) (by omega))
  · exact q3.fr (k1 _ (by omega) (by omega)) (k1 _ (by omega) (by omega))
/-! sheets -/
theorem gi_sh {S : St} {I I1 K I2 : In} {x m B b j : Nat} (h : GI S I x m B b j) (h1 : Eqx (shP x) I I1) (hL : Lc m I1 I2 K) (hT : ShR I1 K x m) (k1 : ∀ d, d ≠ m + 14 → d ≠ m + 15 → d ≠ m + 16 → d ≠ m + 21 → K d = I d) (w1 : ∀ s, s < 4 → (K (m + 14) s = -1 ∨ K (m + 14) s = 0 ∨ K (m + 14) s = 1) ∧ ∃ z, z ≤ 24 ∧ K (m + 15) s = nI z) (w0 : CeR K m) : GI S I2 x m B (b + 100000) (j + 1) := by
  obtain ⟨T, lw, i0, -, ⟨-, -, ⟨r1, r2, r3, r4⟩, q1, q2, q3, -⟩, -⟩ := h.2.2
  have hm := h.1.1
  have e : ∀ a, a < x + 88 ∨ x + 96 ≤ a → I1 a = I a := fun a ha => h1 a (fun z => by unfold shP at z; omega)
  have km : K m = I m := k1 m (by omega) (by omega) (by omega) (by omega)
  refine gi_c h (fun a _ ha => e a (by omega)) (by rw [e x (by omega)]) hL (k1 _ (by omega) (by omega) (by omega) (by omega)) (k1 _ (by omega) (by omega) (by omega) (by omega)) (by rw [km]) hT ?_ ?_ ?_ ?_ w0 ?_
  · exact r2.fr (fun a a1 a2 => e a (by omega)) (fun a a1 a2 => k1 a (by omega) (by omega) (by omega) (by omega))
  · exact r3.fr (by rw [e _ (by omega)]) (e _ (by omega)) (by rw [km]) (k1 _ (by omega) (by omega) (by omega) (by omega))
  · exact r4.fr (by rw [e x (by omega)]) (e _ (by omega)) (by rw [km]) (k1 _ (by omega) (by omega) (by omega) (by omega))
  · obtain ⟨-, w2, w3, w4, w5⟩ := q1
    refine ⟨w1, ?_, by rw [km]; exact w3, by rw [km]; exact w4, by rw [km]; exact w5⟩
    rw [k1 (m + 17) (by omega) (by omega) (by omega) (by omega), k1 (m + 18) (by omega) (by omega) (by omega) (by omega)]; exact w2
  · exact q3.fr (k1 _ (by omega) (by omega) (by omega) (by omega)) (k1 _ (by omega) (by omega) (by omega) (by omega))
theorem loc_sheet {I I1 : In} {m : Nat} {a b c : Int32} (e : ∀ d, m ≤ d → d < m + 23 → I1 d = I d) : (sheetM I1 m a b c).1 = (sheetM I m a b c).1 ∧ Lc m I1 (sheetM I1 m a b c).2 (sheetM I m a b c).2 := by
  by_cases q1 : (inn a 0 3 && inn b (-1) 1) = true
  · by_cases q2 : ¬ b < 0 ∧ ¬ c ≤ 24
    · rw [sheetM, sheetM, if_pos q1, if_pos q1, if_pos q2, if_pos q2]; exact ⟨rfl, Lc.z e⟩
    · by_cases q3 : ¬ b < 0 ∧ ¬ 0 ≤ c
      · rw [sheetM, sheetM, if_pos q1, if_pos q1, if_neg q2, if_neg q2, if_pos q3, if_pos q3]; exact ⟨rfl, Lc.z e⟩
      · rw [sheetM, sheetM, if_pos q1, if_pos q1, if_neg q2, if_neg q2, if_neg q3, if_neg q3]
        refine ⟨rfl, ?_⟩
        dsimp only
        exact Lc.vO (a := m + 16) (Lc.set (a := m + 15) (Lc.set (a := m + 14) (Lc.z e) ⟨by omega, by omega⟩) ⟨by omega, by omega⟩) ⟨by omega, by omega⟩
  · rw [sheetM, sheetM, if_neg q1, if_neg q1]; exact ⟨rfl, Lc.z e⟩
theorem row_sheet {I : In} {m : Nat} {a b c : Int32} (h : MW I m) (hc : CeR I m) : (∀ d, d ≠ m + 14 → d ≠ m + 15 → d ≠ m + 16 → d ≠ m + 21 → (sheetM I m a b c).2 d = I d) ∧ (∀ s, s < 4 → ((sheetM I m a b c).2 (m + 14) s = -1 ∨ (sheetM I m a b c).2 (m + 14) s = 0 ∨ (sheetM I m a b c).2 (m + 14) s = 1) ∧ ∃ z, z ≤ 24 ∧ (sheetM I m a b c).2 (m + 15) s = nI z) ∧ CeR (sheetM I m a b c).2 m := by
  have no : ∀ v : Int32, ((∀ d, d ≠ m + 14 → d ≠ m + 15 → d ≠ m + 16 → d ≠ m + 21 → ((v, I) : Int32 × In).2 d = I d) ∧ (∀ s, s < 4 → (((v, I) : Int32 × In).2 (m + 14) s = -1 ∨ ((v, I) : Int32 × In).2 (m + 14) s = 0 ∨ ((v, I) : Int32 × In).2 (m + 14) s = 1) ∧ ∃ z, z ≤ 24 ∧ ((v, I) : Int32 × In).2 (m + 15) s = nI z) ∧ CeR ((v, I) : Int32 × In).2 m) := fun v => ⟨fun _ _ _ _ _ => rfl, h.1, hc⟩
  by_cases q1 : (inn a 0 3 && inn b (-1) 1) = true
  · by_cases q2 : ¬ b < 0 ∧ ¬ c ≤ 24
    · rw [sheetM, if_pos q1, if_pos q2]; exact no _
    · by_cases q3 : ¬ b < 0 ∧ ¬ 0 ≤ c
      · rw [sheetM, if_pos q1, if_neg q2, if_pos q3]; exact no _
      · rw [sheetM, if_pos q1, if_neg q2, if_neg q3]
        rw [Bool.and_eq_true] at q1
        obtain ⟨k, hk, rfl, ek⟩ := bo0 q1.1
        rw [ek]
        have hz : ∃ z, z ≤ 24 ∧ (if 0 ≤ b then c else 0) = nI z := by
          by_cases q : 0 ≤ b
          · rw [if_pos q]
            have q0 : ¬ b < 0 := Int32.not_lt.mpr q
            exact inn_get (a := 24) (inn_of (Int32.not_lt.mpr (Decidable.byContradiction fun z => q3 ⟨q0, z⟩)) (Decidable.byContradiction fun z => q2 ⟨q0, z⟩)) (by decide)
          · rw [if_neg q]; exact ⟨0, by decide, rfl⟩
        generalize (if 0 ≤ b then c else 0 : Int32) = v at hz ⊢
        dsimp only
        refine ⟨fun d d1 d2 d3 _ => ?_, fun s hs => ?_, fun q hq => ?_⟩
        · rw [uO_ne d3, setI_ne d2, setI_ne d1]
        · rw [uO_ne (b := m + 14) (by omega), uO_ne (b := m + 15) (by omega), setI_ne (b := m + 14) (by omega)]
          by_cases hsk : s = k
          · subst hsk
            rw [sI_s, sI_s]; exact ⟨inn_tri q1.2, hz⟩
          · rw [sI_k hsk, sI_k hsk, setI_ne (by omega)]; exact h.1 s hs
        · by_cases z : 24 * k ≤ q ∧ q < 24 * k + 24
          · obtain ⟨w, rfl⟩ : ∃ w, q = 24 * k + w := ⟨q - 24 * k, by omega⟩
            rw [uO_in (by omega)]; exact Or.inr (by decide)
          · rw [uO_k (by omega), setI_ne (by omega), setI_ne (by omega)]; exact hc q hq
  · rw [sheetM, if_neg q1]; exact no _
theorem g_sheet {ro : Ro} {S : St} {I : In} {x m B b j : Nat} {xa xb xc : Int32} (h : GI S I x m B b j) (hb : b < 79000000) : Ok mX10_sheet ro 1 0 0 (.ref x :: [.int xa, .int xb, .int xc]) S I (Mid mX11_sheet ro 2 [.int xa, .int xb, .int xc] x m B b j) :=
  mid_c (F := fun I => sheetM I m xa xb xc) h (c_X10_sheet h.2.1.1 h.rs.1 h.mw) (fun r S1 I1 hq => ⟨hq.1, hq.2.1, fun a ha hh => hq.2.2.2 a (fun z => by unfold shP at z; omega), by rw [hq.2.2.2 x (fun z => by unfold shP at z; omega)], fun I2 hL => gi_sh h hq.2.2.2 hL hq.2.2.1 (row_sheet h.mw h.ce).1 (row_sheet h.mw h.ce).2.1 (row_sheet h.mw h.ce).2.2⟩)
    (fun I1 hM _ => k_X11_sheet h.2.1.2.1 hM) (fun I1 e => loc_sheet e)
theorem loc_mark {I I1 : In} {m : Nat} {a b c : Int32} (e : ∀ d, m ≤ d → d < m + 23 → I1 d = I d) : (markM I1 m a b c).1 = (markM I m a b c).1 ∧ Lc m I1 (markM I1 m a b c).2 (markM I m a b c).2 := by
  unfold markM
  rw [e (m + 14) (by omega) (by omega), e (m + 15) (by omega) (by omega)]
  have z := Lc.z e
  have w : ∀ k v, Lc m I1 (setI I1 (m + 16) k v) (setI I (m + 16) k v) := fun k v => Lc.set z ⟨by omega, by omega⟩
  repeat' split
  all_goals first | exact ⟨rfl, z⟩ | exact ⟨rfl, w _ _⟩
theorem row_mark {I : In} {m : Nat} {a b c : Int32} (hc : CeR I m) : (∀ d, d ≠ m + 16 → (markM I m a b c).2 d = I d) ∧ CeR (markM I m a b c).2 m := by
  unfold markM
  have z : ∀ v : Int32, (∀ d, d ≠ m + 16 → ((v, I) : Int32 × In).2 d = I d) ∧ CeR ((v, I) : Int32 × In).2 m := fun v => ⟨fun _ _ => rfl, hc⟩
  have w : ∀ (k : Nat) (u v : Int32), (v = -1000000005 ∨ (-99999 ≤ v.toInt ∧ v.toInt ≤ 99999)) → (∀ d, d ≠ m + 16 → ((u, setI I (m + 16) k v) : Int32 × In).2 d = I d) ∧ CeR ((u, setI I (m + 16) k v) : Int32 × In).2 m := fun k u v hv => by
    dsimp only
    refine ⟨fun d hd => setI_ne hd, fun q hq => ?_⟩
    by_cases hk : q = k
    · subst hk; rw [sI_s]; exact hv
    · rw [sI_k hk]; exact hc q hq
  repeat' split
  all_goals first | exact z _ | exact w _ _ _ (Or.inr (s16_99 c)) | (rename_i hh; exact w _ _ _ (hh.imp id inn_99))
theorem g_mark {ro : Ro} {S : St} {I : In} {x m B b j : Nat} {xa xb xc : Int32} (h : GI S I x m B b j) (hb : b < 79000000) : Ok mX10_mark ro 1 0 0 (.ref x :: [.int xa, .int xb, .int xc]) S I (Mid mX11_mark ro 2 [.int xa, .int xb, .int xc] x m B b j) :=
  mid_c (F := fun I => markM I m xa xb xc) h (c_X10_mark h.2.1.1 h.rs.1 h.mw) (fun r S1 I1 hq => ⟨hq.1, hq.2.1, fun a ha hh => hq.2.2.2 a (fun z => by unfold shP at z; omega), by rw [hq.2.2.2 x (fun z => by unfold shP at z; omega)], fun I2 hL => gi_sh h hq.2.2.2 hL hq.2.2.1 (fun d _ _ d3 _ => (row_mark h.ce).1 d d3) (by rw [(row_mark h.ce).1 (m + 14) (by omega), (row_mark h.ce).1 (m + 15) (by omega)]; exact h.mw.1) (row_mark h.ce).2⟩)
    (fun I1 hM _ => k_X11_mark h.2.1.2.1 hM) (fun I1 e => loc_mark e)
theorem loc_copy {I I1 : In} {m : Nat} {a b c d f : Int32} (e : ∀ d, m ≤ d → d < m + 23 → I1 d = I d) : (copyM I1 m a b c d f).1 = (copyM I m a b c d f).1 ∧ Lc m I1 (copyM I1 m a b c d f).2 (copyM I m a b c d f).2 := by
  have ec : cpF I1 m a b = cpF I m a b := by unfold cpF; rw [e (m + 16) (by omega) (by omega)]
  unfold copyM
  rw [e (m + 14) (by omega) (by omega), e (m + 15) (by omega) (by omega), ec]
  have z := Lc.z e
  have w : ∀ k f n o, Lc m I1 (uO (uP I1 (m + 21) f n) (m + 16) k f o) (uO (uP I (m + 21) f n) (m + 16) k f o) := fun k f n o => Lc.vO (Lc.vP z ⟨by omega, by omega⟩) ⟨by omega, by omega⟩
  repeat' split
  all_goals first | exact ⟨rfl, z⟩ | exact ⟨rfl, w _ _ _ _⟩
theorem cp_le {b f v : Int32} {n : Nat} (hb : ¬ b < 0) (hf : ¬ f < 0) (en : v = nI n) (hn : n ≤ 24) (h : ¬ v - f < b) : b.toNatClampNeg + f.toNatClampNeg ≤ 24 := by
  subst en
  have h0 : ((0 : Int32)).toInt = 0 := by decide
  simp only [Int32.lt_iff_toInt_lt, h0] at hb hf h
  have h1 := Int32.toInt_lt b
  have h2 := Int32.toInt_lt f
  rw [Int32.toInt_sub, nI_toInt (by omega)] at h
  have e : (((n : Int) - f.toInt).bmod (2 ^ 32)) = (n : Int) - f.toInt := Int.bmod_eq_of_le (by omega) (by omega)
  rw [e] at h
  have a1 : b.toNatClampNeg = b.toInt.toNat := rfl
  have a2 : f.toNatClampNeg = f.toInt.toNat := rfl
  omega
theorem row_copy {I : In} {m : Nat} {a b c d f : Int32} (h : MW I m) (hc : CeR I m) : (∀ q, q ≠ m + 16 → q ≠ m + 21 → (copyM I m a b c d f).2 q = I q) ∧ CeR (copyM I m a b c d f).2 m := by
  have z : ∀ v : Int32, (∀ d, d ≠ m + 16 → d ≠ m + 21 → ((v, I) : Int32 × In).2 d = I d) ∧ CeR ((v, I) : Int32 × In).2 m := fun v => ⟨fun _ _ _ => rfl, hc⟩
  by_cases q1 : (inn a 0 3 && inn c 0 3) = true
  · have q1' := q1
    rw [Bool.and_eq_true] at q1'
    obtain ⟨k, hk, ea, ek⟩ := bo0 q1'.1
    obtain ⟨-, n, hn, en⟩ := h.1 k hk
    unfold copyM
    rw [ek, if_pos q1]
    split
    · exact z _
    split
    · split
      · split
        · exact z _
        split
        · exact z _
        split
        · exact z _
        split
        · exact z _
        split
        · rename_i hb0 hd0 hf0 hbe hde
          dsimp only
          refine ⟨fun q h1 h2 => by rw [uO_ne h1, uP_ne h2], fun q hq => ?_⟩
          by_cases hz : (24 * c.toNatClampNeg + d.toNatClampNeg) ≤ q ∧ q < (24 * c.toNatClampNeg + d.toNatClampNeg) + f.toNatClampNeg
          · obtain ⟨w, rfl⟩ : ∃ w, q = (24 * c.toNatClampNeg + d.toNatClampNeg) + w := ⟨q - (24 * c.toNatClampNeg + d.toNatClampNeg), by omega⟩
            rw [uO_in (by omega)]
            unfold cpF
            rw [ek]
            refine hc _ ?_
            have hb1 := cp_le hb0 hf0 en hn hbe
            omega
          · rw [uO_k (by omega), uP_ne (by omega)]; exact hc q hq
        · exact z _
      · exact z _
    · exact z _
  · rw [copyM, if_neg q1]; exact z _
theorem g_copy {ro : Ro} {S : St} {I : In} {x m B b j : Nat} {xa xb xc xd xe : Int32} (h : GI S I x m B b j) (hb : b < 79000000) : Ok mX10_copy ro 1 0 0 (.ref x :: [.int xa, .int xb, .int xc, .int xd, .int xe]) S I (Mid mX11_copy ro 2 [.int xa, .int xb, .int xc, .int xd, .int xe] x m B b j) :=
  mid_c (F := fun I => copyM I m xa xb xc xd xe) h (c_X10_copy h.2.1.1 h.rs.1 h.mw) (fun r S1 I1 hq => ⟨hq.1, hq.2.1, fun a ha hh => hq.2.2.2 a (fun z => by unfold shP at z; omega), by rw [hq.2.2.2 x (fun z => by unfold shP at z; omega)], fun I2 hL => gi_sh h hq.2.2.2 hL hq.2.2.1 (fun d _ _ d3 d4 => (row_copy h.mw h.ce).1 d d3 d4) (by rw [(row_copy h.mw h.ce).1 (m + 14) (by omega) (by omega), (row_copy h.mw h.ce).1 (m + 15) (by omega) (by omega)]; exact h.mw.1) (row_copy h.mw h.ce).2⟩)
    (fun I1 hM _ => k_X11_copy h.2.1.2.1 hM) (fun I1 e => loc_copy e)
/-! slots -/
theorem loc_lay {I I1 : In} {m : Nat} {a b c : Int32} (e : ∀ d, m ≤ d → d < m + 23 → I1 d = I d) : (layM I1 m a b c).1 = (layM I m a b c).1 ∧ Lc m I1 (layM I1 m a b c).2 (layM I m a b c).2 := by
  have eA : layA I1 m b c = layA I m b c := by unfold layA; rw [e (m + 1) (by omega) (by omega), e (m + 15) (by omega) (by omega)]
  have eB : layB I1 m b c = layB I m b c := by unfold layB; rw [e (m + 1) (by omega) (by omega)]
  have z := Lc.z e
  have w : Lc m I1 (layI I1 m a b c) (layI I m a b c) := by
    unfold layI
    rw [eA, eB]
    exact Lc.set (Lc.set (Lc.set z ⟨by omega, by omega⟩) ⟨by omega, by omega⟩) ⟨by omega, by omega⟩
  unfold layM
  rw [e (m + 1) (by omega) (by omega), e (m + 14) (by omega) (by omega), e (m + 16) (by omega) (by omega), e (m + 17) (by omega) (by omega)]
  by_cases q1 : (inn a 0 4 && inn b 0 3) = true
  · rw [if_pos q1, if_pos q1]
    by_cases q2 : b = 1 ∧ yd (I (m + 1)) c = false
    · rw [if_pos q2, if_pos q2]; exact ⟨rfl, z⟩
    · rw [if_neg q2, if_neg q2]
      by_cases q3 : b = 2 ∧ inn c 0 3 = false
      · rw [if_pos q3, if_pos q3]; exact ⟨rfl, z⟩
      · rw [if_neg q3, if_neg q3]
        by_cases q4 : b = 2 ∧ ¬ 0 ≤ I (m + 14) c.toNatClampNeg
        · rw [if_pos q4, if_pos q4]; exact ⟨rfl, z⟩
        · rw [if_neg q4, if_neg q4]
          refine ⟨rfl, ?_⟩
          dsimp only
          by_cases q5 : b = 2
          · rw [if_pos q5, if_pos q5]; exact Lc.vO w ⟨by omega, by omega⟩
          · rw [if_neg q5, if_neg q5]; exact w
  · rw [if_neg q1, if_neg q1]; exact ⟨rfl, z⟩
def layW (I K : In) (m : Nat) : Prop := (∀ d, d ≠ m + 17 → d ≠ m + 18 → d ≠ m + 19 → d ≠ m + 20 → K d = I d) ∧ (∀ s, s < 5 → (K (m + 17) s = 0 ∨ K (m + 17) s = 1 ∨ K (m + 17) s = 2 ∨ K (m + 17) s = 3) ∧ (K (m + 17) s = 2 → ∃ z, z ≤ 24 ∧ K (m + 18) s = nI z))
theorem row_lay {I : In} {m : Nat} {a b c : Int32} (h : MW I m) : layW I (layM I m a b c).2 m := by
  have z : layW I I m := ⟨fun _ _ _ _ _ => rfl, h.2.1⟩
  unfold layM
  by_cases q1 : (inn a 0 4 && inn b 0 3) = true
  · rw [if_pos q1]
    by_cases q2 : b = 1 ∧ yd (I (m + 1)) c = false
    · rw [if_pos q2]; exact z
    · rw [if_neg q2]
      by_cases q3 : b = 2 ∧ inn c 0 3 = false
      · rw [if_pos q3]; exact z
      · rw [if_neg q3]
        by_cases q4 : b = 2 ∧ ¬ 0 ≤ I (m + 14) c.toNatClampNeg
        · rw [if_pos q4]; exact z
        · rw [if_neg q4]
          rw [Bool.and_eq_true] at q1
          obtain ⟨k, hk, rfl, ek⟩ := bo4 q1.1
          have w : layW I (layI I m (nI k) b c) m := by
            unfold layI
            rw [ek]
            refine ⟨fun d d1 d2 d3 d4 => by rw [setI_ne d3, setI_ne d2, setI_ne d1], fun s hs => ?_⟩
            rw [setI_ne (b := m + 17) (by omega), setI_ne (b := m + 17) (by omega), setI_ne (b := m + 18) (by omega)]
            by_cases hsk : s = k
            · subst hsk
              rw [sI_s, sI_s]
              obtain ⟨y, hy, rfl, -⟩ := bo0 q1.2
              refine ⟨?_, fun h2 => ?_⟩
              · have : y = 0 ∨ y = 1 ∨ y = 2 ∨ y = 3 := by omega
                rcases this with rfl | rfl | rfl | rfl
                · exact Or.inl rfl
                · exact Or.inr (Or.inl rfl)
                · exact Or.inr (Or.inr (Or.inl rfl))
                · exact Or.inr (Or.inr (Or.inr rfl))
              · rw [h2] at q3 ⊢
                have hi : inn c 0 3 = true := by
                  cases hh : inn c 0 3
                  · exact absurd ⟨rfl, hh⟩ q3
                  · rfl
                obtain ⟨y2, hy2, rfl, ey⟩ := bo0 hi
                rw [layA, if_neg (by decide), if_pos rfl, ey]
                exact (h.1 y2 hy2).2
            · rw [sI_k hsk, sI_k hsk, setI_ne (by omega)]; exact h.2.1 s hs
          dsimp only
          by_cases q5 : b = 2
          · rw [if_pos q5]
            refine ⟨fun d d1 d2 d3 d4 => by rw [uO_ne d4]; exact w.1 d d1 d2 d3 d4, fun s hs => ?_⟩
            rw [uO_ne (b := m + 17) (by omega), uO_ne (b := m + 18) (by omega)]; exact w.2 s hs
          · rw [if_neg q5]; exact w
  · rw [if_neg q1]; exact z
theorem g_lay {ro : Ro} {S : St} {I : In} {x m B b j : Nat} {xa xb xc : Int32} (h : GI S I x m B b j) (hb : b < 79000000) : Ok mX10_lay ro 2 0 0 (.ref x :: [.int xa, .int xb, .int xc]) S I (Mid mX11_lay ro 2 [.int xa, .int xb, .int xc] x m B b j) := by
  obtain ⟨T, lw, i0, ⟨hV, hk⟩, ⟨-, -, ⟨r1, r2, r3, r4⟩, q1, q2, q3, -⟩, -⟩ := h.2.2
  have hm := h.1.1
  refine mid_c (F := fun I => layM I m xa xb xc) h (c_X10_lay h.2.1.1 hV hk.1 (by have := h.1.2; omega) rfl r1 r2 q1) (fun r S1 I1 hq => ⟨hq.1, hq.2.1, fun a ha hh => hq.2.2.2 a (fun z => by unfold slP at z; omega), by rw [hq.2.2.2 x (fun z => by unfold slP at z; omega)], fun I2 hL => ?_⟩)
    (fun I1 hM hX => k_X11_lay h.2.1.2.1 hM (by rw [hX]; exact hk.1.1) hk.1.2.1) (fun I1 e => loc_lay e)
  obtain ⟨rfl, rfl, hT, ho⟩ := hq
  have e : ∀ a, a < x + 96 ∨ x + 111 ≤ a → I1 a = I a := fun a ha => ho a (fun z => by unfold slP at z; omega)
  obtain ⟨k1, w2⟩ := row_lay (a := xa) (b := xb) (c := xc) q1
  have km : (layM I m xa xb xc).2 m = I m := k1 m (by omega) (by omega) (by omega) (by omega)
  refine gi_c h (fun a _ ha => e a (by omega)) (by rw [e x (by omega)]) hL (k1 _ (by omega) (by omega) (by omega) (by omega)) (k1 _ (by omega) (by omega) (by omega) (by omega)) (by rw [km]) ?_ hT ?_ ?_ ?_ ?_ ?_
  · exact r1.fr (fun a a1 a2 => e a (by omega)) (fun a a1 a2 => k1 a (by omega) (by omega) (by omega) (by omega))
  · exact r3.fr (by rw [e _ (by omega)]) (e _ (by omega)) (by rw [km]) (k1 _ (by omega) (by omega) (by omega) (by omega))
  · exact r4.fr (by rw [e x (by omega)]) (e _ (by omega)) (by rw [km]) (k1 _ (by omega) (by omega) (by omega) (by omega))
  · obtain ⟨w1, -, w3, w4, w5⟩ := q1
    refine ⟨?_, w2, by rw [km]; exact w3, by rw [km]; exact w4, by rw [km]; exact w5⟩
    rw [k1 (m + 14) (by omega) (by omega) (by omega) (by omega), k1 (m + 15) (by omega) (by omega) (by omega) (by omega)]; exact w1
  · exact q2.fr (k1 _ (by omega) (by omega) (by omega) (by omega))
  · exact q3.fr (k1 _ (by omega) (by omega) (by omega) (by omega)) (k1 _ (by omega) (by omega) (by omega) (by omega))
