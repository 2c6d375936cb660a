/-! ===== the invariant of the law; calls that move the village alone, or nothing ===== -/
def RS (S : St) (I : In) (x m B T b : Nat) (lw : Nat → Nat) : Prop :=
  (∀ u, u < T → S.2.1 (x + 84) u = .ref (lw u + 1)) ∧ (I x 2 = I m 3 ∧ (¬ I m 3 = 0 → ∃ T2, T2 ≤ T ∧ VN S I (x + 12) B (I (m + 2)) T2 lw ∧ VK (I (m + 2)) T2 b)) ∧ (ShR I I x m ∧ SlR I I x m ∧ TpR I I x m ∧ WtR I I x m) ∧ (MW I m ∧ CeR I m ∧ KyM I m ∧ ∀ j, 1488 ≤ j → I (m + 2) j = 0)
def GI (S : St) (I : In) (x m B b j : Nat) : Prop :=
  (m = x + 111 ∧ B = x + 134) ∧ (LayX S x ∧ LayM S m ∧ Fre S) ∧ ∃ T lw i0, (VN S I (x + 1) B (I (m + 1)) T lw ∧ VK (I (m + 1)) T b) ∧ RS S I x m B T b lw ∧ S.2.2 = B + 3 * i0 ∧ i0 ≤ j
def ScC (x B a : Nat) : Prop := (x + 1 ≤ a ∧ a < x + 12) ∨ (x + 23 ≤ a ∧ a < x + 80) ∨ stk B a
def ScM (m a : Nat) : Prop := (m + 3 ≤ a ∧ a ≤ m + 5) ∨ (m + 9 ≤ a ∧ a ≤ m + 13) ∨ a = m + 21
/-- all but what is scratch stays -/
theorem RS.sc {S S2 : St} {I I2 : In} {x m B T b b2 : Nat} {lw : Nat → Nat} (h : RS S I x m B T b lw) (hm : m = x + 111) (hB : B = x + 134) (hS : SGp (thP (x + 23) 0) S S2) (hI : ∀ a, ¬ ScC x B a → a ≠ m + 1 → ¬ ScM m a → I2 a = I a) (hb : b ≤ b2) : RS S2 I2 x m B T b2 lw := by
  have e : ∀ a, (a = x ∨ (x + 12 ≤ a ∧ a < x + 23) ∨ (x + 80 ≤ a ∧ a < x + 111) ∨ a = m ∨ a = m + 2 ∨ (m + 6 ≤ a ∧ a ≤ m + 8) ∨ (m + 14 ≤ a ∧ a ≤ m + 20) ∨ a = m + 22) → I2 a = I a := fun a ha => hI a (fun z => by unfold ScC stk at z; omega) (by omega) (fun z => by unfold ScM at z; omega)
  obtain ⟨h1, ⟨h2, h3⟩, ⟨s1, s2, s3, s4⟩, m1, m2, m3, m4⟩ := h
  have nth : ∀ a, a < x + 35 ∨ x + 80 ≤ a → ¬ thP (x + 23) 0 a := fun a ha z => by obtain ⟨i, z1, z2, z3⟩ := z; omega
  refine ⟨fun u hu => by rw [hS.2.1 _ (nth _ (by omega))]; exact h1 u hu, ⟨by rw [e x (by omega), e m (by omega)]; exact h2, fun h0 => ?_⟩, ⟨fun s hs => ?_, fun s hs => ?_, ⟨?_, fun j => ?_⟩, ⟨?_, fun j hj => ?_⟩⟩, ⟨fun s hs => ?_, fun s hs => ?_, ?_, ?_, ?_⟩, fun j hj => ?_, ⟨fun j hj => ?_, fun j hj => ?_⟩, fun j hj => by rw [e (m + 2) (by omega)]; exact m4 j hj⟩
  · rw [e m (by omega)] at h0
    obtain ⟨T2, g1, g2, g3⟩ := h3 h0
    refine ⟨T2, g1, ?_, by rw [e (m + 2) (by omega)]; exact g3.mono hb⟩
    rw [e (m + 2) (by omega)]
    have hE : Eqx (fun a => ScC x B a ∨ a = m + 1 ∨ ScM m a) I I2 := fun a ha => hI a (fun z => ha (Or.inl z)) (fun z => ha (Or.inr (Or.inl z))) (fun z => ha (Or.inr (Or.inr z)))
    refine (g2.eqx hE (fun a z => ?_)).sp hS (fun a z => by obtain ⟨i, z1, z2, z3⟩ := z; omega) (nth _ (by omega))
    rcases z with z | z | z
    · rcases z with z | z | z
      · omega
      · omega
      · exact ⟨by unfold stk at z; omega, Or.inr z⟩
    · omega
    · unfold ScM at z; omega
  · rw [e (x + 88 + 2 * s) (by omega), e (x + 88 + 2 * s + 1) (by omega), e (m + 14) (by omega), e (m + 15) (by omega), e (m + 16) (by omega)]; exact s1 s hs
  · rw [e (x + 96 + 3 * s) (by omega), e (x + 96 + 3 * s + 1) (by omega), e (x + 96 + 3 * s + 1 + 1) (by omega), e (m + 17) (by omega), e (m + 18) (by omega), e (m + 19) (by omega), e (m + 20) (by omega)]; exact s2 s hs
  · rw [e (x + 80) (by omega), e m (by omega)]; exact s3.1
  · rw [e (x + 80 + 1) (by omega), e (m + 6) (by omega)]; exact s3.2 j
  · rw [e x (by omega), e m (by omega)]; exact s4.1
  · rw [e (x + 87) (by omega), e (m + 22) (by omega)]; exact s4.2 j hj
  · rw [e (m + 14) (by omega), e (m + 15) (by omega)]; exact m1.1 s hs
  · rw [e (m + 17) (by omega), e (m + 18) (by omega)]; exact m1.2.1 s hs
  · rw [e m (by omega)]; exact m1.2.2.1
  · rw [e m (by omega)]; exact m1.2.2.2.1
  · rw [e m (by omega)]; exact m1.2.2.2.2
  · rw [e (m + 16) (by omega)]; exact m2 j hj
  · rw [e (m + 7) (by omega)]; exact m3.1 j hj
  · rw [e (m + 8) (by omega)]; exact m3.2 j hj
/-- behind the class's call: the reference's answers the same, and the invariant holds again -/
def Mid (mm : Mth) (ro : Ro) (dm : Nat) (args : List Value) (x m B b j : Nat) : Option Value → St → In → Prop := fun r S1 I1 => ∃ v : Int32, r = some (.int v) ∧ S1.1 m = some (10, 0) ∧ Ok mm ro dm 0 0 (.ref m :: args) S1 I1 (fun r2 S2 I2 => r2 = some (.int v) ∧ GI S2 I2 x m B (b + 100000) (j + 1))
def CQx (S : St) (I : In) (x B T : Nat) (lw : Nat → Nat) (v : Int32) (Y : Ar) : Option Value → St → In → Prop := fun r S1 I1 => r = some (.int v) ∧ SGp (thP (x + 23) 0) S S1 ∧ VN S1 I1 (x + 1) B Y T lw ∧ ∀ a, ¬ ScC x B a → I1 a = I a
def RQx (S1 : St) (I1 : In) (m : Nat) (v : Int32) (Y : Ar) : Option Value → St → In → Prop := fun r S2 I2 => r = some (.int v) ∧ S2 = S1 ∧ I2 (m + 1) = Y ∧ ∀ a, a ≠ m + 1 → ¬ ScM m a → I2 a = I1 a
theorem LayM.th {S S2 : St} {x m : Nat} (h : LayM S m) (hm : m = x + 111) (hS : SGp (thP (x + 23) 0) S S2) : LayM S2 m := h.sp hS (fun z => by obtain ⟨i, z1, z2, z3⟩ := z; omega)
theorem mid_gen {ro : Ro} {mx mm : Mth} {dx dm : Nat} {args : List Value} {S : St} {I : In} {x m B b j : Nat} (h : GI S I x m B b j) (v : Nat → Int32) (F : Nat → Ar)
    (hO : ∀ T lw, VN S I (x + 1) B (I (m + 1)) T lw → VK (I (m + 1)) T b → RS S I x m B T b lw → Ok mx ro dx 0 0 (.ref x :: args) S I (CQx S I x B T lw (v T) (F T)))
    (hR : ∀ T S1 I1, LayM S1 m → I1 (m + 1) = I (m + 1) → VK (I (m + 1)) T b → (∀ a, ¬ ScC x B a → I1 a = I a) → MW I1 m → Ok mm ro dm 0 0 (.ref m :: args) S1 I1 (RQx S1 I1 m (v T) (F T)))
    (hK : ∀ T, VK (I (m + 1)) T b → VK (F T) T (b + 100000)) : Ok mx ro dx 0 0 (.ref x :: args) S I (Mid mm ro dm args x m B b j) := by
  obtain ⟨⟨hm, hB⟩, ⟨L, LM, hf⟩, T, lw, i0, ⟨hV, hk⟩, hr, hz, hi⟩ := h
  refine (hO T lw hV hk hr).mono ?_
  rintro r S1 I1 ⟨rfl, q1, q2, q3⟩
  have e1 : ∀ a, m ≤ a → a < m + 23 → I1 a = I a := fun a a1 a2 => q3 a (fun z => by unfold ScC stk at z; omega)
  have hM1 : MW I1 m := by
    obtain ⟨u1, u2, u3, u4, u5⟩ := hr.2.2.2.1
    refine ⟨fun s hs => ?_, fun s hs => ?_, ?_, ?_, ?_⟩
    · rw [e1 (m + 14) (by omega) (by omega), e1 (m + 15) (by omega) (by omega)]; exact u1 s hs
    · rw [e1 (m + 17) (by omega) (by omega), e1 (m + 18) (by omega) (by omega)]; exact u2 s hs
    · rw [e1 m (by omega) (by omega)]; exact u3
    · rw [e1 m (by omega) (by omega)]; exact u4
    · rw [e1 m (by omega) (by omega)]; exact u5
  refine ⟨_, rfl, (LM.th hm q1).s, (hR T S1 I1 (LM.th hm q1) (e1 _ (by omega) (by omega)) hk q3 hM1).mono ?_⟩
  rintro r2 S2 I2 ⟨rfl, rfl, w1, w2⟩
  refine ⟨rfl, ⟨hm, hB⟩, ⟨L.th q1, LM.th hm q1, fun c hc => by rw [q1.1]; exact hf c (by rw [← q1.2.2]; exact hc)⟩, T, lw, i0, ⟨?_, by rw [w1]; exact hK T hk⟩, hr.sc hm hB q1 (fun a a1 a2 a3 => by rw [w2 a a2 a3, q3 a a1]) (by omega), by rw [q1.2.2]; exact hz, by omega⟩
  rw [w1]
  refine q2.eqx (P := fun a => m ≤ a ∧ a < m + 23) (fun a ha => w2 a (fun z => ha (by omega)) (fun z => ha (by unfold ScM at z; omega))) (fun a z => by omega)
theorem qx_cq {S : St} {I : In} {x B T : Nat} {lw : Nat → Nat} {F : Int32 × Ar} {r : Option Value} {S1 : St} {I1 : In} (h : QX S I x B T lw F r S1 I1) : CQx S I x B T lw F.1 F.2 r S1 I1 := by
  obtain ⟨h1, rfl, h3, h4⟩ := h
  exact ⟨h1, SGp.rf, h3, fun a ha => h4 a (fun z => ha (by rcases z with z | z; exact Or.inl (by unfold blk at z; omega); exact Or.inr (Or.inr z)))⟩
theorem qt_cq {S : St} {I : In} {x B T : Nat} {lw : Nat → Nat} {y : Int32} {X : Ar} {r : Option Value} {S1 : St} {I1 : In} (hV : VN S I (x + 1) B X T lw) (hB : B = x + 134) (h : QT S I x B y r S1 I1) : CQx S I x B T lw y X r S1 I1 := by
  obtain ⟨h1, h2, h3⟩ := h
  refine ⟨h1, h2, (hV.eqx h3 (fun a z => ?_)).sp h2 (fun a z => by obtain ⟨i, z1, z2, z3⟩ := z; omega) (fun z => by obtain ⟨i, z1, z2, z3⟩ := z; omega), fun a ha => h3 a (fun z => ha (by rcases z with z | z; exact Or.inr (Or.inl z); exact Or.inr (Or.inr z)))⟩
  rcases z with z | z
  · omega
  · exact ⟨by unfold stk at z; omega, Or.inr z⟩
theorem ri_cq {S : St} {I : In} {x B T : Nat} {lw : Nat → Nat} {y : Int32} {X : Ar} {r : Option Value} {S1 : St} {I1 : In} (hV : VN S I (x + 1) B X T lw) (h : RI y S I r S1 I1) : CQx S I x B T lw y X r S1 I1 := by
  obtain ⟨h1, rfl, rfl⟩ := h
  exact ⟨h1, SGp.rf, hV, fun _ _ => rfl⟩
theorem ri_rq {S : St} {I : In} {m : Nat} {y : Int32} {X : Ar} {r : Option Value} {S1 : St} {I1 : In} (hX : I (m + 1) = X) (h : RI y S I r S1 I1) : RQx S I m y X r S1 I1 := by
  obtain ⟨h1, rfl, rfl⟩ := h
  exact ⟨h1, rfl, hX, fun _ _ _ => rfl⟩
theorem row_rq {S : St} {I : In} {m : Nat} {y : Int32} {X : Ar} {r : Option Value} {S1 : St} {I1 : In} (h : RI y S (row I (m + 1) X) r S1 I1) : RQx S I m y X r S1 I1 := by
  obtain ⟨h1, rfl, rfl⟩ := h
  exact ⟨h1, rfl, row_s, fun a ha _ => row_o ha⟩
theorem eq_rq {P : Nat → Prop} {S : St} {I : In} {m : Nat} {y : Int32} {X : Ar} {r : Option Value} {S1 : St} {I1 : In} (hX : I (m + 1) = X) (hP : ∀ a, P a → ScM m a) (h : r = some (.int y) ∧ S1 = S ∧ Eqx P I I1) : RQx S I m y X r S1 I1 := by
  obtain ⟨h1, rfl, h3⟩ := h
  exact ⟨h1, rfl, by rw [h3 _ (fun z => by have := hP _ z; unfold ScM at this; omega)]; exact hX, fun a _ ha => h3 a (fun z => ha (hP a z))⟩
theorem scM_S {m a : Nat} (h : scM m a) : ScM m a := by unfold scM at h; unfold ScM; omega
theorem scP_S {m a : Nat} (h : scP m a) : ScM m a := by unfold scP scM at h; unfold ScM; omega

theorem days_rq {S : St} {I : In} {m : Nat} {y : Int32} {X : Ar} {r : Option Value} {S1 : St} {I1 : In} (h : r = some (.int y) ∧ S1 = S ∧ I1 (m + 1) = X ∧ Eqx (scN m) I I1) : RQx S I m y X r S1 I1 := by
  obtain ⟨h1, rfl, h3, h4⟩ := h
  exact ⟨h1, rfl, h3, fun a ha hs => h4 a (fun z => by rcases z with z | z; exact ha z; exact hs (scM_S z))⟩
theorem g_yard {ro : Ro} {S : St} {I : In} {x m B b j : Nat} {xa xb xc : Int32} (h : GI S I x m B b j) (hb : b < 79000000) : Ok mX10_yard ro 1 0 0 (.ref x :: [.int xa, .int xb, .int xc]) S I (Mid mX11_yard ro 2 [.int xa, .int xb, .int xc] x m B b j) :=
  mid_gen h (fun T => (yardS (I (m + 1)) xa xb xc).1) (fun T => (yardS (I (m + 1)) xa xb xc).2) (fun T lw hV hk hr => ((c_X10_yard h.2.1.1 hV hk.1 (by have := h.1.2; omega)).mono (fun _ _ _ q => qx_cq q)))
    (fun T S1 I1 LM hX hk hI hM => (k_X11_yard LM (T := T) (b := b) (by rw [hX]; exact hk.1)).mono (fun _ _ _ q => row_rq (by rw [hX] at q; exact q))) (fun T hk => (vk_yard hk).mono (by omega))
theorem g_turns {ro : Ro} {S : St} {I : In} {x m B b j : Nat} {xa xb : Int32} (h : GI S I x m B b j) (hb : b < 79000000) : Ok mX10_turns ro 1 0 0 (.ref x :: [.int xa, .int xb]) S I (Mid mX11_turns ro 2 [.int xa, .int xb] x m B b j) :=
  mid_gen h (fun T => (turnsS (I (m + 1)) xa xb).1) (fun T => (turnsS (I (m + 1)) xa xb).2) (fun T lw hV hk hr => ((c_X10_turns h.2.1.1 hV hk.1 (by have := h.1.2; omega)).mono (fun _ _ _ q => qx_cq q)))
    (fun T S1 I1 LM hX hk hI hM => (k_X11_turns LM (T := T) (b := b) (by rw [hX]; exact hk.1)).mono (fun _ _ _ q => row_rq (by rw [hX] at q; exact q))) (fun T hk => (vk_turns hk).mono (by omega))
theorem g_set {ro : Ro} {S : St} {I : In} {x m B b j : Nat} {xa xb xc : Int32} (h : GI S I x m B b j) (hb : b < 79000000) : Ok mX10_set ro 1 0 0 (.ref x :: [.int xa, .int xb, .int xc]) S I (Mid mX11_set ro 2 [.int xa, .int xb, .int xc] x m B b j) :=
  mid_gen h (fun T => (setS (I (m + 1)) xa xb xc).1) (fun T => (setS (I (m + 1)) xa xb xc).2) (fun T lw hV hk hr => ((c_X10_set h.2.1.1 hV hk.1 (by have := h.1.2; omega)).mono (fun _ _ _ q => qx_cq q)))
    (fun T S1 I1 LM hX hk hI hM => (k_X11_set LM (T := T) (b := b) (by rw [hX]; exact hk.1)).mono (fun _ _ _ q => row_rq (by rw [hX] at q; exact q))) (fun T hk => (vk_set hk).mono (by omega))
theorem g_deal {ro : Ro} {S : St} {I : In} {x m B b j : Nat} {xa : Int32} (h : GI S I x m B b j) (hb : b < 79000000) : Ok mX10_deal ro 1 0 0 (.ref x :: [.int xa]) S I (Mid mX11_deal ro 2 [.int xa] x m B b j) :=
  mid_gen h (fun T => (dealS (I (m + 1)) (yn (I (m + 1))) xa).1) (fun T => (dealS (I (m + 1)) (yn (I (m + 1))) xa).2) (fun T lw hV hk hr => ((c_X10_deal h.2.1.1 hV hk.1 (by have := h.1.2; omega)).mono (fun _ _ _ q => qx_cq q)))
    (fun T S1 I1 LM hX hk hI hM => (k_X11_deal LM (T := T) (b := b) (by rw [hX]; exact hk.1)).mono (fun _ _ _ q => row_rq (by rw [hX] at q; exact q))) (fun T hk => (vk_deal hk).mono (by omega))
theorem g_seed {ro : Ro} {S : St} {I : In} {x m B b j : Nat} {xa : Int32} (h : GI S I x m B b j) (hb : b < 79000000) : Ok mX10_seed ro 0 0 0 (.ref x :: [.int xa]) S I (Mid mX11_seed ro 1 [.int xa] x m B b j) :=
  mid_gen h (fun T => (((I (m + 1)) 0, upd (I (m + 1)) 0 xa)).1) (fun T => (((I (m + 1)) 0, upd (I (m + 1)) 0 xa)).2) (fun T lw hV hk hr => ((c_X10_seed h.2.1.1 hV hk.1 (by have := h.1.2; omega)).mono (fun _ _ _ q => qx_cq q)))
    (fun T S1 I1 LM hX hk hI hM => (k_X11_seed LM (T := T) (b := b) (by rw [hX]; exact hk.1)).mono (fun _ _ _ q => row_rq (by rw [hX] at q; exact q))) (fun T hk => (vk_seed hk).mono (by omega))
theorem g_rule {ro : Ro} {S : St} {I : In} {x m B b j : Nat} {xa xb : Int32} (h : GI S I x m B b j) (hb : b < 79000000) : Ok mX10_rule ro 0 0 0 (.ref x :: [.int xa, .int xb]) S I (Mid mX11_rule ro 1 [.int xa, .int xb] x m B b j) :=
  mid_gen h (fun T => (ruleS (I (m + 1)) xa xb).1) (fun T => (ruleS (I (m + 1)) xa xb).2) (fun T lw hV hk hr => ((c_X10_rule h.2.1.1 hV hk.1 (by have := h.1.2; omega)).mono (fun _ _ _ q => qx_cq q)))
    (fun T S1 I1 LM hX hk hI hM => (k_X11_rule LM (T := T) (b := b) (by rw [hX]; exact hk.1)).mono (fun _ _ _ q => row_rq (by rw [hX] at q; exact q))) (fun T hk => (vk_rule hk).mono (by omega))
theorem g_at {ro : Ro} {S : St} {I : In} {x m B b j : Nat} {xa : Int32} (h : GI S I x m B b j) (hb : b < 79000000) : Ok mX10_at ro 1 0 0 (.ref x :: [.int xa]) S I (Mid mX11_at ro 2 [.int xa] x m B b j) :=
  mid_gen h (fun T => (atS (I (m + 1)) xa).1) (fun T => (atS (I (m + 1)) xa).2) (fun T lw hV hk hr => ((c_X10_at h.2.1.1 hV hk.1 (by have := h.1.2; omega)).mono (fun _ _ _ q => qx_cq q)))
    (fun T S1 I1 LM hX hk hI hM => (k_X11_at LM (T := T) (b := b) (by rw [hX]; exact hk.1)).mono (fun _ _ _ q => row_rq (by rw [hX] at q; exact q))) (fun T hk => (vk_at hk).mono (by omega))
theorem g_pack {ro : Ro} {S : St} {I : In} {x m B b j : Nat} {xa xb : Int32} (h : GI S I x m B b j) (hb : b < 79000000) : Ok mX10_pack ro 1 0 0 (.ref x :: [.int xa, .int xb]) S I (Mid mX11_pack ro 2 [.int xa, .int xb] x m B b j) :=
  mid_gen h (fun T => (packS (I (m + 1)) (ln (I (m + 1))) xa xb).1) (fun T => (packS (I (m + 1)) (ln (I (m + 1))) xa xb).2) (fun T lw hV hk hr => ((c_X10_pack h.2.1.1 hV hk.1 (by have := h.1.2; omega)).mono (fun _ _ _ q => qx_cq q)))
    (fun T S1 I1 LM hX hk hI hM => (k_X11_pack LM (T := T) (b := b) (by rw [hX]; exact hk.1)).mono (fun _ _ _ q => row_rq (by rw [hX] at q; exact q))) (fun T hk => (vk_pack hk).mono (by omega))
theorem g_lose {ro : Ro} {S : St} {I : In} {x m B b j : Nat} {xa : Int32} (h : GI S I x m B b j) (hb : b < 79000000) : Ok mX10_lose ro 1 0 0 (.ref x :: [.int xa]) S I (Mid mX11_lose ro 2 [.int xa] x m B b j) :=
  mid_gen h (fun T => (loseS (I (m + 1)) xa).1) (fun T => (loseS (I (m + 1)) xa).2) (fun T lw hV hk hr => ((c_X10_lose h.2.1.1 hV hk.1 (by have := h.1.2; omega)).mono (fun _ _ _ q => qx_cq q)))
    (fun T S1 I1 LM hX hk hI hM => (k_X11_lose LM (T := T) (b := b) (by rw [hX]; exact hk.1)).mono (fun _ _ _ q => row_rq (by rw [hX] at q; exact q))) (fun T hk => (vk_lose hk).mono (by omega))
theorem g_find {ro : Ro} {S : St} {I : In} {x m B b j : Nat} {xa : Int32} (h : GI S I x m B b j) (hb : b < 79000000) : Ok mX10_find ro 1 0 0 (.ref x :: [.int xa]) S I (Mid mX11_find ro 2 [.int xa] x m B b j) :=
  mid_gen h (fun T => (findS (I (m + 1)) xa).1) (fun T => (findS (I (m + 1)) xa).2) (fun T lw hV hk hr => ((c_X10_find h.2.1.1 hV hk.1 (by have := h.1.2; omega)).mono (fun _ _ _ q => qx_cq q)))
    (fun T S1 I1 LM hX hk hI hM => (k_X11_find LM (T := T) (b := b) (by rw [hX]; exact hk.1)).mono (fun _ _ _ q => row_rq (by rw [hX] at q; exact q))) (fun T hk => (vk_find hk).mono (by omega))
theorem g_told {ro : Ro} {S : St} {I : In} {x m B b j : Nat} {xa xb : Int32} (h : GI S I x m B b j) (hb : b < 79000000) : Ok mX10_told ro 3 0 0 (.ref x :: [.int xa, .int xb]) S I (Mid mX11_told ro 3 [.int xa, .int xb] x m B b j) :=
  mid_gen h (fun T => toldS (I (m + 1)) T (ln (I (m + 1))) xa xb) (fun T => (I (m + 1))) (fun T lw hV hk hr => ((c_X10_told h.2.1.1 hV hk.1 (by have := h.1.2; omega)).mono (fun _ _ _ q => qx_cq q)))
    (fun T S1 I1 LM hX hk hI hM => (k_X11_told LM (T := T) (b := b) (by rw [hX]; exact hk.1)).mono (fun _ _ _ q => eq_rq hX (fun _ z => scM_S z) (by rw [hX] at q; exact q))) (fun T hk => hk.mono (by omega))
theorem g_as {ro : Ro} {S : St} {I : In} {x m B b j : Nat} {xa xb : Int32} (h : GI S I x m B b j) (hb : b < 79000000) : Ok mX10_as ro 2 0 0 (.ref x :: [.int xa, .int xb]) S I (Mid mX11_as ro 2 [.int xa, .int xb] x m B b j) :=
  mid_gen h (fun T => asS (I (m + 1)) xa xb) (fun T => (I (m + 1))) (fun T lw hV hk hr => ((c_X10_as h.2.1.1 hV hk.1 (by have := h.1.2; omega)).mono (fun _ _ _ q => qx_cq q)))
    (fun T S1 I1 LM hX hk hI hM => (k_X11_as LM (T := T) (b := b) (by rw [hX]; exact hk.1)).mono (fun _ _ _ q => ri_rq hX (by rw [hX] at q; exact q))) (fun T hk => hk.mono (by omega))
theorem g_ball {ro : Ro} {S : St} {I : In} {x m B b j : Nat} {xa : Int32} (h : GI S I x m B b j) (hb : b < 79000000) : Ok mX10_ball ro 3 0 0 (.ref x :: [.int xa]) S I (Mid mX11_ball ro 3 [.int xa] x m B b j) :=
  mid_gen h (fun T => ballS (I (m + 1)) T (ln (I (m + 1))) xa) (fun T => (I (m + 1))) (fun T lw hV hk hr => ((c_X10_ball h.2.1.1 hV hk.1 (by have := h.1.2; omega)).mono (fun _ _ _ q => qx_cq q)))
    (fun T S1 I1 LM hX hk hI hM => (k_X11_ball LM (T := T) (b := b) (by rw [hX]; exact hk.1)).mono (fun _ _ _ q => eq_rq hX (fun _ z => scM_S z) (by rw [hX] at q; exact q))) (fun T hk => hk.mono (by omega))
theorem g_layer {ro : Ro} {S : St} {I : In} {x m B b j : Nat} {xa xb : Int32} (h : GI S I x m B b j) (hb : b < 79000000) : Ok mX10_layer ro 0 0 0 (.ref x :: [.int xa, .int xb]) S I (Mid mX11_layer ro 1 [.int xa, .int xb] x m B b j) :=
  mid_gen h (fun T => layerS (I (m + 1)) xa xb) (fun T => (I (m + 1))) (fun T lw hV hk hr => ((c_X10_layer h.2.1.1 hV hk.1 (by have := h.1.2; omega)).mono (fun _ _ _ q => qx_cq q)))
    (fun T S1 I1 LM hX hk hI hM => (k_X11_layer LM (T := T) (b := b) (by rw [hX]; exact hk.1)).mono (fun _ _ _ q => ri_rq hX (by rw [hX] at q; exact q))) (fun T hk => hk.mono (by omega))
theorem g_thing {ro : Ro} {S : St} {I : In} {x m B b j : Nat} {xa : Int32} (h : GI S I x m B b j) (hb : b < 79000000) : Ok mX10_thing ro 1 0 0 (.ref x :: [.int xa]) S I (Mid mX11_thing ro 2 [.int xa] x m B b j) :=
  mid_gen h (fun T => thingS (I (m + 1)) xa) (fun T => (I (m + 1))) (fun T lw hV hk hr => ((c_X10_thing h.2.1.1 hV hk.1 (by have := h.1.2; omega)).mono (fun _ _ _ q => qx_cq q)))
    (fun T S1 I1 LM hX hk hI hM => (k_X11_thing LM (T := T) (b := b) (by rw [hX]; exact hk.1)).mono (fun _ _ _ q => ri_rq hX (by rw [hX] at q; exact q))) (fun T hk => hk.mono (by omega))
theorem g_most {ro : Ro} {S : St} {I : In} {x m B b j : Nat} (h : GI S I x m B b j) (hb : b < 79000000) : Ok mX10_most ro 1 0 0 (.ref x :: []) S I (Mid mX11_most ro 1 [] x m B b j) :=
  mid_gen h (fun T => mostS (I (m + 1)) (yn (I (m + 1))) (ln (I (m + 1)))) (fun T => (I (m + 1))) (fun T lw hV hk hr => ((c_X10_most h.2.1.1 hV hk.1 (by have := h.1.2; omega)).mono (fun _ _ _ q => qx_cq q)))
    (fun T S1 I1 LM hX hk hI hM => (k_X11_most LM (T := T) (b := b) (by rw [hX]; exact hk.1)).mono (fun _ _ _ q => ri_rq hX (by rw [hX] at q; exact q))) (fun T hk => hk.mono (by omega))
theorem g_fine {ro : Ro} {S : St} {I : In} {x m B b j : Nat} {xa : Int32} (h : GI S I x m B b j) (hb : b < 79000000) : Ok mX10_fine ro 3 0 0 (.ref x :: [.int xa]) S I (Mid mX11_fine ro 2 [.int xa] x m B b j) :=
  mid_gen h (fun T => fineS (I (m + 1)) T (ln (I (m + 1))) xa) (fun T => (I (m + 1))) (fun T lw hV hk hr => ((c_X10_fine h.2.1.1 hV hk.1 (by have := h.1.2; omega)).mono (fun _ _ _ q => qx_cq q)))
    (fun T S1 I1 LM hX hk hI hM => (k_X11_fine LM (T := T) (b := b) (by rw [hX]; exact hk.1)).mono (fun _ _ _ q => eq_rq hX (fun _ z => scM_S z) (by rw [hX] at q; exact q))) (fun T hk => hk.mono (by omega))
theorem g_behind {ro : Ro} {S : St} {I : In} {x m B b j : Nat} {xa xb : Int32} (h : GI S I x m B b j) (hb : b < 79000000) : Ok mX10_behind ro 6 0 0 (.ref x :: [.int xa, .int xb]) S I (Mid mX11_behind ro 6 [.int xa, .int xb] x m B b j) :=
  mid_gen h (fun T => if (inn xa 0 100 && inn xb 0 3) = true then behR (I (m + 1)) T (yn (I (m + 1))) xa.toNatClampNeg xb else -1000000001) (fun T => (I (m + 1))) (fun T lw hV hk hr => ((c_X10_behind h.2.1.1 hV hk.1 (by have := h.1.2; omega) hk.2.1 (by omega)).mono (fun _ _ _ q => qt_cq hV h.1.2 q)))
    (fun T S1 I1 LM hX hk hI hM => (k_X11_behind LM (T := T) (b := b) (by rw [hX]; exact hk.1) (by rw [hX]; exact hk.2.1) (by omega)).mono (fun _ _ _ q => eq_rq hX (fun _ z => scP_S z) (by rw [hX] at q; exact q))) (fun T hk => hk.mono (by omega))
theorem g_gone {ro : Ro} {S : St} {I : In} {x m B b j : Nat} (h : GI S I x m B b j) (hb : b < 79000000) : Ok mX10_gone ro 6 0 0 (.ref x :: []) S I (Mid mX11_gone ro 6 [] x m B b j) :=
  mid_gen h (fun T => goneF (I (m + 1)) T (yn (I (m + 1))) 301 0) (fun T => (I (m + 1))) (fun T lw hV hk hr => ((c_X10_gone h.2.1.1 hV hk.1 (by have := h.1.2; omega) hk.2.1 (by omega)).mono (fun _ _ _ q => qt_cq hV h.1.2 q)))
    (fun T S1 I1 LM hX hk hI hM => (k_X11_gone LM (T := T) (b := b) (by rw [hX]; exact hk.1) (by rw [hX]; exact hk.2.1) (by omega)).mono (fun _ _ _ q => eq_rq hX (fun _ z => scP_S z) (by rw [hX] at q; exact q))) (fun T hk => hk.mono (by omega))
theorem g_way {ro : Ro} {S : St} {I : In} {x m B b j : Nat} {xa xb : Int32} (h : GI S I x m B b j) (hb : b < 79000000) : Ok mX10_way ro 11 0 0 (.ref x :: [.int xa, .int xb]) S I (Mid mX11_way ro 7 [.int xa, .int xb] x m B b j) :=
  mid_gen h (fun T => wayS (I (m + 1)) T (yn (I (m + 1))) xa xb) (fun T => (I (m + 1))) (fun T lw hV hk hr => ((c_X10_way h.2.1.1 hV hk.1 (by have := h.1.2; omega) (by omega)).mono (fun _ _ _ q => qt_cq hV h.1.2 q)))
    (fun T S1 I1 LM hX hk hI hM => (k_X11_way LM (T := T) (b := b) (by rw [hX]; exact hk.1) (by omega)).mono (fun _ _ _ q => eq_rq hX (fun _ z => scP_S z) (by rw [hX] at q; exact q))) (fun T hk => hk.mono (by omega))
theorem g_why {ro : Ro} {S : St} {I : In} {x m B b j : Nat} {xa : Int32} (h : GI S I x m B b j) (hb : b < 79000000) : Ok mX10_why ro 0 0 0 (.ref x :: [.int xa]) S I (Mid mX11_why ro 1 [.int xa] x m B b j) :=
  mid_gen h (fun T => whyM (I (m + 1)) T xa) (fun T => (I (m + 1))) (fun T lw hV hk hr => ((c_X10_why h.2.1.1 hV hk.1 ).mono (fun _ _ _ q => ri_cq hV q)))
    (fun T S1 I1 LM hX hk hI hM => (k_X11_why LM (T := T) (b := b) (by rw [hX]; exact hk.1)).mono (fun _ _ _ q => ri_rq hX (by rw [hX] at q; exact q))) (fun T hk => hk.mono (by omega))
theorem g_textTold {ro : Ro} {S : St} {I : In} {x m B b j : Nat} {xa xb : Int32} (h : GI S I x m B b j) (hb : b < 79000000) : Ok mX10_textTold ro 0 0 0 (.ref x :: [.int xa, .int xb]) S I (Mid mX11_textTold ro 1 [.int xa, .int xb] x m B b j) :=
  mid_gen h (fun T => textToldM (I (m + 1)) xa xb) (fun T => (I (m + 1))) (fun T lw hV hk hr => ((c_X10_textTold h.2.1.1 hV hk.1 hr.1).mono (fun _ _ _ q => ri_cq hV q)))
    (fun T S1 I1 LM hX hk hI hM => (k_X11_textTold LM (T := T) (b := b) (by rw [hX]; exact hk.1)).mono (fun _ _ _ q => ri_rq hX (by rw [hX] at q; exact q))) (fun T hk => hk.mono (by omega))
theorem g_days {ro : Ro} {S : St} {I : In} {x m B b j : Nat} {xa : Int32} (h : GI S I x m B b j) (hb : b < 79000000) : Ok mX10_days ro 6 0 0 (.ref x :: [.int xa]) S I (Mid mX11_days ro 6 [.int xa] x m B b j) :=
  mid_gen h (fun T => (daysS (I (m + 1)) T (yn (I (m + 1))) xa).1) (fun T => (daysS (I (m + 1)) T (yn (I (m + 1))) xa).2) (fun T lw hV hk hr => ((c_X10_days h.2.1.1 hV hk.1 (by have := h.1.2; omega) hk.2.1 hk.2.2.1 (by omega)).mono (fun _ _ _ q => qx_cq q)))
    (fun T S1 I1 LM hX hk hI hM => (k_X11_days LM (T := T) (b := b) (by rw [hX]; exact hk.1) (by omega) (by rw [hX]; exact hk.2.1)).mono (fun _ _ _ q => days_rq (by rw [hX] at q; exact q))) (fun T hk => (vk_days hk (by omega)).mono (by omega))
theorem blk_I {I I1 : In} {x m B : Nat} (hm : m = x + 111) (hB : B = x + 134) (hI : ∀ a, ¬ ScC x B a → I1 a = I a) : ∀ a, m ≤ a → a < m + 23 → I1 a = I a := fun a a1 a2 => hI a (fun z => by unfold ScC stk at z; omega)
theorem g_warmed {ro : Ro} {S : St} {I : In} {x m B b j : Nat} {xa xb : Int32} (h : GI S I x m B b j) (hb : b < 79000000) : Ok mX10_warmed ro 7 0 0 (.ref x :: [.int xa, .int xb]) S I (Mid mX11_warmed ro 7 [.int xa, .int xb] x m B b j) :=
  mid_gen h (fun T => warmS I m T (yn (I (m + 1))) xa xb) (fun T => (I (m + 1))) (fun T lw hV hk hr => ((c_X10_warmed h.2.1.1 hV hk.1 (by have := h.1.2; omega) rfl hr.2.2.1.1 hr.2.2.2.1 hr.2.2.2.2.1 hk.2.1 (by omega)).mono (fun _ _ _ q => qt_cq hV h.1.2 q)))
    (fun T S1 I1 LM hX hk hI hM => (k_X11_warmed LM (T := T) (b := b) (by rw [hX]; exact hk.1) hM (by rw [hX]; exact hk.2.1) (by omega)).mono (fun _ _ _ q => eq_rq hX (fun _ z => scP_S z) (by have e := blk_I h.1.1 h.1.2 hI; unfold warmS at q ⊢; rw [hX, e (m + 14) (by omega) (by omega), e (m + 15) (by omega) (by omega), e (m + 16) (by omega) (by omega)] at q; exact q))) (fun T hk => hk.mono (by omega))
theorem g_reads {ro : Ro} {S : St} {I : In} {x m B b j : Nat} {xa : Int32} (h : GI S I x m B b j) (hb : b < 79000000) : Ok mX10_reads ro 1 0 0 (.ref x :: [.int xa]) S I (Mid mX11_reads ro 2 [.int xa] x m B b j) :=
  mid_gen h (fun T => readsM I m (ln (I (m + 1))) xa) (fun T => (I (m + 1))) (fun T lw hV hk hr => ((c_X10_reads h.2.1.1 hV hk.1 (by have := h.1.2; omega) rfl hr.2.2.1.1 hr.2.2.2.1).mono (fun _ _ _ q => qx_cq q)))
    (fun T S1 I1 LM hX hk hI hM => (k_X11_reads (l := ln (I (m + 1))) LM hM (by rw [hX]; exact hk.1.2.2.1) hk.1.2.2.2.1).mono (fun _ _ _ q => ri_rq hX (by have e := blk_I h.1.1 h.1.2 hI; unfold readsM at q ⊢; rw [hX, e (m + 14) (by omega) (by omega), e (m + 15) (by omega) (by omega), e (m + 16) (by omega) (by omega)] at q; exact q))) (fun T hk => hk.mono (by omega))
theorem pour_rq {S : St} {I J : In} {m n : Nat} {a : Int32} {r : Option Value} {S1 : St} {I1 : In} (e : ∀ c, m ≤ c → c < m + 23 → I c = J c) (h : RI (pourM I m n a).1 S (pourM I m n a).2 r S1 I1) : RQx S I m (pourM J m n a).1 ((pourM J m n a).2 (m + 1)) r S1 I1 := by
  obtain ⟨h1, rfl, rfl⟩ := h
  have e1 := e (m + 1) (by omega) (by omega)
  have e14 := e (m + 14) (by omega) (by omega)
  have e15 := e (m + 15) (by omega) (by omega)
  have e16 := e (m + 16) (by omega) (by omega)
  have k : (pourM I m n a).1 = (pourM J m n a).1 ∧ (pourM I m n a).2 (m + 1) = (pourM J m n a).2 (m + 1) ∧ ∀ c, c ≠ m + 1 → (pourM I m n a).2 c = I c := by
    unfold pourM
    rw [e1, e14, e15, e16]
    by_cases q : inn a 0 3 = true
    · rw [if_pos q, if_pos q]
      by_cases q2 : 0 ≤ J (m + 14) a.toNatClampNeg
      · rw [if_pos q2, if_pos q2]
        exact ⟨rfl, by show row I (m + 1) _ (m + 1) = row J (m + 1) _ (m + 1); rw [row_s, row_s], fun c hc => row_o hc⟩
      · rw [if_neg q2, if_neg q2]; exact ⟨rfl, e1, fun c _ => rfl⟩
    · rw [if_neg q, if_neg q]; exact ⟨rfl, e1, fun c _ => rfl⟩
  exact ⟨by rw [h1, k.1], rfl, k.2.1, fun c hc _ => k.2.2 c hc⟩
theorem vk_pourM {I : In} {m T b : Nat} {a : Int32} (h : VK (I (m + 1)) T b) : VK ((pourM I m (yn (I (m + 1))) a).2 (m + 1)) T b := by
  unfold pourM
  by_cases q : inn a 0 3 = true
  · rw [if_pos q]
    by_cases q2 : 0 ≤ I (m + 14) a.toNatClampNeg
    · rw [if_pos q2]
      show VK (row I (m + 1) _ (m + 1)) T b
      rw [row_s]
      exact vk_pour h (Nat.min_le_right _ _)
    · rw [if_neg q2]; exact h
  · rw [if_neg q]; exact h
theorem g_pour {ro : Ro} {S : St} {I : In} {x m B b j : Nat} {xa : Int32} (h : GI S I x m B b j) (hb : b < 79000000) : Ok mX10_pour ro 2 0 0 (.ref x :: [.int xa]) S I (Mid mX11_pour ro 2 [.int xa] x m B b j) :=
  mid_gen h (fun T => (pourM I m (yn (I (m + 1))) xa).1) (fun T => (pourM I m (yn (I (m + 1))) xa).2 (m + 1)) (fun T lw hV hk hr => ((c_X10_pour h.2.1.1 hV hk.1 (by have := h.1.2; omega) rfl hr.2.2.1.1 hr.2.2.2.1).mono (fun _ _ _ q => qx_cq q)))
    (fun T S1 I1 LM hX hk hI hM => (k_X11_pour (n := yn (I (m + 1))) LM hM (by rw [hX]; exact hk.1.1) hk.1.2.1).mono (fun _ _ _ q => pour_rq (blk_I h.1.1 h.1.2 hI) q)) (fun T hk => (vk_pourM hk).mono (by omega))
theorem g_ask {ro : Ro} {S : St} {I : In} {x m B b j : Nat} {xa xb : Int32} (h : GI S I x m B b j) (hb : b < 79000000) : Ok mX10_ask ro 2 0 0 (.ref x :: [.int xa, .int xb]) S I (Mid mX11_ask ro 2 [.int xa, .int xb] x m B b j) :=
  mid_gen h (fun T => askM I m xa xb) (fun T => (I (m + 1))) (fun T lw hV hk hr => ((c_X10_ask h.2.1.1 hr.2.2.1.2.1 hr.2.2.2.1).mono (fun _ _ _ q => ri_cq hV q)))
    (fun T S1 I1 LM hX hk hI hM => (k_X11_ask LM hM).mono (fun _ _ _ q => ri_rq hX (by have e := blk_I h.1.1 h.1.2 hI; unfold askM at q ⊢; rw [e (m + 17) (by omega) (by omega), e (m + 18) (by omega) (by omega), e (m + 19) (by omega) (by omega)] at q; exact q))) (fun T hk => hk.mono (by omega))
theorem g_item {ro : Ro} {S : St} {I : In} {x m B b j : Nat} {xa xb : Int32} (h : GI S I x m B b j) (hb : b < 79000000) : Ok mX10_item ro 1 0 0 (.ref x :: [.int xa, .int xb]) S I (Mid mX11_item ro 2 [.int xa, .int xb] x m B b j) :=
  mid_gen h (fun T => itemM I m xa xb) (fun T => (I (m + 1))) (fun T lw hV hk hr => ((c_X10_item h.2.1.1 hr.2.2.1.2.1 hr.2.2.2.1).mono (fun _ _ _ q => ri_cq hV q)))
    (fun T S1 I1 LM hX hk hI hM => (k_X11_item LM hM).mono (fun _ _ _ q => ri_rq hX (by have e := blk_I h.1.1 h.1.2 hI; unfold itemM at q ⊢; rw [e (m + 17) (by omega) (by omega), e (m + 18) (by omega) (by omega), e (m + 20) (by omega) (by omega)] at q; exact q))) (fun T hk => hk.mono (by omega))
theorem g_rest {ro : Ro} {S : St} {I : In} {x m B b j : Nat} {xa xb : Int32} (h : GI S I x m B b j) (hb : b < 79000000) : Ok mX10_rest ro 1 0 0 (.ref x :: [.int xa, .int xb]) S I (Mid mX11_rest ro 2 [.int xa, .int xb] x m B b j) :=
  mid_gen h (fun T => restM I m xa xb) (fun T => (I (m + 1))) (fun T lw hV hk hr => ((c_X10_rest h.2.1.1 hr.2.2.1.2.1 hr.2.2.2.1).mono (fun _ _ _ q => ri_cq hV q)))
    (fun T S1 I1 LM hX hk hI hM => (k_X11_rest LM hM).mono (fun _ _ _ q => ri_rq hX (by have e := blk_I h.1.1 h.1.2 hI; unfold restM at q ⊢; rw [e (m + 17) (by omega) (by omega), e (m + 18) (by omega) (by omega)] at q; exact q))) (fun T hk => hk.mono (by omega))
theorem g_count {ro : Ro} {S : St} {I : In} {x m B b j : Nat} {xa : Int32} (h : GI S I x m B b j) (hb : b < 79000000) : Ok mX10_count ro 1 0 0 (.ref x :: [.int xa]) S I (Mid mX11_count ro 2 [.int xa] x m B b j) :=
  mid_gen h (fun T => countM I m (yn (I (m + 1))) xa) (fun T => (I (m + 1))) (fun T lw hV hk hr => ((c_X10_count h.2.1.1 hV hk.1 rfl hr.2.2.1.2.2.2.1 hr.2.2.1.2.2.1.1).mono (fun _ _ _ q => ri_cq hV q)))
    (fun T S1 I1 LM hX hk hI hM => (k_X11_count LM (T := T) (b := b) (by rw [hX]; exact hk.1)).mono (fun _ _ _ q => ri_rq hX (by have e := blk_I h.1.1 h.1.2 hI; unfold countM at q ⊢; rw [hX, e m (by omega) (by omega)] at q; exact q))) (fun T hk => hk.mono (by omega))
