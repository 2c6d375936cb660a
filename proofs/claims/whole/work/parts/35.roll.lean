/-! ===== Village.roll ===== -/
theorem v_tp {own : String} {cc : ByteArray} {nL : Nat} {ret : Option FieldType} {nm : String} {ro : Ro} {R : Room} {Qf : Wd → List Frame → Array Value → State → State → Prop} {cells slots pc : Nat} {al st : List Value} {S : St} {I : In} {x y : Int32} (h : x = y) (kk : V own cc nL ret nm ro R Qf cells slots pc al (.int y :: st) S I) : V own cc nL ret nm ro R Qf cells slots pc al (.int x :: st) S I := h ▸ kk
theorem cnt_cong {X Y : Ar} {k : Int32} : ∀ T, (∀ j, 116 ≤ j → Y j = X j) → cnt Y k T = cnt X k T
  | 0, _ => rfl
  | T + 1, h => by rw [cnt, cnt, h (116 + 2 * T) (by omega), cnt_cong T h]
theorem txt_cong {X Y : Ar} {T : Nat} {k d : Int32} {f : Ar} (h : ∀ j, 116 ≤ j → Y j = X j) : txt Y T k f d = txt X T k f d := by
  unfold txt wkO
  rw [cnt_cong T h, h (116 + 2 * (cnt X k T).toNatClampNeg) (by omega), show (fun j => Y (144 + 96 * (cnt X k T).toNatClampNeg + j)) = fun j => X (144 + 96 * (cnt X k T).toNatClampNeg + j) from funext fun j => h _ (by omega)]
theorem wide_cong {X Y : Ar} {T l : Nat} (hl : l ≤ 30) (h : ∀ j, j ≠ 6 → (j < 76 ∨ 116 ≤ j) → Y j = X j) : wideX Y T l = wideX X T l := by
  unfold wideX
  rw [wS_cong (X := X) (Y := Y) l (fun i hi => h _ (by omega) (by omega)), h 7 (by decide) (by decide), txt_cong (fun j hj => h j (by omega) (by omega))]
theorem sq_rel {J : In} {r n T l y : Nat} {X : Ar} {w : Int32} (h : RgR J r X n) (hy : y < n) (hw : wideX X T l = w) : (if J (r + 3) y < w then 1 else 0) = passN X T l y ∧ RgR (if J (r + 3) y < w then setI (setI J (r + 4) y (J (r + 4) y + 1)) (r + 3) y w else J) r (passX X T l y) n := by
  have e := (h.2 y hy).2.2.1
  rw [passN, passX, e, hw]
  refine ⟨rfl, ?_⟩
  by_cases q : X (76 + 4 * y + 2) < w
  · rw [if_pos q, if_pos q]
    refine ⟨by rw [sI_o (by omega), sI_o (by omega)]; exact h.1, fun z hz => ?_⟩
    rw [sI_o (by omega), sI_o (by omega), sI_o (by omega), sI_o (by omega), sI_o (b := r + 4) (by omega), pk_un (by omega), pk_un (by omega), pk_un (by omega), pk_un (by omega)]
    refine ⟨(h.2 z hz).1, (h.2 z hz).2.1, ?_, ?_⟩
    · by_cases c : z = y
      · subst c; rw [sI_s, pk_un (by omega), pk_us]
      · rw [sI_k c, sI_o (by omega), pk_un (by omega), pk_un (by omega)]; exact (h.2 z hz).2.2.1
    · by_cases c : z = y
      · subst c; rw [sI_s, pk_us, (h.2 z hz).2.2.2]
      · rw [sI_k c, pk_un (by omega), pk_un (by omega)]; exact (h.2 z hz).2.2.2
  · rw [if_neg q, if_neg q]; exact h
theorem sq_eqx {I J : In} {r y : Nat} {w : Int32} {P : Nat → Prop} (h : Eqx P I J) (h3 : P (r + 3)) (h4 : P (r + 4)) : Eqx P I (if J (r + 3) y < w then setI (setI J (r + 4) y (J (r + 4) y + 1)) (r + 3) y w else J) := by
  split
  · exact (h.set h4).set h3
  · exact h
theorem sq_o {J : In} {r y a : Nat} {w : Int32} (h3 : a ≠ r + 3) (h4 : a ≠ r + 4) : (if J (r + 3) y < w then setI (setI J (r + 4) y (J (r + 4) y + 1)) (r + 3) y w else J) a = J a := by
  split
  · rw [setI_ne h3, setI_ne h4]
  · rfl
theorem RgR.set {J : In} {r n a k : Nat} {X : Ar} {x z : Int32} {u : Nat} (h : RgR J r X n) (ha : a < r ∨ r + 5 ≤ a) (hu : u < 76) : RgR (setI J a k x) r (upd X u z) n := by
  refine ⟨by rw [sI_o (by omega)]; exact h.1, fun y hy => ?_⟩
  rw [sI_o (by omega), sI_o (by omega), sI_o (by omega), sI_o (by omega), pk_un (by omega), pk_un (by omega), pk_un (by omega), pk_un (by omega)]
  exact h.2 y hy
def rlP (v a : Nat) : Prop := a = v + 4 ∨ a = v + 5 ∨ a = v + 6
def rlF (I J : In) (v : Nat) : Prop := Eqx (rlP v) I J ∧ ∀ j, j ≠ 5 → J (v + 6) j = I (v + 6) j

theorem bk_1 {p n : Nat} (h0 : 0 < p) (h : p < n) (hn : n ≤ 10) : nI p - 1 = (nI p + nI n - 1) % nI n := by
  rw [nI_add, nI_p1 (by omega), nI_p1 (by omega), rem_nI (by omega) (by omega) (by omega)]
  congr 1
  rw [show p + n - 1 = (p - 1) + n by omega, Nat.add_mod_right, Nat.mod_eq_of_lt (by omega)]
theorem bk_0 {p n : Nat} (h0 : p = 0) (h : p < n) (hn : n ≤ 10) : nI (n - 1) = (nI p + nI n - 1) % nI n := by
  rw [nI_add, nI_p1 (by omega), rem_nI (by omega) (by omega) (by omega)]
  congr 1
  rw [h0, Nat.zero_add, Nat.mod_eq_of_lt (by omega)]
theorem fw_1 {p n : Nat} (h : p < n - 1) (hn : n ≤ 10) : nI p + 1 = (nI p + 1) % nI n := by
  rw [nI_1, rem_nI (by omega) (by omega) (by omega), Nat.mod_eq_of_lt (by omega)]
theorem fw_0 {p n : Nat} (h : n - 1 ≤ p) (h2 : p < n) (hn : n ≤ 10) : (0 : Int32) = (nI p + 1) % nI n := by
  rw [nI_1, rem_nI (by omega) (by omega) (by omega), show p + 1 = n by omega, Nat.mod_self]; rfl

set_option maxRecDepth 100000 in
set_option maxHeartbeats 1000000 in
theorem l82_X9_roll {ro : Ro} {S : St} {I : In} {c : Int32} {v n p T l : Nat} {X : Ar} {st w : Int32} (L : LayV S v) (h1 : X 1 = nI n) (hn : n ≤ 10) (h6 : X 6 = nI p) (hp : p < n) (hl : l ≤ 30) (hst : -20 ≤ st.toInt ∧ st.toInt ≤ 20) (hw : wideX X T l = w) : ∀ k i, i ≤ (-st).toNatClampNeg → (-st).toNatClampNeg < i + k → ∀ J, RgR J (v + 1) (bwX X T l i) n → J (v + 6) 5 = bwX X T l i 6 → rlF I J v → V RX9 cX9_roll 6 (some .int) "roll" ro (rmD 2 0 0) (QM 0 0 (fun r S' I' => r = some (.int (bwN X T l c (-st).toNatClampNeg)) ∧ S' = S ∧ RgR I' (v + 1) (bwX X T l (-st).toNatClampNeg) n ∧ I' (v + 6) 5 = (bwX X T l (-st).toNatClampNeg) 6 ∧ rlF I I' v)) 0 0 82 [.ref v, .int st, .int w, .int (nI (n - 1)), .int (bwN X T l c i), .int (-(nI i))] [] S J := by
  have hb20 := negN2 hst
  intro k
  induction k with
  | zero => intro i hi hk; exact absurd hk (by omega)
  | succ k ih =>
    intro i hi hk J hR hP hF
    refine v_iload (n := 84) dX9_roll_82 rfl rfl ?_
    refine v_iload_n (n := 85) dX9_roll_84 rfl rfl rfl ?_
    refine v_icmp_le (n := 88) (tgt := 144) dX9_roll_85 (by decide) rfl (fun hq85 => ?_) (fun hq85 => ?_)
    · have hbi : i = (-st).toNatClampNeg := by
        have := neg_le hq85 (by omega) hst
        omega
      refine v_iload (n := 146) dX9_roll_144 rfl rfl ?_
      subst hbi
      exact v_iret rfl ⟨rfl, rfl, hR, hP, hF⟩ ⟨l8 rfl, l8 rfl⟩ dX9_roll_146
    · have hlt := nneg_le hq85 (by omega) hst
      obtain ⟨⟨p1, hp1, hp6⟩, hkeep⟩ := bw_spec (T := T) (l := l) h1 hn h6 hp i
      have hk1 : bwX X T l i 1 = nI n := (hkeep 1 (by decide) (by decide)).trans h1
      obtain ⟨p2, hp2, hpk⟩ := bk_spec hk1 hn hp6 hp1
      refine v_aload_n (n := 89) dX9_roll_88 rfl rfl rfl ?_
      refine v_getR (n := 92) f_X9_21 rfl L.s L.g1 dX9_roll_89 rfl ?_
      refine v_aload_n (n := 93) dX9_roll_92 rfl rfl rfl ?_
      refine v_getR (n := 96) f_X9_21 rfl L.s L.g1 dX9_roll_93 rfl ?_
      refine v_getI (n := 99) f_X9_98 rfl L.c1.s dX9_roll_96 rfl ?_
      refine v_if_gt (n := 102) (tgt := 106) dX9_roll_99 (by decide) rfl (fun hq99 => ?_) (fun hq99 => ?_)
      · rw [hP, hp6] at hq99
        have hp0 := gt0 hq99 (by omega)
        refine v_aload_n (n := 107) dX9_roll_106 rfl rfl rfl ?_
        refine v_getR (n := 110) f_X9_21 rfl L.s L.g1 dX9_roll_107 rfl ?_
        refine v_getI (n := 113) f_X9_98 rfl L.c1.s dX9_roll_110 rfl ?_
        rw [hP, hp6]
        refine v_iconst (n := 114) (v := 1) dX9_roll_113 c_1 rfl ?_
        refine v_isub (n := 115) dX9_roll_114 rfl ?_
        refine v_tp (y := nI p2) (by rw [← hpk, bkP, pk_us, hp6, hk1]; exact bk_1 hp0 hp1 hn) ?_
        refine v_putI (n := 118) f_X9_98 rfl (Or.inl rfl) L.c1.s dX9_roll_115 rfl ?_
        obtain ⟨J0, hJ0⟩ : ∃ J9q : In, J9q = (setI J (v + 6) 5 (nI p2)) := ⟨_, rfl⟩
        rw [← hJ0]
        have hR0 : RgR J0 (v + 1) (bkP (bwX X T l i)) n := by rw [hJ0]; exact hR.set (by omega) (by decide)
        have hF0 : rlF I J0 v := by
          rw [hJ0]
          exact ⟨hF.1.set (Or.inr (Or.inr rfl)), fun j hj => by rw [sI_k hj]; exact hF.2 j hj⟩
        have hpl : pl (bkP (bwX X T l i)) = p2 := by rw [pl, hpk, nI_clamp (by omega)]
        have hw2 : wideX (bkP (bwX X T l i)) T l = w := by
          rw [← hw]
          exact wide_cong hl (fun j a b => by rw [bkP, pk_un a]; exact hkeep j a (by omega))
        refine v_iload (n := 120) dX9_roll_118 rfl rfl ?_
        refine v_aload_n (n := 121) dX9_roll_120 rfl rfl rfl ?_
        refine v_getR (n := 124) f_X9_12 rfl L.s L.g0 dX9_roll_121 rfl ?_
        refine v_aload_n (n := 125) dX9_roll_124 rfl rfl rfl ?_
        refine v_getR (n := 128) f_X9_21 rfl L.s L.g1 dX9_roll_125 rfl ?_
        refine v_getI (n := 131) f_X9_98 rfl L.c1.s dX9_roll_128 rfl ?_
        rw [show J0 (v + 6) 5 = nI p2 from by rw [hJ0, sI_s]]
        refine v_iload_n (n := 132) dX9_roll_131 rfl rfl rfl ?_
        refine v_cVi (n := 135) (x := (if J0 (v + 1 + 3) p2 < w then 1 else 0)) mc_X5_squeezeThrough l_X9_131 iv_X5_squeezeThrough se_X5_squeezeThrough (ci := 4) ⟨by decide, rfl⟩ L.c0.s (k_X5_squeezeThrough (n := n) (y := p2) L.c0 hR0.1 hn hp2) ⟨rfl, rfl⟩ (l8 rfl) ⟨l8 rfl, l8 rfl⟩ rfl rfl (l8 rfl) dX9_roll_132 rfl ?_
        obtain ⟨J1, hJ1⟩ : ∃ J9q : In, J9q = (if J0 (v + 1 + 3) p2 < w then setI (setI J0 (v + 1 + 4) p2 (J0 (v + 1 + 4) p2 + 1)) (v + 1 + 3) p2 w else J0) := ⟨_, rfl⟩
        rw [← hJ1]
        obtain ⟨e1, e2⟩ := sq_rel (T := T) (l := l) hR0 hp2 hw2
        rw [← hJ1] at e2
        refine v_iadd (n := 136) dX9_roll_135 rfl ?_
        refine v_istore (n := 138) (al' := [.ref v, .int st, .int w, .int (nI (n - 1)), .int ((bwN X T l c i) + (if J0 (v + 1 + 3) p2 < w then 1 else 0)), .int (-(nI i))]) dX9_roll_136 rfl rfl rfl ?_
        refine v_iinc (n := 141) (v := (-(nI i)) + (-1)) (al' := [.ref v, .int st, .int w, .int (nI (n - 1)), .int ((bwN X T l c i) + (if J0 (v + 1 + 3) p2 < w then 1 else 0)), .int ((-(nI i)) + (-1))]) dX9_roll_138 rfl (by rw [c_m1]) rfl rfl rfl ?_
        refine v_goto (tgt := 82) dX9_roll_141 (by decide) ?_
        rw [show -(nI i) + (-1) = -(nI (i + 1)) from neg_s i]
        rw [show bwN X T l c i + (if J0 (v + 1 + 3) p2 < w then 1 else 0) = bwN X T l c (i + 1) from by rw [bwN, e1, hpl]]
        refine ih (i + 1) hlt (by omega) J1 (by rw [bwX, hpl]; exact e2) ?_ ⟨?_, fun j hj => ?_⟩
        · rw [hJ1, sq_o (by omega) (by omega), hJ0, sI_s, bwX, pass_o (by omega) (by omega), hpk]
        · rw [hJ1]; exact sq_eqx hF0.1 (Or.inl rfl) (Or.inr (Or.inl rfl))
        · rw [hJ1, sq_o (by omega) (by omega)]; exact hF0.2 j hj
      · rw [hP, hp6] at hq99
        have hp0 := ngt0 hq99 (by omega)
        refine v_iload_n (n := 103) dX9_roll_102 rfl rfl rfl ?_
        refine v_goto (tgt := 115) dX9_roll_103 (by decide) ?_
        refine v_tp (y := nI p2) (by rw [← hpk, bkP, pk_us, hp6, hk1]; exact bk_0 hp0 hp1 hn) ?_
        refine v_putI (n := 118) f_X9_98 rfl (Or.inl rfl) L.c1.s dX9_roll_115 rfl ?_
        obtain ⟨J0, hJ0⟩ : ∃ J9q : In, J9q = (setI J (v + 6) 5 (nI p2)) := ⟨_, rfl⟩
        rw [← hJ0]
        have hR0 : RgR J0 (v + 1) (bkP (bwX X T l i)) n := by rw [hJ0]; exact hR.set (by omega) (by decide)
        have hF0 : rlF I J0 v := by
          rw [hJ0]
          exact ⟨hF.1.set (Or.inr (Or.inr rfl)), fun j hj => by rw [sI_k hj]; exact hF.2 j hj⟩
        have hpl : pl (bkP (bwX X T l i)) = p2 := by rw [pl, hpk, nI_clamp (by omega)]
        have hw2 : wideX (bkP (bwX X T l i)) T l = w := by
          rw [← hw]
          exact wide_cong hl (fun j a b => by rw [bkP, pk_un a]; exact hkeep j a (by omega))
        refine v_iload (n := 120) dX9_roll_118 rfl rfl ?_
        refine v_aload_n (n := 121) dX9_roll_120 rfl rfl rfl ?_
        refine v_getR (n := 124) f_X9_12 rfl L.s L.g0 dX9_roll_121 rfl ?_
        refine v_aload_n (n := 125) dX9_roll_124 rfl rfl rfl ?_
        refine v_getR (n := 128) f_X9_21 rfl L.s L.g1 dX9_roll_125 rfl ?_
        refine v_getI (n := 131) f_X9_98 rfl L.c1.s dX9_roll_128 rfl ?_
        rw [show J0 (v + 6) 5 = nI p2 from by rw [hJ0, sI_s]]
        refine v_iload_n (n := 132) dX9_roll_131 rfl rfl rfl ?_
        refine v_cVi (n := 135) (x := (if J0 (v + 1 + 3) p2 < w then 1 else 0)) mc_X5_squeezeThrough l_X9_131 iv_X5_squeezeThrough se_X5_squeezeThrough (ci := 4) ⟨by decide, rfl⟩ L.c0.s (k_X5_squeezeThrough (n := n) (y := p2) L.c0 hR0.1 hn hp2) ⟨rfl, rfl⟩ (l8 rfl) ⟨l8 rfl, l8 rfl⟩ rfl rfl (l8 rfl) dX9_roll_132 rfl ?_
        obtain ⟨J1, hJ1⟩ : ∃ J9q : In, J9q = (if J0 (v + 1 + 3) p2 < w then setI (setI J0 (v + 1 + 4) p2 (J0 (v + 1 + 4) p2 + 1)) (v + 1 + 3) p2 w else J0) := ⟨_, rfl⟩
        rw [← hJ1]
        obtain ⟨e1, e2⟩ := sq_rel (T := T) (l := l) hR0 hp2 hw2
        rw [← hJ1] at e2
        refine v_iadd (n := 136) dX9_roll_135 rfl ?_
        refine v_istore (n := 138) (al' := [.ref v, .int st, .int w, .int (nI (n - 1)), .int ((bwN X T l c i) + (if J0 (v + 1 + 3) p2 < w then 1 else 0)), .int (-(nI i))]) dX9_roll_136 rfl rfl rfl ?_
        refine v_iinc (n := 141) (v := (-(nI i)) + (-1)) (al' := [.ref v, .int st, .int w, .int (nI (n - 1)), .int ((bwN X T l c i) + (if J0 (v + 1 + 3) p2 < w then 1 else 0)), .int ((-(nI i)) + (-1))]) dX9_roll_138 rfl (by rw [c_m1]) rfl rfl rfl ?_
        refine v_goto (tgt := 82) dX9_roll_141 (by decide) ?_
        rw [show -(nI i) + (-1) = -(nI (i + 1)) from neg_s i]
        rw [show bwN X T l c i + (if J0 (v + 1 + 3) p2 < w then 1 else 0) = bwN X T l c (i + 1) from by rw [bwN, e1, hpl]]
        refine ih (i + 1) hlt (by omega) J1 (by rw [bwX, hpl]; exact e2) ?_ ⟨?_, fun j hj => ?_⟩
        · rw [hJ1, sq_o (by omega) (by omega), hJ0, sI_s, bwX, pass_o (by omega) (by omega), hpk]
        · rw [hJ1]; exact sq_eqx hF0.1 (Or.inl rfl) (Or.inr (Or.inl rfl))
        · rw [hJ1, sq_o (by omega) (by omega)]; exact hF0.2 j hj

set_option maxRecDepth 100000 in
set_option maxHeartbeats 1000000 in
theorem l16_X9_roll {ro : Ro} {S : St} {I : In} {v n p T l : Nat} {X : Ar} {st w : Int32} (L : LayV S v) (h1 : X 1 = nI n) (hn : n ≤ 10) (h6 : X 6 = nI p) (hp : p < n) (hl : l ≤ 30) (hst : -20 ≤ st.toInt ∧ st.toInt ≤ 20) (hw : wideX X T l = w) : ∀ k i, i ≤ st.toNatClampNeg → st.toNatClampNeg < i + k → ∀ J, RgR J (v + 1) (fwX X T l i) n → J (v + 6) 5 = fwX X T l i 6 → rlF I J v → V RX9 cX9_roll 6 (some .int) "roll" ro (rmD 2 0 0) (QM 0 0 (fun r S' I' => r = some (.int (bwN (fwX X T l st.toNatClampNeg) T l (fwN X T l st.toNatClampNeg) (-st).toNatClampNeg)) ∧ S' = S ∧ RgR I' (v + 1) (bwX (fwX X T l st.toNatClampNeg) T l (-st).toNatClampNeg) n ∧ I' (v + 6) 5 = (bwX (fwX X T l st.toNatClampNeg) T l (-st).toNatClampNeg) 6 ∧ rlF I I' v)) 0 0 16 [.ref v, .int st, .int w, .int (nI (n - 1)), .int (fwN X T l i), .int (nI i)] [] S J := by
  have hb20 := posN hst
  intro k
  induction k with
  | zero => intro i hi hk; exact absurd hk (by omega)
  | succ k ih =>
    intro i hi hk J hR hP hF
    refine v_iload (n := 18) dX9_roll_16 rfl rfl ?_
    refine v_iload_n (n := 19) dX9_roll_18 rfl rfl rfl ?_
    refine v_icmp_ge (n := 22) (tgt := 79) dX9_roll_19 (by decide) rfl (fun hq19 => ?_) (fun hq19 => ?_)
    · have hbi : i = st.toNatClampNeg := by
        have := pos_le hq19 (by omega)
        omega
      refine v_iconst (n := 80) (v := 0) dX9_roll_79 c_0 rfl ?_
      refine v_istore (n := 82) (al' := [.ref v, .int st, .int w, .int (nI (n - 1)), .int (fwN X T l i), .int 0]) dX9_roll_80 rfl rfl rfl ?_
      subst hbi
      obtain ⟨⟨p1, hp1, hp6⟩, hkeep⟩ := fw_spec (T := T) (l := l) h1 hn h6 hp st.toNatClampNeg
      exact l82_X9_roll L ((hkeep 1 (by decide) (by decide)).trans h1) hn hp6 hp1 hl hst (by rw [← hw]; exact wide_cong hl (fun j a b => hkeep j a (by omega))) ((-st).toNatClampNeg + 1) 0 (Nat.zero_le _) (by omega) J hR hP hF
    · have hlt := npos_le hq19 (by omega)
      obtain ⟨⟨p1, hp1, hp6⟩, hkeep⟩ := fw_spec (T := T) (l := l) h1 hn h6 hp i
      have hk1 : fwX X T l i 1 = nI n := (hkeep 1 (by decide) (by decide)).trans h1
      have hpl : pl (fwX X T l i) = p1 := by rw [pl, hp6, nI_clamp (by omega)]
      have hw2 : wideX (fwX X T l i) T l = w := by
        rw [← hw]
        exact wide_cong hl (fun j a b => hkeep j a (by omega))
      refine v_iload (n := 24) dX9_roll_22 rfl rfl ?_
      refine v_aload_n (n := 25) dX9_roll_24 rfl rfl rfl ?_
      refine v_getR (n := 28) f_X9_12 rfl L.s L.g0 dX9_roll_25 rfl ?_
      refine v_aload_n (n := 29) dX9_roll_28 rfl rfl rfl ?_
      refine v_getR (n := 32) f_X9_21 rfl L.s L.g1 dX9_roll_29 rfl ?_
      refine v_getI (n := 35) f_X9_98 rfl L.c1.s dX9_roll_32 rfl ?_
      rw [hP, hp6]
      refine v_iload_n (n := 36) dX9_roll_35 rfl rfl rfl ?_
      refine v_cVi (n := 39) (x := (if J (v + 1 + 3) p1 < w then 1 else 0)) mc_X5_squeezeThrough l_X9_131 iv_X5_squeezeThrough se_X5_squeezeThrough (ci := 4) ⟨by decide, rfl⟩ L.c0.s (k_X5_squeezeThrough (n := n) (y := p1) L.c0 hR.1 hn hp1) ⟨rfl, rfl⟩ (l8 rfl) ⟨l8 rfl, l8 rfl⟩ rfl rfl (l8 rfl) dX9_roll_36 rfl ?_
      obtain ⟨J1, hJ1⟩ : ∃ J9q : In, J9q = (if J (v + 1 + 3) p1 < w then setI (setI J (v + 1 + 4) p1 (J (v + 1 + 4) p1 + 1)) (v + 1 + 3) p1 w else J) := ⟨_, rfl⟩
      rw [← hJ1]
      obtain ⟨e1, e2⟩ := sq_rel (T := T) (l := l) hR hp1 hw2
      rw [← hJ1] at e2
      have hP1 : J1 (v + 6) 5 = nI p1 := by rw [hJ1, sq_o (by omega) (by omega), hP, hp6]
      refine v_iadd (n := 40) dX9_roll_39 rfl ?_
      refine v_istore (n := 42) (al' := [.ref v, .int st, .int w, .int (nI (n - 1)), .int ((fwN X T l i) + (if J (v + 1 + 3) p1 < w then 1 else 0)), .int (nI i)]) dX9_roll_40 rfl rfl rfl ?_
      refine v_aload_n (n := 43) dX9_roll_42 rfl rfl rfl ?_
      refine v_getR (n := 46) f_X9_21 rfl L.s L.g1 dX9_roll_43 rfl ?_
      refine v_aload_n (n := 47) dX9_roll_46 rfl rfl rfl ?_
      refine v_getR (n := 50) f_X9_21 rfl L.s L.g1 dX9_roll_47 rfl ?_
      refine v_getI (n := 53) f_X9_98 rfl L.c1.s dX9_roll_50 rfl ?_
      refine v_iload_n (n := 54) dX9_roll_53 rfl rfl rfl ?_
      refine v_icmp_lt (n := 57) (tgt := 61) dX9_roll_54 (by decide) rfl (fun hq54 => ?_) (fun hq54 => ?_)
      · rw [hP1] at hq54
        have hq54 : p1 < n - 1 := by
          rcases Nat.lt_or_ge p1 (n - 1) with q | q
          · exact q
          · exact absurd hq54 (Int32.not_lt.mpr ((nI_leI (by omega) (by omega)).mpr q))
        refine v_aload_n (n := 62) dX9_roll_61 rfl rfl rfl ?_
        refine v_getR (n := 65) f_X9_21 rfl L.s L.g1 dX9_roll_62 rfl ?_
        refine v_getI (n := 68) f_X9_98 rfl L.c1.s dX9_roll_65 rfl ?_
        rw [hP1]
        refine v_iconst (n := 69) (v := 1) dX9_roll_68 c_1 rfl ?_
        refine v_iadd (n := 70) dX9_roll_69 rfl ?_
        refine v_tp (y := (nI p1 + 1) % nI n) (fw_1 hq54 hn) ?_
        refine v_putI (n := 73) f_X9_98 rfl (Or.inl rfl) L.c1.s dX9_roll_70 rfl ?_
        refine v_iinc (n := 76) (v := (nI i) + 1) (al' := [.ref v, .int st, .int w, .int (nI (n - 1)), .int ((fwN X T l i) + (if J (v + 1 + 3) p1 < w then 1 else 0)), .int ((nI i) + 1)]) dX9_roll_73 rfl (by rw [c_1]) rfl rfl rfl ?_
        refine v_goto (tgt := 16) dX9_roll_76 (by decide) ?_
        rw [nI_1, show fwN X T l i + (if J (v + 1 + 3) p1 < w then 1 else 0) = fwN X T l (i + 1) from by rw [fwN, e1, hpl]]
        refine ih (i + 1) hlt (by omega) _ ?_ ?_ ⟨?_, fun j hj => ?_⟩
        · rw [fwX, hpl]; exact e2.set (by omega) (by decide)
        · rw [sI_s, fwX, pk_us, hp6, hk1]
        · rw [hJ1]; exact (sq_eqx hF.1 (Or.inl rfl) (Or.inr (Or.inl rfl))).set (Or.inr (Or.inr rfl))
        · rw [sI_k hj, hJ1, sq_o (by omega) (by omega)]; exact hF.2 j hj
      · rw [hP1] at hq54
        have hq54 := le_out (Int32.not_lt.mp hq54) (by omega) (by omega)
        refine v_iconst (n := 58) (v := 0) dX9_roll_57 c_0 rfl ?_
        refine v_goto (tgt := 70) dX9_roll_58 (by decide) ?_
        refine v_tp (y := (nI p1 + 1) % nI n) (fw_0 hq54 hp1 hn) ?_
        refine v_putI (n := 73) f_X9_98 rfl (Or.inl rfl) L.c1.s dX9_roll_70 rfl ?_
        refine v_iinc (n := 76) (v := (nI i) + 1) (al' := [.ref v, .int st, .int w, .int (nI (n - 1)), .int ((fwN X T l i) + (if J (v + 1 + 3) p1 < w then 1 else 0)), .int ((nI i) + 1)]) dX9_roll_73 rfl (by rw [c_1]) rfl rfl rfl ?_
        refine v_goto (tgt := 16) dX9_roll_76 (by decide) ?_
        rw [nI_1, show fwN X T l i + (if J (v + 1 + 3) p1 < w then 1 else 0) = fwN X T l (i + 1) from by rw [fwN, e1, hpl]]
        refine ih (i + 1) hlt (by omega) _ ?_ ?_ ⟨?_, fun j hj => ?_⟩
        · rw [fwX, hpl]; exact e2.set (by omega) (by decide)
        · rw [sI_s, fwX, pk_us, hp6, hk1]
        · rw [hJ1]; exact (sq_eqx hF.1 (Or.inl rfl) (Or.inr (Or.inl rfl))).set (Or.inr (Or.inr rfl))
        · rw [sI_k hj, hJ1, sq_o (by omega) (by omega)]; exact hF.2 j hj

set_option maxRecDepth 100000 in
set_option maxHeartbeats 1000000 in
theorem k_X9_roll {ro : Ro} {S : St} {I : In} {v n p T l : Nat} {X : Ar} {st w : Int32} (L : LayV S v) (h1 : X 1 = nI n) (hn : n ≤ 10) (h6 : X 6 = nI p) (hp : p < n) (hl : l ≤ 30) (hst : -20 ≤ st.toInt ∧ st.toInt ≤ 20) (hw : wideX X T l = w) (hR : RgR I (v + 1) X n) (hP : I (v + 6) 5 = X 6) : Ok mX9_roll ro 2 0 0 [.ref v, .int st, .int w] S I (fun r S' I' => r = some (.int (bwN (fwX X T l st.toNatClampNeg) T l (fwN X T l st.toNatClampNeg) (-st).toNatClampNeg)) ∧ S' = S ∧ RgR I' (v + 1) (bwX (fwX X T l st.toNatClampNeg) T l (-st).toNatClampNeg) n ∧ I' (v + 6) 5 = (bwX (fwX X T l st.toNatClampNeg) T l (-st).toNatClampNeg) 6 ∧ rlF I I' v) := by
  refine ok_of (al := [.ref v, .int st, .int w, JJ, JJ, JJ]) (by decide) (l8 rfl) rfl ?_
  refine v_aload_n (n := 1) dX9_roll_0 rfl rfl rfl ?_
  refine v_getR (n := 4) f_X9_12 rfl L.s L.g0 dX9_roll_1 rfl ?_
  refine v_getI (n := 7) f_X9_128 rfl L.c0.s dX9_roll_4 rfl ?_
  refine v_iconst (n := 8) (v := 1) dX9_roll_7 c_1 rfl ?_
  refine v_isub (n := 9) dX9_roll_8 rfl ?_
  rw [hR.1, nI_p1 (by omega)]
  refine v_istore_n (n := 10) (al' := [.ref v, .int st, .int w, .int (nI (n - 1)), JJ, JJ]) dX9_roll_9 rfl rfl rfl rfl ?_
  refine v_iconst (n := 11) (v := 0) dX9_roll_10 c_0 rfl ?_
  refine v_istore (n := 13) (al' := [.ref v, .int st, .int w, .int (nI (n - 1)), .int 0, JJ]) dX9_roll_11 rfl rfl rfl ?_
  refine v_iconst (n := 14) (v := 0) dX9_roll_13 c_0 rfl ?_
  refine v_istore (n := 16) (al' := [.ref v, .int st, .int w, .int (nI (n - 1)), .int 0, .int 0]) dX9_roll_14 rfl rfl rfl ?_
  exact l16_X9_roll L h1 hn h6 hp hl hst hw (st.toNatClampNeg + 1) 0 (Nat.zero_le _) (by omega) I hR hP ⟨Eqx.rf, fun _ _ => rfl⟩

